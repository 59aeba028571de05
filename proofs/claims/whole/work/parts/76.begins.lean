/-! ===== the reference reads a law: a part begins ===== -/
abbrev WT (h : aH) (g : Nat → Int) (w : Int) (NC OP SG BS : Nat → Int) : aH := va_up (va_up (va_up (va_up (va_up h 68 (RG g w)) 87 (.inl (0, 1500, NC))) 89 (.inl (0, 13, OP))) 90 (.inl (0, 13, SG))) 91 (.inl (0, 13, BS))
theorem wt_mk {h h' : aH} {g : Nat → Int} {w : Int} {NC OP SG BS : Nat → Int} (c68 : h' 68 = RG g w) (c87 : h' 87 = .inl (0, 1500, NC)) (c89 : h' 89 = .inl (0, 13, OP)) (c90 : h' 90 = .inl (0, 13, SG)) (c91 : h' 91 = .inl (0, 13, BS)) (fr : ∀ j, ¬ j = 68 → ¬ j = 87 → ¬ j = 89 → ¬ j = 90 → ¬ j = 91 → h' j = h j) : h' = WT h g w NC OP SG BS := by
  funext j
  unfold WT va_up
  by_cases q1 : j = 91
  · rw [if_pos q1, q1, c91]
  rw [if_neg q1]
  by_cases q2 : j = 90
  · rw [if_pos q2, q2, c90]
  rw [if_neg q2]
  by_cases q3 : j = 89
  · rw [if_pos q3, q3, c89]
  rw [if_neg q3]
  by_cases q4 : j = 87
  · rw [if_pos q4, q4, c87]
  rw [if_neg q4]
  by_cases q5 : j = 68
  · rw [if_pos q5, q5, c68]
  rw [if_neg q5]
  exact fr j q5 q4 q3 q2 q1
theorem wt_wt (h : aH) (g g2 : Nat → Int) (w w2 : Int) (a b c d a2 b2 c2 d2 : Nat → Int) : WT (WT h g w a b c d) g2 w2 a2 b2 c2 d2 = WT h g2 w2 a2 b2 c2 d2 := wt_mk rfl rfl rfl rfl rfl (fun j q1 q2 q3 q4 q5 => by simp only [va_up, q1, q2, q3, q4, q5, if_false])
abbrev BgR : Type := (Int × Nat) ⊕ ((Int × Int × Nat) ⊕ (Int × Int × Nat))
def bgP (t : Nat → Int) (le : Nat) (a : Int) (e : Nat) : BgR := if signAt t le (tkE t le e) 40 = true then .inr (.inr (a, 1, tkE t le (tkE t le e))) else .inl (1, tkS t le (tkE t le e))
def bgN (a : Int) (r : (Int × Nat) ⊕ (Int × Nat)) : BgR := match r with
  | .inl x => .inl x
  | .inr y => .inr (.inl (a, y.1, y.2))
def bgM (r : (Int × Nat) ⊕ (Nat × Nat)) : BgR := match r with
  | .inl x => .inl x
  | .inr y => .inr (.inl (2, (y.1 : Int), y.2))
def bgL (r : (Int × Nat) ⊕ (Int × Nat)) : BgR := match r with
  | .inl x => .inl x
  | .inr y => .inr (.inr (14, y.1, y.2))
def bgT (t : Nat → Int) (le : Nat) (nd : Int) (e : Nat) : BgR := if wordAt t le e 0 = true then bgN 1 (pNum t le 0 (nd - 1) (tkE t le e)) else if wordAt t le e 11 = true then bgM (pMdi t le nd (tkE t le e)) else if wordAt t le e 12 = true then bgP t le 12 e else if wordAt t le e 13 = true then bgP t le 13 e else if wordAt t le e 14 = true then bgL (pSgn t le 720 (tkE t le e)) else if wordAt t le e 15 = true then .inr (.inr (15, 1, tkE t le e)) else .inl (4, tkS t le e)
def bgE (t : Nat → Int) (le : Nat) (e : Nat) : BgR := if wordAt t le e 16 = true then .inr (.inr (19, 1, tkE t le e)) else if wordAt t le e 17 = true then .inr (.inr (20, 1, tkE t le e)) else if wordAt t le e 18 = true then bgN 9 (pNum t le 0 11 (tkE t le e)) else if wordAt t le e 19 = true then bgP t le 22 e else .inl (4, tkS t le e)
def bgR (t : Nat → Int) (le : Nat) (nd : Int) (o : Nat) (b : Bool) (e : Nat) : BgR := if tkK t le e = 1 then (if o = 12 then .inl (2, tkS t le e) else if b = true then bgT t le nd e else bgE t le e) else .inl (1, tkS t le e)
def BgQ (t : Nat → Int) (le : Nat) (nd : Int) (r : BgR) (h : aH) (g NC OP SG BS : Nat → Int) (tp o : Nat) : Option Value → Nat → aH → Prop := fun v n' h' => n' = 97 ∧ ∃ (g2 : Nat → Int) (w2 : Int) (NC2 OP2 SG2 BS2 : Nat → Int), h' = WT h g2 w2 NC2 OP2 SG2 BS2 ∧ ((∃ f p, r = .inl (f, p) ∧ (1 ≤ f ∧ f ≤ 4) ∧ g2 9 = f ∧ g2 10 = ((p : Nat) : Int) ∧ ∃ z : Int, v = some (iv z) ∧ (z = 0 ∨ z = 1)) ∨ (∃ a c e2, r = .inr (.inl (a, c, e2)) ∧ v = some (iv 1) ∧ RS t le e2 g2 w2 ∧ g2 9 = 0 ∧ g2 10 = g 10 ∧ g2 51 = (tp : Int) + 2 ∧ g2 52 = (o : Int) ∧ NC2 = va_up (va_up NC tp a) (tp + 1) c ∧ OP2 = OP ∧ SG2 = SG ∧ BS2 = BS ∧ (a = 2 → 0 ≤ c ∧ c < ((2 ^ nd.toNat : Nat) : Int))) ∨ (∃ a c e2, r = .inr (.inr (a, c, e2)) ∧ v = some (iv 0) ∧ RS t le e2 g2 w2 ∧ g2 9 = 0 ∧ g2 10 = g 10 ∧ g2 51 = (tp : Int) ∧ g2 52 = (o : Int) + 1 ∧ NC2 = NC ∧ OP2 = va_up OP o a ∧ SG2 = va_up SG o 0 ∧ BS2 = va_up BS o c)) ∧ ∀ k, ¬ (9 ≤ k ∧ k ≤ 10) → ¬ (13 ≤ k ∧ k ≤ 18) → ¬ (51 ≤ k ∧ k ≤ 52) → g2 k = g k
def whF (t : Nat → Int) (le e lo : Nat) : Nat → Int
  | 0 => -1
  | n + 1 => if wordAt t le e (wIx (lo + n)) = true then ((lo + n : Nat) : Int) else whF t le e lo n
theorem whF_B (t : Nat → Int) (le e lo : Nat) (hl : lo ≤ 20) : ∀ n, n ≤ 6 → -1 ≤ whF t le e lo n ∧ whF t le e lo n ≤ 30 := by
  intro n
  induction n with
  | zero => intro _; exact ⟨Int.le_refl _, show (-1 : Int) ≤ 30 by decide⟩
  | succ n ih =>
    intro hn
    have := ih (by omega)
    unfold whF
    split <;> omega
theorem word_nl {t : Nat → Int} {le e i j : Nat} (h : wordAt t le e i = true) (hl : ¬ sLen i = sLen j) : wordAt t le e j = false := by
  rw [Bool.eq_false_iff]
  intro q
  unfold wordAt at h q
  rw [Bool.and_eq_true, Bool.and_eq_true, decide_eq_true_eq, decide_eq_true_eq] at h q
  omega

theorem l_X9_whT {h : aH} {g : Nat → Int} {w : Int} (c68 : h 68 = RG g w) {trr : Nat → Int} (c72 : h 72 = .inl (0, 700, trr)) {t : Nat → Int} (ht : ∀ j, -128 ≤ t j ∧ t j ≤ 127) {le : Nat} (hle : le ≤ 700) (htt : ∀ j, j < le → trr j = t j % 256) {e : Nat} (rs : RS t le e g w) {Q : Option Value → Nat → aH → Prop} {d : Nat} (hd3 : 3 ≤ d) : ∀ (n j : Nat), j + n = 5 → Ev RX9 "begins" cX9_begins 4 (some .boolean) d 0 0 Q noX 97 h 93 [(0, .ref 68), (1, iv 0), (2, iv (whF t le e 11 5)), (3, iv 16)] [] → Ev RX9 "begins" cX9_begins 4 (some .boolean) d 0 0 Q noX 97 h 62 [(0, .ref 68), (1, iv 0), (2, iv (whF t le e 11 j)), (3, iv ((11 + j : Nat) : Int))] [] := by
  intro n
  induction n with
  | zero =>
    intro j hj kk
    obtain rfl : j = 5 := by omega
    refine r_iload_n dX9_begins_62 rfl rfl ?_
    refine r_iload_n dX9_begins_63 rfl rfl ?_
    refine r_if_eq (tgt := 72) dX9_begins_64 (by decide) ⟨by omega, by omega⟩ (fun g64 => ?_) (fun g64 => absurd g64 (by omega))
    refine r_bipush dX9_begins_72 rfl ?_
    refine r_icmp_gt (tgt := 93) dX9_begins_74 (by decide) ⟨by omega, by omega⟩ ⟨by omega, by omega⟩ (fun g74 => ?_) (fun g74 => absurd g74 (by omega))
    exact kk
  | succ n ih =>
    intro j hj kk
    have b3 := b2i_01 (wordAt t le e (wIx (11 + j)))
    have hi := ih (j + 1) (by omega) kk
    unfold whF at hi
    refine r_iload_n dX9_begins_62 rfl rfl ?_
    refine r_iload_n dX9_begins_63 rfl rfl ?_
    refine r_if_eq (tgt := 72) dX9_begins_64 (by decide) ⟨by omega, by omega⟩ (fun g64 => ?_) (fun g64 => absurd g64 (by omega))
    refine r_bipush dX9_begins_72 rfl ?_
    refine r_icmp_gt (tgt := 93) dX9_begins_74 (by decide) ⟨by omega, by omega⟩ ⟨by omega, by omega⟩ (fun g74 => absurd g74 (by omega)) (fun g74 => ?_)
    refine r_aload_n dX9_begins_77 rfl rfl ?_
    refine r_iload_n dX9_begins_78 rfl rfl ?_
    refine r_callV 68 [_] (s_X9_is (g := g) (k := (11 + j)) c68 c72 ht hle htt rs (by omega) (by omega)) dX9_begins_79 cs_X9_178 im_X9_is (by decide) c68 rfl (by omega) (by decide) (by decide) rfl rfl (Nat.le_of_ble_eq_true rfl) (fun _ _ _ q => q.elim) (fun v n2 h2 q => ?_)
    obtain ⟨rfl, rfl, hh⟩ := q
    obtain rfl := hh.symm
    refine ⟨rfl, ?_⟩
    dsimp only [Option.toList, List.cons_append, List.nil_append]
    refine r_if_eq (tgt := 87) dX9_begins_82 (by decide) ⟨by omega, by omega⟩ (fun g82 => ?_) (fun g82 => ?_)
    · refine r_iinc (lv2 := [(0, _), (1, _), (2, _), (3, _)]) dX9_begins_87 (by decide) rfl rfl rfl ?_
      refine r_goto (tgt := 62) dX9_begins_90 (by decide) ?_
      rw [show (((11 + j : Nat) : Int) + 1) = ((11 + (j + 1) : Nat) : Int) by omega]
      rw [b2i_0] at g82
      rw [if_neg (by rw [g82]; decide)] at hi
      exact hi
    · refine r_iload_n dX9_begins_85 rfl rfl ?_
      refine r_istore_n (lv2 := [(0, _), (1, _), (2, _), (3, _)]) dX9_begins_86 rfl (by decide) rfl rfl ?_
      refine r_iinc (lv2 := [(0, _), (1, _), (2, _), (3, _)]) dX9_begins_87 (by decide) rfl rfl rfl ?_
      refine r_goto (tgt := 62) dX9_begins_90 (by decide) ?_
      rw [show (((11 + j : Nat) : Int) + 1) = ((11 + (j + 1) : Nat) : Int) by omega]
      rw [b2i_0, Bool.not_eq_false] at g82
      rw [if_pos g82] at hi
      exact hi

theorem l_X9_whE {h : aH} {g : Nat → Int} {w : Int} (c68 : h 68 = RG g w) {trr : Nat → Int} (c72 : h 72 = .inl (0, 700, trr)) {t : Nat → Int} (ht : ∀ j, -128 ≤ t j ∧ t j ≤ 127) {le : Nat} (hle : le ≤ 700) (htt : ∀ j, j < le → trr j = t j % 256) {e : Nat} (rs : RS t le e g w) {Q : Option Value → Nat → aH → Prop} {d : Nat} (hd3 : 3 ≤ d) : ∀ (n j : Nat), j + n = 4 → Ev RX9 "begins" cX9_begins 4 (some .boolean) d 0 0 Q noX 97 h 93 [(0, .ref 68), (1, iv 1), (2, iv (whF t le e 19 4)), (3, iv 23)] [] → Ev RX9 "begins" cX9_begins 4 (some .boolean) d 0 0 Q noX 97 h 62 [(0, .ref 68), (1, iv 1), (2, iv (whF t le e 19 j)), (3, iv ((19 + j : Nat) : Int))] [] := by
  intro n
  induction n with
  | zero =>
    intro j hj kk
    obtain rfl : j = 4 := by omega
    refine r_iload_n dX9_begins_62 rfl rfl ?_
    refine r_iload_n dX9_begins_63 rfl rfl ?_
    refine r_if_eq (tgt := 72) dX9_begins_64 (by decide) ⟨by omega, by omega⟩ (fun g64 => absurd g64 (by omega)) (fun g64 => ?_)
    refine r_bipush dX9_begins_67 rfl ?_
    refine r_goto (tgt := 74) dX9_begins_69 (by decide) ?_
    refine r_icmp_gt (tgt := 93) dX9_begins_74 (by decide) ⟨by omega, by omega⟩ ⟨by omega, by omega⟩ (fun g74 => ?_) (fun g74 => absurd g74 (by omega))
    exact kk
  | succ n ih =>
    intro j hj kk
    have b3 := b2i_01 (wordAt t le e (wIx (19 + j)))
    have hi := ih (j + 1) (by omega) kk
    unfold whF at hi
    refine r_iload_n dX9_begins_62 rfl rfl ?_
    refine r_iload_n dX9_begins_63 rfl rfl ?_
    refine r_if_eq (tgt := 72) dX9_begins_64 (by decide) ⟨by omega, by omega⟩ (fun g64 => absurd g64 (by omega)) (fun g64 => ?_)
    refine r_bipush dX9_begins_67 rfl ?_
    refine r_goto (tgt := 74) dX9_begins_69 (by decide) ?_
    refine r_icmp_gt (tgt := 93) dX9_begins_74 (by decide) ⟨by omega, by omega⟩ ⟨by omega, by omega⟩ (fun g74 => absurd g74 (by omega)) (fun g74 => ?_)
    refine r_aload_n dX9_begins_77 rfl rfl ?_
    refine r_iload_n dX9_begins_78 rfl rfl ?_
    refine r_callV 68 [_] (s_X9_is (g := g) (k := (19 + j)) c68 c72 ht hle htt rs (by omega) (by omega)) dX9_begins_79 cs_X9_178 im_X9_is (by decide) c68 rfl (by omega) (by decide) (by decide) rfl rfl (Nat.le_of_ble_eq_true rfl) (fun _ _ _ q => q.elim) (fun v n2 h2 q => ?_)
    obtain ⟨rfl, rfl, hh⟩ := q
    obtain rfl := hh.symm
    refine ⟨rfl, ?_⟩
    dsimp only [Option.toList, List.cons_append, List.nil_append]
    refine r_if_eq (tgt := 87) dX9_begins_82 (by decide) ⟨by omega, by omega⟩ (fun g82 => ?_) (fun g82 => ?_)
    · refine r_iinc (lv2 := [(0, _), (1, _), (2, _), (3, _)]) dX9_begins_87 (by decide) rfl rfl rfl ?_
      refine r_goto (tgt := 62) dX9_begins_90 (by decide) ?_
      rw [show (((19 + j : Nat) : Int) + 1) = ((19 + (j + 1) : Nat) : Int) by omega]
      rw [b2i_0] at g82
      rw [if_neg (by rw [g82]; decide)] at hi
      exact hi
    · refine r_iload_n dX9_begins_85 rfl rfl ?_
      refine r_istore_n (lv2 := [(0, _), (1, _), (2, _), (3, _)]) dX9_begins_86 rfl (by decide) rfl rfl ?_
      refine r_iinc (lv2 := [(0, _), (1, _), (2, _), (3, _)]) dX9_begins_87 (by decide) rfl rfl rfl ?_
      refine r_goto (tgt := 62) dX9_begins_90 (by decide) ?_
      rw [show (((19 + j : Nat) : Int) + 1) = ((19 + (j + 1) : Nat) : Int) by omega]
      rw [b2i_0, Bool.not_eq_false] at g82
      rw [if_pos g82] at hi
      exact hi

theorem s_X9_beginsT {h : aH} {g : Nat → Int} {w : Int} (c68 : h 68 = RG g w) {trr : Nat → Int} (c72 : h 72 = .inl (0, 700, trr)) {NC : Nat → Int} (c87 : h 87 = .inl (0, 1500, NC)) {OP SG BS : Nat → Int} (c89 : h 89 = .inl (0, 13, OP)) (c90 : h 90 = .inl (0, 13, SG)) (c91 : h 91 = .inl (0, 13, BS)) {t : Nat → Int} (ht : ∀ j, -128 ≤ t j ∧ t j ≤ 127) {le : Nat} (hle : le ≤ 700) (htt : ∀ j, j < le → trr j = t j % 256) {e : Nat} (rs : RS t le e g w) (h9 : g 9 = 0) {nd : Int} (e1 : g 1 = nd) (hnd : 0 ≤ nd ∧ nd ≤ 9) {tp o : Nat} (e51 : g 51 = (tp : Int)) (htp : tp + 2 ≤ 1500) (e52 : g 52 = (o : Int)) (ho : o ≤ 12)  : mSem yX9_begins cX9_begins 4 (some .boolean) 5 0 0 [.ref 68, iv 0] 97 h (BgQ t le nd (bgR t le nd o true e) h g NC OP SG BS tp o) noX := by
  have hsb := sort_B rs
  refine mSem_of (own := RX9) (name := "begins") pn_X9 rfl rfl (Nat.le_of_ble_eq_true rfl) ?_
  refine r_aload_n dX9_begins_0 rfl rfl ?_
  refine r_callV 68 [] (s_X9_good1 (g := g) c68 h9) dX9_begins_1 cs_X9_161 im_X9_isGood (by decide) c68 rfl (by decide) (by decide) (by decide) rfl rfl (Nat.le_of_ble_eq_true rfl) (fun _ _ _ q => q.elim) (fun v n2 h2 q => ?_)
  obtain ⟨rfl, rfl, hh⟩ := q
  obtain rfl := hh.symm
  refine ⟨rfl, ?_⟩
  dsimp only [Option.toList, List.cons_append, List.nil_append]
  refine r_if_ne (tgt := 9) dX9_begins_4 (by decide) ⟨by omega, by omega⟩ (fun g4 => ?_) (fun g4 => absurd g4 (by omega))
  refine r_aload_n dX9_begins_9 rfl rfl ?_
  refine r_getR (z := (g 14)) dX9_begins_10 fl_X9_135 (by decide) c68 rfl ?_
  refine r_iconst dX9_begins_13 ?_
  refine r_icmp_eq (tgt := 25) dX9_begins_14 (by decide) ⟨by omega, by omega⟩ ⟨by omega, by omega⟩ (fun g14 => ?_) (fun g14 => ?_)
  · refine r_aload_n dX9_begins_25 rfl rfl ?_
    refine r_getR (z := (g 52)) dX9_begins_26 fl_X9_326 (by decide) c68 rfl ?_
    refine r_bipush dX9_begins_29 rfl ?_
    refine r_icmp_ne (tgt := 39) dX9_begins_31 (by decide) ⟨by omega, by omega⟩ ⟨by omega, by omega⟩ (fun g31 => ?_) (fun g31 => ?_)
    · refine r_aload_n dX9_begins_39 rfl rfl ?_
      refine r_callV 68 [] (s_X9_good1 (g := g) c68 h9) dX9_begins_40 cs_X9_161 im_X9_isGood (by decide) c68 rfl (by decide) (by decide) (by decide) rfl rfl (Nat.le_of_ble_eq_true rfl) (fun _ _ _ q => q.elim) (fun v n2 h2 q => ?_)
      obtain ⟨rfl, rfl, hh⟩ := q
      obtain rfl := hh.symm
      refine ⟨rfl, ?_⟩
      dsimp only [Option.toList, List.cons_append, List.nil_append]
      refine r_if_ne (tgt := 48) dX9_begins_43 (by decide) ⟨by omega, by omega⟩ (fun g43 => ?_) (fun g43 => absurd g43 (by omega))
      refine r_iconst dX9_begins_48 ?_
      refine r_istore_n (lv2 := [(0, _), (1, _), (2, _)]) dX9_begins_49 rfl (by decide) rfl rfl ?_
      refine r_iload_n dX9_begins_50 rfl rfl ?_
      refine r_if_eq (tgt := 59) dX9_begins_51 (by decide) ⟨by omega, by omega⟩ (fun g51 => ?_) (fun g51 => absurd g51 (by omega))
      refine r_bipush dX9_begins_59 rfl ?_
      refine r_istore_n (lv2 := [(0, _), (1, _), (2, _), (3, _)]) dX9_begins_61 rfl (by decide) rfl rfl ?_
      have hk1 : tkK t le e = 1 := by omega
      refine l_X9_whT (by exact c68) (by exact c72) ht hle htt rs (by decide) 5 0 (by decide) ?_
      by_cases w0 : wordAt t le e 0 = true
      · have hwh : whF t le e 11 5 = (-1) := by simp only [whF, show wIx (11 + 0) = 11 from rfl, show wIx (11 + 1) = 12 from rfl, show wIx (11 + 2) = 13 from rfl, show wIx (11 + 3) = 14 from rfl, show wIx (11 + 4) = 15 from rfl, (word_ne (j := 11) w0 (by decide)), (word_ne (j := 12) w0 (by decide)), (word_ne (j := 13) w0 (by decide)), (word_ne (j := 14) w0 (by decide)), (word_ne (j := 15) w0 (by decide)), if_true, Bool.false_eq_true, if_false]
        rw [hwh]
        refine r_iload_n dX9_begins_93 rfl rfl ?_
        refine r_if_ne (tgt := 109) dX9_begins_94 (by decide) ⟨by omega, by omega⟩ (fun g94 => absurd g94 (by omega)) (fun g94 => ?_)
        refine r_aload_n dX9_begins_97 rfl rfl ?_
        refine r_bipush dX9_begins_98 rfl ?_
        refine r_callV 68 [_] (s_X9_is (g := g) (k := 6) c68 c72 ht hle htt rs (by decide) (by decide)) dX9_begins_100 cs_X9_178 im_X9_is (by decide) c68 rfl (by decide) (by decide) (by decide) rfl rfl (Nat.le_of_ble_eq_true rfl) (fun _ _ _ q => q.elim) (fun v n2 h2 q => ?_)
        obtain ⟨rfl, rfl, hh⟩ := q
        obtain rfl := hh.symm
        refine ⟨rfl, ?_⟩
        dsimp only [Option.toList, List.cons_append, List.nil_append]
        rw [show wIx 6 = 0 from rfl, w0, show b2i true = 1 from rfl]
        refine r_if_eq (tgt := 109) dX9_begins_103 (by decide) ⟨by omega, by omega⟩ (fun g103 => absurd g103 (by omega)) (fun g103 => ?_)
        refine r_bipush dX9_begins_106 rfl ?_
        refine r_istore_n (lv2 := [(0, _), (1, _), (2, _), (3, _)]) dX9_begins_108 rfl (by decide) rfl rfl ?_
        refine r_iload_n dX9_begins_109 rfl rfl ?_
        refine r_iconst dX9_begins_110 ?_
        refine r_icmp_ne (tgt := 119) dX9_begins_111 (by decide) ⟨by omega, by omega⟩ ⟨by omega, by omega⟩ (fun g111 => ?_) (fun g111 => absurd g111 (by omega))
        refine r_aload_n dX9_begins_119 rfl rfl ?_
        refine r_callV 68 [] (s_X9_good1 (g := g) c68 h9) dX9_begins_120 cs_X9_161 im_X9_isGood (by decide) c68 rfl (by decide) (by decide) (by decide) rfl rfl (Nat.le_of_ble_eq_true rfl) (fun _ _ _ q => q.elim) (fun v n2 h2 q => ?_)
        obtain ⟨rfl, rfl, hh⟩ := q
        obtain rfl := hh.symm
        refine ⟨rfl, ?_⟩
        dsimp only [Option.toList, List.cons_append, List.nil_append]
        refine r_if_ne (tgt := 128) dX9_begins_123 (by decide) ⟨by omega, by omega⟩ (fun g123 => ?_) (fun g123 => absurd g123 (by omega))
        refine r_aload_n dX9_begins_128 rfl rfl ?_
        refine r_callV 68 [] (s_X9_steps (g := g) (e := tkE t le e) c68 c72 ht hle htt (tk_B t rs.1).2.2.2.1 rs.2.1 rs.2.2.1) dX9_begins_129 cs_X9_165 im_X9_steps (by decide) c68 rfl (by decide) (by decide) (by decide) rfl rfl (Nat.le_of_ble_eq_true rfl) (fun _ _ _ q => q.elim) (fun v n2 h2 q => ?_)
        obtain ⟨rfl, rfl, g5, w5, rfl, rs5, kp5⟩ := q
        refine ⟨rfl, ?_⟩
        dsimp only [Option.toList, List.cons_append, List.nil_append]
        refine r_iload_n dX9_begins_132 rfl rfl ?_
        refine r_bipush dX9_begins_133 rfl ?_
        refine r_icmp_ne (tgt := 162) dX9_begins_135 (by decide) ⟨by omega, by omega⟩ ⟨by omega, by omega⟩ (fun g135 => absurd g135 (by omega)) (fun g135 => ?_)
        refine r_aload_n dX9_begins_138 rfl rfl ?_
        refine r_iconst dX9_begins_139 ?_
        refine r_aload_n dX9_begins_140 rfl rfl ?_
        refine r_getR (z := (g5 1)) dX9_begins_141 fl_X9_214 (by decide) rfl rfl ?_
        refine r_iconst dX9_begins_144 ?_
        refine r_isub dX9_begins_145 ?_
        rw [(kp5 1 (by decide)).trans e1]
        refine r_callV 68 [_, _] (s_X9_number (g := g5) (by rfl) (by exact c72) ht hle htt rs5 ((kp5 9 (by decide)).trans h9) ⟨by decide, by decide⟩ ⟨by omega, by omega⟩) dX9_begins_146 cs_X9_171 im_X9_number (by decide) rfl rfl (by decide) (by decide) (by decide) rfl rfl (Nat.le_of_ble_eq_true rfl) (fun _ _ _ q => q.elim) (fun v n2 h2 q => ?_)
        obtain ⟨rfl, z6, g6, w6, rfl, rfl, hr6⟩ := q
        rcases hr6 with ⟨e6, hr6, rs6, kp6⟩ | ⟨f6, p6, hr6, hf6, nf6, np6, kp6⟩
        · have p51 : g6 51 = (tp : Int) := (kp6 51 (by decide)).trans ((kp5 51 (by decide)).trans e51)
          refine ⟨rfl, ?_⟩
          dsimp only [Option.toList, List.cons_append, List.nil_append]
          refine r_istore_n (lv2 := [(0, _), (1, _), (2, _), (3, _)]) dX9_begins_149 rfl (by decide) rfl rfl ?_
          refine r_aload_n dX9_begins_150 rfl rfl ?_
          refine r_iconst dX9_begins_151 ?_
          refine r_callV 68 [_] (s_X9_puts (g := g6) (tp := tp) (by rfl) (by exact c87) p51 (by omega)) dX9_begins_152 cs_X9_332 im_X9_puts (by decide) rfl rfl (by decide) (by decide) (by decide) rfl rfl (Nat.le_of_ble_eq_true rfl) (fun _ _ _ q => q.elim) (fun v n2 h2 q => ?_)
          obtain ⟨rfl, rfl, hh⟩ := q
          obtain rfl := hh.symm
          refine ⟨rfl, ?_⟩
          dsimp only [Option.toList, List.cons_append, List.nil_append]
          refine r_aload_n dX9_begins_155 rfl rfl ?_
          refine r_iload_n dX9_begins_156 rfl rfl ?_
          refine r_callV 68 [_] (s_X9_puts (g := (va_up g6 51 ((tp : Int) + 1))) (tp := tp + 1) (by rfl) (by rfl) (by show (tp : Int) + 1 = ((tp + 1 : Nat) : Int); omega) (by omega)) dX9_begins_157 cs_X9_332 im_X9_puts (by decide) rfl rfl (by decide) (by decide) (by decide) rfl rfl (Nat.le_of_ble_eq_true rfl) (fun _ _ _ q => q.elim) (fun v n2 h2 q => ?_)
          obtain ⟨rfl, rfl, hh⟩ := q
          obtain rfl := hh.symm
          refine ⟨rfl, ?_⟩
          dsimp only [Option.toList, List.cons_append, List.nil_append]
          refine r_iconst dX9_begins_160 ?_
          refine r_zret dX9_begins_161 (nar_z (by omega)) ?_
          exact ⟨rfl, _, _, _, _, _, _, (wt_mk rfl rfl (by exact c89) (by exact c90) (by exact c91) (fun j a b c d e => by simp only [va_up, a, b, c, d, e, if_false])), Or.inr (Or.inl ⟨1, z6, e6, by unfold bgR; rw [if_pos hk1, if_neg (by omega), if_pos rfl]; unfold bgT; rw [if_pos w0]; unfold bgN; rw [hr6], rfl, RS_kp rs6 (fun k hk => by rw [va_up_ne _ _ (by omega), va_up_ne _ _ (by omega)]), (kp6 9 (by decide)).trans ((kp5 9 (by decide)).trans h9), (kp6 10 (by decide)).trans (kp5 10 (by decide)), by show ((tp + 1 : Nat) : Int) + 1 = _; omega, (kp6 52 (by decide)).trans ((kp5 52 (by decide)).trans e52), rfl, rfl, rfl, rfl, fun q => absurd q (by decide)⟩), (fun k h1 h2 h3 => by (repeat rw [va_up_ne _ _ (by omega)]); exact (kp6 k h2).trans (kp5 k h2))⟩
        · have p51 : g6 51 = (tp : Int) := (kp6 51 (by decide) (by decide)).trans ((kp5 51 (by decide)).trans e51)
          refine ⟨rfl, ?_⟩
          dsimp only [Option.toList, List.cons_append, List.nil_append]
          refine r_istore_n (lv2 := [(0, _), (1, _), (2, _), (3, _)]) dX9_begins_149 rfl (by decide) rfl rfl ?_
          refine r_aload_n dX9_begins_150 rfl rfl ?_
          refine r_iconst dX9_begins_151 ?_
          refine r_callV 68 [_] (s_X9_puts (g := g6) (tp := tp) (by rfl) (by exact c87) p51 (by omega)) dX9_begins_152 cs_X9_332 im_X9_puts (by decide) rfl rfl (by decide) (by decide) (by decide) rfl rfl (Nat.le_of_ble_eq_true rfl) (fun _ _ _ q => q.elim) (fun v n2 h2 q => ?_)
          obtain ⟨rfl, rfl, hh⟩ := q
          obtain rfl := hh.symm
          refine ⟨rfl, ?_⟩
          dsimp only [Option.toList, List.cons_append, List.nil_append]
          refine r_aload_n dX9_begins_155 rfl rfl ?_
          refine r_iload_n dX9_begins_156 rfl rfl ?_
          refine r_callV 68 [_] (s_X9_puts (g := (va_up g6 51 ((tp : Int) + 1))) (tp := tp + 1) (by rfl) (by rfl) (by show (tp : Int) + 1 = ((tp + 1 : Nat) : Int); omega) (by omega)) dX9_begins_157 cs_X9_332 im_X9_puts (by decide) rfl rfl (by decide) (by decide) (by decide) rfl rfl (Nat.le_of_ble_eq_true rfl) (fun _ _ _ q => q.elim) (fun v n2 h2 q => ?_)
          obtain ⟨rfl, rfl, hh⟩ := q
          obtain rfl := hh.symm
          refine ⟨rfl, ?_⟩
          dsimp only [Option.toList, List.cons_append, List.nil_append]
          refine r_iconst dX9_begins_160 ?_
          refine r_zret dX9_begins_161 (nar_z (by omega)) ?_
          exact ⟨rfl, _, _, _, _, _, _, (wt_mk rfl rfl (by exact c89) (by exact c90) (by exact c91) (fun j a b c d e => by simp only [va_up, a, b, c, d, e, if_false])), Or.inl ⟨f6, p6, by unfold bgR; rw [if_pos hk1, if_neg (by omega), if_pos rfl]; unfold bgT; rw [if_pos w0]; unfold bgN; rw [hr6], by omega, nf6, np6, 1, rfl, Or.inr rfl⟩, (fun k h1 h2 h3 => by (repeat rw [va_up_ne _ _ (by omega)]); exact (kp6 k h1 h2).trans (kp5 k h2))⟩
      by_cases w11 : wordAt t le e 11 = true
      · have hwh : whF t le e 11 5 = 11 := by simp only [whF, show wIx (11 + 0) = 11 from rfl, show wIx (11 + 1) = 12 from rfl, show wIx (11 + 2) = 13 from rfl, show wIx (11 + 3) = 14 from rfl, show wIx (11 + 4) = 15 from rfl, w11, (word_ne (j := 12) w11 (by decide)), (word_nl (j := 13) w11 (by decide)), (word_ne (j := 14) w11 (by decide)), (word_ne (j := 15) w11 (by decide)), if_true, Bool.false_eq_true, if_false]; rfl
        rw [hwh]
        refine r_iload_n dX9_begins_93 rfl rfl ?_
        refine r_if_ne (tgt := 109) dX9_begins_94 (by decide) ⟨by omega, by omega⟩ (fun g94 => absurd g94 (by omega)) (fun g94 => ?_)
        refine r_aload_n dX9_begins_97 rfl rfl ?_
        refine r_bipush dX9_begins_98 rfl ?_
        refine r_callV 68 [_] (s_X9_is (g := g) (k := 6) c68 c72 ht hle htt rs (by decide) (by decide)) dX9_begins_100 cs_X9_178 im_X9_is (by decide) c68 rfl (by decide) (by decide) (by decide) rfl rfl (Nat.le_of_ble_eq_true rfl) (fun _ _ _ q => q.elim) (fun v n2 h2 q => ?_)
        obtain ⟨rfl, rfl, hh⟩ := q
        obtain rfl := hh.symm
        refine ⟨rfl, ?_⟩
        dsimp only [Option.toList, List.cons_append, List.nil_append]
        rw [show wIx 6 = 0 from rfl, show wordAt t le e 0 = false from Bool.eq_false_iff.mpr w0, show b2i false = 0 from rfl]
        refine r_if_eq (tgt := 109) dX9_begins_103 (by decide) ⟨by omega, by omega⟩ (fun g103 => ?_) (fun g103 => absurd g103 (by omega))
        refine r_iload_n dX9_begins_109 rfl rfl ?_
        refine r_iconst dX9_begins_110 ?_
        refine r_icmp_ne (tgt := 119) dX9_begins_111 (by decide) ⟨by omega, by omega⟩ ⟨by omega, by omega⟩ (fun g111 => ?_) (fun g111 => absurd g111 (by omega))
        refine r_aload_n dX9_begins_119 rfl rfl ?_
        refine r_callV 68 [] (s_X9_good1 (g := g) c68 h9) dX9_begins_120 cs_X9_161 im_X9_isGood (by decide) c68 rfl (by decide) (by decide) (by decide) rfl rfl (Nat.le_of_ble_eq_true rfl) (fun _ _ _ q => q.elim) (fun v n2 h2 q => ?_)
        obtain ⟨rfl, rfl, hh⟩ := q
        obtain rfl := hh.symm
        refine ⟨rfl, ?_⟩
        dsimp only [Option.toList, List.cons_append, List.nil_append]
        refine r_if_ne (tgt := 128) dX9_begins_123 (by decide) ⟨by omega, by omega⟩ (fun g123 => ?_) (fun g123 => absurd g123 (by omega))
        refine r_aload_n dX9_begins_128 rfl rfl ?_
        refine r_callV 68 [] (s_X9_steps (g := g) (e := tkE t le e) c68 c72 ht hle htt (tk_B t rs.1).2.2.2.1 rs.2.1 rs.2.2.1) dX9_begins_129 cs_X9_165 im_X9_steps (by decide) c68 rfl (by decide) (by decide) (by decide) rfl rfl (Nat.le_of_ble_eq_true rfl) (fun _ _ _ q => q.elim) (fun v n2 h2 q => ?_)
        obtain ⟨rfl, rfl, g5, w5, rfl, rs5, kp5⟩ := q
        refine ⟨rfl, ?_⟩
        dsimp only [Option.toList, List.cons_append, List.nil_append]
        refine r_iload_n dX9_begins_132 rfl rfl ?_
        refine r_bipush dX9_begins_133 rfl ?_
        refine r_icmp_ne (tgt := 162) dX9_begins_135 (by decide) ⟨by omega, by omega⟩ ⟨by omega, by omega⟩ (fun g135 => ?_) (fun g135 => absurd g135 (by omega))
        refine r_iload_n dX9_begins_162 rfl rfl ?_
        refine r_bipush dX9_begins_163 rfl ?_
        refine r_icmp_ne (tgt := 174) dX9_begins_165 (by decide) ⟨by omega, by omega⟩ ⟨by omega, by omega⟩ (fun g165 => absurd g165 (by omega)) (fun g165 => ?_)
        refine r_aload_n dX9_begins_168 rfl rfl ?_
        refine r_callV 68 [] (s_X9_some (g := g5) (by rfl) (by exact c72) (by exact c87) ht hle htt rs5 ((kp5 9 (by decide)).trans h9) ((kp5 1 (by decide)).trans e1) hnd ((kp5 51 (by decide)).trans e51) htp) dX9_begins_169 cs_X9_335 im_X9_some (by decide) rfl rfl (by decide) (by decide) (by decide) rfl rfl (Nat.le_of_ble_eq_true rfl) (fun _ _ _ q => q.elim) (fun v n2 h2 q => ?_)
        obtain ⟨rfl, rfl, g6, w6, N6, rfl, hq6, fr6⟩ := q
        rcases hq6 with ⟨b6, e6, hr6, rs6, n9, n10, n51, hN6, hb6⟩ | ⟨f6, p6, hr6, hf6, nf6, np6⟩
        · skip
          refine ⟨rfl, ?_⟩
          dsimp only [Option.toList, List.cons_append, List.nil_append]
          refine r_iconst dX9_begins_172 ?_
          refine r_zret dX9_begins_173 (nar_z (by omega)) ?_
          exact ⟨rfl, _, _, _, _, _, _, (wt_mk rfl rfl (by exact c89) (by exact c90) (by exact c91) (fun j a b c d e => by simp only [va_up, a, b, c, d, e, if_false])), Or.inr (Or.inl ⟨2, (b6 : Int), e6, by unfold bgR; rw [if_pos hk1, if_neg (by omega), if_pos rfl]; unfold bgT; rw [if_neg w0, if_pos w11]; unfold bgM; rw [hr6], rfl, rs6, n9, n10.trans (kp5 10 (by decide)), n51, (fr6 52 (by decide) (by decide) (by decide)).trans ((kp5 52 (by decide)).trans e52), hN6, rfl, rfl, rfl, fun _ => ⟨by omega, by omega⟩⟩), fun k h1 h2 h3 => (fr6 k h1 h2 (by omega)).trans (kp5 k h2)⟩
        · skip
          refine ⟨rfl, ?_⟩
          dsimp only [Option.toList, List.cons_append, List.nil_append]
          refine r_iconst dX9_begins_172 ?_
          refine r_zret dX9_begins_173 (nar_z (by omega)) ?_
          exact ⟨rfl, _, _, _, _, _, _, (wt_mk rfl rfl (by exact c89) (by exact c90) (by exact c91) (fun j a b c d e => by simp only [va_up, a, b, c, d, e, if_false])), Or.inl ⟨f6, p6, by unfold bgR; rw [if_pos hk1, if_neg (by omega), if_pos rfl]; unfold bgT; rw [if_neg w0, if_pos w11]; unfold bgM; rw [hr6], hf6, nf6, np6, 1, rfl, Or.inr rfl⟩, fun k h1 h2 h3 => (fr6 k h1 h2 (by omega)).trans (kp5 k h2)⟩
      by_cases w12 : wordAt t le e 12 = true
      · have hwh : whF t le e 11 5 = 12 := by simp only [whF, show wIx (11 + 0) = 11 from rfl, show wIx (11 + 1) = 12 from rfl, show wIx (11 + 2) = 13 from rfl, show wIx (11 + 3) = 14 from rfl, show wIx (11 + 4) = 15 from rfl, w11, w12, (word_ne (j := 13) w12 (by decide)), (word_ne (j := 14) w12 (by decide)), (word_ne (j := 15) w12 (by decide)), if_true, Bool.false_eq_true, if_false]; rfl
        rw [hwh]
        refine r_iload_n dX9_begins_93 rfl rfl ?_
        refine r_if_ne (tgt := 109) dX9_begins_94 (by decide) ⟨by omega, by omega⟩ (fun g94 => absurd g94 (by omega)) (fun g94 => ?_)
        refine r_aload_n dX9_begins_97 rfl rfl ?_
        refine r_bipush dX9_begins_98 rfl ?_
        refine r_callV 68 [_] (s_X9_is (g := g) (k := 6) c68 c72 ht hle htt rs (by decide) (by decide)) dX9_begins_100 cs_X9_178 im_X9_is (by decide) c68 rfl (by decide) (by decide) (by decide) rfl rfl (Nat.le_of_ble_eq_true rfl) (fun _ _ _ q => q.elim) (fun v n2 h2 q => ?_)
        obtain ⟨rfl, rfl, hh⟩ := q
        obtain rfl := hh.symm
        refine ⟨rfl, ?_⟩
        dsimp only [Option.toList, List.cons_append, List.nil_append]
        rw [show wIx 6 = 0 from rfl, show wordAt t le e 0 = false from Bool.eq_false_iff.mpr w0, show b2i false = 0 from rfl]
        refine r_if_eq (tgt := 109) dX9_begins_103 (by decide) ⟨by omega, by omega⟩ (fun g103 => ?_) (fun g103 => absurd g103 (by omega))
        refine r_iload_n dX9_begins_109 rfl rfl ?_
        refine r_iconst dX9_begins_110 ?_
        refine r_icmp_ne (tgt := 119) dX9_begins_111 (by decide) ⟨by omega, by omega⟩ ⟨by omega, by omega⟩ (fun g111 => ?_) (fun g111 => absurd g111 (by omega))
        refine r_aload_n dX9_begins_119 rfl rfl ?_
        refine r_callV 68 [] (s_X9_good1 (g := g) c68 h9) dX9_begins_120 cs_X9_161 im_X9_isGood (by decide) c68 rfl (by decide) (by decide) (by decide) rfl rfl (Nat.le_of_ble_eq_true rfl) (fun _ _ _ q => q.elim) (fun v n2 h2 q => ?_)
        obtain ⟨rfl, rfl, hh⟩ := q
        obtain rfl := hh.symm
        refine ⟨rfl, ?_⟩
        dsimp only [Option.toList, List.cons_append, List.nil_append]
        refine r_if_ne (tgt := 128) dX9_begins_123 (by decide) ⟨by omega, by omega⟩ (fun g123 => ?_) (fun g123 => absurd g123 (by omega))
        refine r_aload_n dX9_begins_128 rfl rfl ?_
        refine r_callV 68 [] (s_X9_steps (g := g) (e := tkE t le e) c68 c72 ht hle htt (tk_B t rs.1).2.2.2.1 rs.2.1 rs.2.2.1) dX9_begins_129 cs_X9_165 im_X9_steps (by decide) c68 rfl (by decide) (by decide) (by decide) rfl rfl (Nat.le_of_ble_eq_true rfl) (fun _ _ _ q => q.elim) (fun v n2 h2 q => ?_)
        obtain ⟨rfl, rfl, g5, w5, rfl, rs5, kp5⟩ := q
        refine ⟨rfl, ?_⟩
        dsimp only [Option.toList, List.cons_append, List.nil_append]
        refine r_iload_n dX9_begins_132 rfl rfl ?_
        refine r_bipush dX9_begins_133 rfl ?_
        refine r_icmp_ne (tgt := 162) dX9_begins_135 (by decide) ⟨by omega, by omega⟩ ⟨by omega, by omega⟩ (fun g135 => ?_) (fun g135 => absurd g135 (by omega))
        refine r_iload_n dX9_begins_162 rfl rfl ?_
        refine r_bipush dX9_begins_163 rfl ?_
        refine r_icmp_ne (tgt := 174) dX9_begins_165 (by decide) ⟨by omega, by omega⟩ ⟨by omega, by omega⟩ (fun g165 => ?_) (fun g165 => absurd g165 (by omega))
        refine r_iload_n dX9_begins_174 rfl rfl ?_
        refine r_bipush dX9_begins_175 rfl ?_
        refine r_icmp_ne (tgt := 201) dX9_begins_177 (by decide) ⟨by omega, by omega⟩ ⟨by omega, by omega⟩ (fun g177 => ?_) (fun g177 => absurd g177 (by omega))
        refine r_aload_n dX9_begins_201 rfl rfl ?_
        refine r_iload_n dX9_begins_202 rfl rfl ?_
        refine r_iload_n dX9_begins_203 rfl rfl ?_
        refine r_bipush dX9_begins_204 rfl ?_
        refine r_icmp_ne (tgt := 219) dX9_begins_206 (by decide) ⟨by omega, by omega⟩ ⟨by omega, by omega⟩ (fun g206 => ?_) (fun g206 => absurd g206 (by omega))
        have p52 : g5 52 = (o : Int) := (kp5 52 (by decide)).trans e52
        refine r_iconst dX9_begins_219 ?_
        refine r_callV 68 [_, _] (s_X9_opens (g := g5) (o := o) (by rfl) (by exact c89) (by exact c90) (by exact c91) p52 (by omega)) dX9_begins_220 cs_X9_338 im_X9_opens (by decide) rfl rfl (by decide) (by decide) (by decide) rfl rfl (Nat.le_of_ble_eq_true rfl) (fun _ _ _ q => q.elim) (fun v n2 h2 q => ?_)
        obtain ⟨rfl, rfl, hh⟩ := q
        obtain rfl := hh.symm
        refine ⟨rfl, ?_⟩
        dsimp only [Option.toList, List.cons_append, List.nil_append]
        refine r_iload_n dX9_begins_223 rfl rfl ?_
        refine r_bipush dX9_begins_224 rfl ?_
        refine r_icmp_eq (tgt := 241) dX9_begins_226 (by decide) ⟨by omega, by omega⟩ ⟨by omega, by omega⟩ (fun g226 => ?_) (fun g226 => absurd g226 (by omega))
        have rs55 : RS t le (tkE t le e) (va_up g5 52 ((o : Int) + 1)) w5 := RS_kp rs5 (fun k hk => by rw [va_up_ne _ _ (by omega)])
        refine r_aload_n dX9_begins_241 rfl rfl ?_
        refine r_aload_n dX9_begins_242 rfl rfl ?_
        refine r_bipush dX9_begins_243 rfl ?_
        refine r_callV 68 [_] (s_X9_isSign (g := (va_up g5 52 ((o : Int) + 1))) (by rfl) (by exact c72) ht hle htt rs55 (by decide)) dX9_begins_245 cs_X9_329 im_X9_isSign (by decide) rfl rfl (by decide) (by decide) (by decide) rfl rfl (Nat.le_of_ble_eq_true rfl) (fun _ _ _ q => q.elim) (fun v n2 h2 q => ?_)
        obtain ⟨rfl, rfl, hh⟩ := q
        obtain rfl := hh.symm
        refine ⟨rfl, ?_⟩
        dsimp only [Option.toList, List.cons_append, List.nil_append]
        refine r_callV 68 [_] (s_X9_need (g := (va_up g5 52 ((o : Int) + 1))) (b := signAt t le (tkE t le e) 40) (by rfl) (by exact c72) ht hle htt rs55 ((kp5 9 (by decide)).trans h9)) dX9_begins_248 cs_X9_181 im_X9_need (by decide) rfl rfl (by decide) (by decide) (by decide) rfl rfl (Nat.le_of_ble_eq_true rfl) (fun _ _ _ q => q.elim) (fun v n2 h2 q => ?_)
        obtain ⟨rfl, rfl, hq7⟩ := q
        rcases hq7 with ⟨hb7, g7, w7, rfl, rs7, kp7⟩ | ⟨hb7, rfl⟩
        · skip
          refine ⟨rfl, ?_⟩
          dsimp only [Option.toList, List.cons_append, List.nil_append]
          refine r_iconst dX9_begins_251 ?_
          refine r_zret dX9_begins_252 (nar_z (by omega)) ?_
          exact ⟨rfl, _, _, _, _, _, _, (wt_mk rfl (by exact c87) rfl rfl rfl (fun j a b c d e => by simp only [va_up, a, b, c, d, e, if_false])), Or.inr (Or.inr ⟨12, 1, tkE t le (tkE t le e), by unfold bgR; rw [if_pos hk1, if_neg (by omega), if_pos rfl]; unfold bgT; rw [if_neg w0, if_neg w11, if_pos w12]; unfold bgP; rw [if_pos hb7], rfl, rs7, (kp7 9 (by decide)).trans ((kp5 9 (by decide)).trans h9), (kp7 10 (by decide)).trans (kp5 10 (by decide)), (kp7 51 (by decide)).trans ((kp5 51 (by decide)).trans e51), kp7 52 (by decide), rfl, rfl, rfl, rfl⟩), (fun k h1 h2 h3 => (kp7 k h2).trans (by rw [va_up_ne _ _ (by omega)]; exact kp5 k h2))⟩
        · skip
          refine ⟨rfl, ?_⟩
          dsimp only [Option.toList, List.cons_append, List.nil_append]
          refine r_iconst dX9_begins_251 ?_
          refine r_zret dX9_begins_252 (nar_z (by omega)) ?_
          exact ⟨rfl, _, _, _, _, _, _, (wt_mk rfl (by exact c87) rfl rfl rfl (fun j a b c d e => by simp only [va_up, a, b, c, d, e, if_false])), Or.inl ⟨1, tkS t le (tkE t le e), by unfold bgR; rw [if_pos hk1, if_neg (by omega), if_pos rfl]; unfold bgT; rw [if_neg w0, if_neg w11, if_pos w12]; unfold bgP; rw [if_neg (by rw [hb7]; decide)], by decide, rfl, rfl, 0, rfl, Or.inl rfl⟩, (fun k h1 h2 h3 => by (repeat rw [va_up_ne _ _ (by omega)]); exact kp5 k h2)⟩
      by_cases w13 : wordAt t le e 13 = true
      · have hwh : whF t le e 11 5 = 13 := by simp only [whF, show wIx (11 + 0) = 11 from rfl, show wIx (11 + 1) = 12 from rfl, show wIx (11 + 2) = 13 from rfl, show wIx (11 + 3) = 14 from rfl, show wIx (11 + 4) = 15 from rfl, w11, w12, w13, (word_ne (j := 14) w13 (by decide)), (word_ne (j := 15) w13 (by decide)), if_true, Bool.false_eq_true, if_false]; rfl
        rw [hwh]
        refine r_iload_n dX9_begins_93 rfl rfl ?_
        refine r_if_ne (tgt := 109) dX9_begins_94 (by decide) ⟨by omega, by omega⟩ (fun g94 => absurd g94 (by omega)) (fun g94 => ?_)
        refine r_aload_n dX9_begins_97 rfl rfl ?_
        refine r_bipush dX9_begins_98 rfl ?_
        refine r_callV 68 [_] (s_X9_is (g := g) (k := 6) c68 c72 ht hle htt rs (by decide) (by decide)) dX9_begins_100 cs_X9_178 im_X9_is (by decide) c68 rfl (by decide) (by decide) (by decide) rfl rfl (Nat.le_of_ble_eq_true rfl) (fun _ _ _ q => q.elim) (fun v n2 h2 q => ?_)
        obtain ⟨rfl, rfl, hh⟩ := q
        obtain rfl := hh.symm
        refine ⟨rfl, ?_⟩
        dsimp only [Option.toList, List.cons_append, List.nil_append]
        rw [show wIx 6 = 0 from rfl, show wordAt t le e 0 = false from Bool.eq_false_iff.mpr w0, show b2i false = 0 from rfl]
        refine r_if_eq (tgt := 109) dX9_begins_103 (by decide) ⟨by omega, by omega⟩ (fun g103 => ?_) (fun g103 => absurd g103 (by omega))
        refine r_iload_n dX9_begins_109 rfl rfl ?_
        refine r_iconst dX9_begins_110 ?_
        refine r_icmp_ne (tgt := 119) dX9_begins_111 (by decide) ⟨by omega, by omega⟩ ⟨by omega, by omega⟩ (fun g111 => ?_) (fun g111 => absurd g111 (by omega))
        refine r_aload_n dX9_begins_119 rfl rfl ?_
        refine r_callV 68 [] (s_X9_good1 (g := g) c68 h9) dX9_begins_120 cs_X9_161 im_X9_isGood (by decide) c68 rfl (by decide) (by decide) (by decide) rfl rfl (Nat.le_of_ble_eq_true rfl) (fun _ _ _ q => q.elim) (fun v n2 h2 q => ?_)
        obtain ⟨rfl, rfl, hh⟩ := q
        obtain rfl := hh.symm
        refine ⟨rfl, ?_⟩
        dsimp only [Option.toList, List.cons_append, List.nil_append]
        refine r_if_ne (tgt := 128) dX9_begins_123 (by decide) ⟨by omega, by omega⟩ (fun g123 => ?_) (fun g123 => absurd g123 (by omega))
        refine r_aload_n dX9_begins_128 rfl rfl ?_
        refine r_callV 68 [] (s_X9_steps (g := g) (e := tkE t le e) c68 c72 ht hle htt (tk_B t rs.1).2.2.2.1 rs.2.1 rs.2.2.1) dX9_begins_129 cs_X9_165 im_X9_steps (by decide) c68 rfl (by decide) (by decide) (by decide) rfl rfl (Nat.le_of_ble_eq_true rfl) (fun _ _ _ q => q.elim) (fun v n2 h2 q => ?_)
        obtain ⟨rfl, rfl, g5, w5, rfl, rs5, kp5⟩ := q
        refine ⟨rfl, ?_⟩
        dsimp only [Option.toList, List.cons_append, List.nil_append]
        refine r_iload_n dX9_begins_132 rfl rfl ?_
        refine r_bipush dX9_begins_133 rfl ?_
        refine r_icmp_ne (tgt := 162) dX9_begins_135 (by decide) ⟨by omega, by omega⟩ ⟨by omega, by omega⟩ (fun g135 => ?_) (fun g135 => absurd g135 (by omega))
        refine r_iload_n dX9_begins_162 rfl rfl ?_
        refine r_bipush dX9_begins_163 rfl ?_
        refine r_icmp_ne (tgt := 174) dX9_begins_165 (by decide) ⟨by omega, by omega⟩ ⟨by omega, by omega⟩ (fun g165 => ?_) (fun g165 => absurd g165 (by omega))
        refine r_iload_n dX9_begins_174 rfl rfl ?_
        refine r_bipush dX9_begins_175 rfl ?_
        refine r_icmp_ne (tgt := 201) dX9_begins_177 (by decide) ⟨by omega, by omega⟩ ⟨by omega, by omega⟩ (fun g177 => ?_) (fun g177 => absurd g177 (by omega))
        refine r_aload_n dX9_begins_201 rfl rfl ?_
        refine r_iload_n dX9_begins_202 rfl rfl ?_
        refine r_iload_n dX9_begins_203 rfl rfl ?_
        refine r_bipush dX9_begins_204 rfl ?_
        refine r_icmp_ne (tgt := 219) dX9_begins_206 (by decide) ⟨by omega, by omega⟩ ⟨by omega, by omega⟩ (fun g206 => ?_) (fun g206 => absurd g206 (by omega))
        have p52 : g5 52 = (o : Int) := (kp5 52 (by decide)).trans e52
        refine r_iconst dX9_begins_219 ?_
        refine r_callV 68 [_, _] (s_X9_opens (g := g5) (o := o) (by rfl) (by exact c89) (by exact c90) (by exact c91) p52 (by omega)) dX9_begins_220 cs_X9_338 im_X9_opens (by decide) rfl rfl (by decide) (by decide) (by decide) rfl rfl (Nat.le_of_ble_eq_true rfl) (fun _ _ _ q => q.elim) (fun v n2 h2 q => ?_)
        obtain ⟨rfl, rfl, hh⟩ := q
        obtain rfl := hh.symm
        refine ⟨rfl, ?_⟩
        dsimp only [Option.toList, List.cons_append, List.nil_append]
        refine r_iload_n dX9_begins_223 rfl rfl ?_
        refine r_bipush dX9_begins_224 rfl ?_
        refine r_icmp_eq (tgt := 241) dX9_begins_226 (by decide) ⟨by omega, by omega⟩ ⟨by omega, by omega⟩ (fun g226 => absurd g226 (by omega)) (fun g226 => ?_)
        refine r_iload_n dX9_begins_229 rfl rfl ?_
        refine r_bipush dX9_begins_230 rfl ?_
        refine r_icmp_eq (tgt := 241) dX9_begins_232 (by decide) ⟨by omega, by omega⟩ ⟨by omega, by omega⟩ (fun g232 => ?_) (fun g232 => absurd g232 (by omega))
        have rs55 : RS t le (tkE t le e) (va_up g5 52 ((o : Int) + 1)) w5 := RS_kp rs5 (fun k hk => by rw [va_up_ne _ _ (by omega)])
        refine r_aload_n dX9_begins_241 rfl rfl ?_
        refine r_aload_n dX9_begins_242 rfl rfl ?_
        refine r_bipush dX9_begins_243 rfl ?_
        refine r_callV 68 [_] (s_X9_isSign (g := (va_up g5 52 ((o : Int) + 1))) (by rfl) (by exact c72) ht hle htt rs55 (by decide)) dX9_begins_245 cs_X9_329 im_X9_isSign (by decide) rfl rfl (by decide) (by decide) (by decide) rfl rfl (Nat.le_of_ble_eq_true rfl) (fun _ _ _ q => q.elim) (fun v n2 h2 q => ?_)
        obtain ⟨rfl, rfl, hh⟩ := q
        obtain rfl := hh.symm
        refine ⟨rfl, ?_⟩
        dsimp only [Option.toList, List.cons_append, List.nil_append]
        refine r_callV 68 [_] (s_X9_need (g := (va_up g5 52 ((o : Int) + 1))) (b := signAt t le (tkE t le e) 40) (by rfl) (by exact c72) ht hle htt rs55 ((kp5 9 (by decide)).trans h9)) dX9_begins_248 cs_X9_181 im_X9_need (by decide) rfl rfl (by decide) (by decide) (by decide) rfl rfl (Nat.le_of_ble_eq_true rfl) (fun _ _ _ q => q.elim) (fun v n2 h2 q => ?_)
        obtain ⟨rfl, rfl, hq7⟩ := q
        rcases hq7 with ⟨hb7, g7, w7, rfl, rs7, kp7⟩ | ⟨hb7, rfl⟩
        · skip
          refine ⟨rfl, ?_⟩
          dsimp only [Option.toList, List.cons_append, List.nil_append]
          refine r_iconst dX9_begins_251 ?_
          refine r_zret dX9_begins_252 (nar_z (by omega)) ?_
          exact ⟨rfl, _, _, _, _, _, _, (wt_mk rfl (by exact c87) rfl rfl rfl (fun j a b c d e => by simp only [va_up, a, b, c, d, e, if_false])), Or.inr (Or.inr ⟨13, 1, tkE t le (tkE t le e), by unfold bgR; rw [if_pos hk1, if_neg (by omega), if_pos rfl]; unfold bgT; rw [if_neg w0, if_neg w11, if_neg w12, if_pos w13]; unfold bgP; rw [if_pos hb7], rfl, rs7, (kp7 9 (by decide)).trans ((kp5 9 (by decide)).trans h9), (kp7 10 (by decide)).trans (kp5 10 (by decide)), (kp7 51 (by decide)).trans ((kp5 51 (by decide)).trans e51), kp7 52 (by decide), rfl, rfl, rfl, rfl⟩), (fun k h1 h2 h3 => (kp7 k h2).trans (by rw [va_up_ne _ _ (by omega)]; exact kp5 k h2))⟩
        · skip
          refine ⟨rfl, ?_⟩
          dsimp only [Option.toList, List.cons_append, List.nil_append]
          refine r_iconst dX9_begins_251 ?_
          refine r_zret dX9_begins_252 (nar_z (by omega)) ?_
          exact ⟨rfl, _, _, _, _, _, _, (wt_mk rfl (by exact c87) rfl rfl rfl (fun j a b c d e => by simp only [va_up, a, b, c, d, e, if_false])), Or.inl ⟨1, tkS t le (tkE t le e), by unfold bgR; rw [if_pos hk1, if_neg (by omega), if_pos rfl]; unfold bgT; rw [if_neg w0, if_neg w11, if_neg w12, if_pos w13]; unfold bgP; rw [if_neg (by rw [hb7]; decide)], by decide, rfl, rfl, 0, rfl, Or.inl rfl⟩, (fun k h1 h2 h3 => by (repeat rw [va_up_ne _ _ (by omega)]); exact kp5 k h2)⟩
      by_cases w14 : wordAt t le e 14 = true
      · have hwh : whF t le e 11 5 = 14 := by simp only [whF, show wIx (11 + 0) = 11 from rfl, show wIx (11 + 1) = 12 from rfl, show wIx (11 + 2) = 13 from rfl, show wIx (11 + 3) = 14 from rfl, show wIx (11 + 4) = 15 from rfl, w11, w12, w13, w14, (word_ne (j := 15) w14 (by decide)), if_true, Bool.false_eq_true, if_false]; rfl
        rw [hwh]
        refine r_iload_n dX9_begins_93 rfl rfl ?_
        refine r_if_ne (tgt := 109) dX9_begins_94 (by decide) ⟨by omega, by omega⟩ (fun g94 => absurd g94 (by omega)) (fun g94 => ?_)
        refine r_aload_n dX9_begins_97 rfl rfl ?_
        refine r_bipush dX9_begins_98 rfl ?_
        refine r_callV 68 [_] (s_X9_is (g := g) (k := 6) c68 c72 ht hle htt rs (by decide) (by decide)) dX9_begins_100 cs_X9_178 im_X9_is (by decide) c68 rfl (by decide) (by decide) (by decide) rfl rfl (Nat.le_of_ble_eq_true rfl) (fun _ _ _ q => q.elim) (fun v n2 h2 q => ?_)
        obtain ⟨rfl, rfl, hh⟩ := q
        obtain rfl := hh.symm
        refine ⟨rfl, ?_⟩
        dsimp only [Option.toList, List.cons_append, List.nil_append]
        rw [show wIx 6 = 0 from rfl, show wordAt t le e 0 = false from Bool.eq_false_iff.mpr w0, show b2i false = 0 from rfl]
        refine r_if_eq (tgt := 109) dX9_begins_103 (by decide) ⟨by omega, by omega⟩ (fun g103 => ?_) (fun g103 => absurd g103 (by omega))
        refine r_iload_n dX9_begins_109 rfl rfl ?_
        refine r_iconst dX9_begins_110 ?_
        refine r_icmp_ne (tgt := 119) dX9_begins_111 (by decide) ⟨by omega, by omega⟩ ⟨by omega, by omega⟩ (fun g111 => ?_) (fun g111 => absurd g111 (by omega))
        refine r_aload_n dX9_begins_119 rfl rfl ?_
        refine r_callV 68 [] (s_X9_good1 (g := g) c68 h9) dX9_begins_120 cs_X9_161 im_X9_isGood (by decide) c68 rfl (by decide) (by decide) (by decide) rfl rfl (Nat.le_of_ble_eq_true rfl) (fun _ _ _ q => q.elim) (fun v n2 h2 q => ?_)
        obtain ⟨rfl, rfl, hh⟩ := q
        obtain rfl := hh.symm
        refine ⟨rfl, ?_⟩
        dsimp only [Option.toList, List.cons_append, List.nil_append]
        refine r_if_ne (tgt := 128) dX9_begins_123 (by decide) ⟨by omega, by omega⟩ (fun g123 => ?_) (fun g123 => absurd g123 (by omega))
        refine r_aload_n dX9_begins_128 rfl rfl ?_
        refine r_callV 68 [] (s_X9_steps (g := g) (e := tkE t le e) c68 c72 ht hle htt (tk_B t rs.1).2.2.2.1 rs.2.1 rs.2.2.1) dX9_begins_129 cs_X9_165 im_X9_steps (by decide) c68 rfl (by decide) (by decide) (by decide) rfl rfl (Nat.le_of_ble_eq_true rfl) (fun _ _ _ q => q.elim) (fun v n2 h2 q => ?_)
        obtain ⟨rfl, rfl, g5, w5, rfl, rs5, kp5⟩ := q
        refine ⟨rfl, ?_⟩
        dsimp only [Option.toList, List.cons_append, List.nil_append]
        refine r_iload_n dX9_begins_132 rfl rfl ?_
        refine r_bipush dX9_begins_133 rfl ?_
        refine r_icmp_ne (tgt := 162) dX9_begins_135 (by decide) ⟨by omega, by omega⟩ ⟨by omega, by omega⟩ (fun g135 => ?_) (fun g135 => absurd g135 (by omega))
        refine r_iload_n dX9_begins_162 rfl rfl ?_
        refine r_bipush dX9_begins_163 rfl ?_
        refine r_icmp_ne (tgt := 174) dX9_begins_165 (by decide) ⟨by omega, by omega⟩ ⟨by omega, by omega⟩ (fun g165 => ?_) (fun g165 => absurd g165 (by omega))
        refine r_iload_n dX9_begins_174 rfl rfl ?_
        refine r_bipush dX9_begins_175 rfl ?_
        refine r_icmp_ne (tgt := 201) dX9_begins_177 (by decide) ⟨by omega, by omega⟩ ⟨by omega, by omega⟩ (fun g177 => ?_) (fun g177 => absurd g177 (by omega))
        refine r_aload_n dX9_begins_201 rfl rfl ?_
        refine r_iload_n dX9_begins_202 rfl rfl ?_
        refine r_iload_n dX9_begins_203 rfl rfl ?_
        refine r_bipush dX9_begins_204 rfl ?_
        refine r_icmp_ne (tgt := 219) dX9_begins_206 (by decide) ⟨by omega, by omega⟩ ⟨by omega, by omega⟩ (fun g206 => absurd g206 (by omega)) (fun g206 => ?_)
        refine r_aload_n dX9_begins_209 rfl rfl ?_
        refine r_sipush dX9_begins_210 rfl ?_
        refine r_callV 68 [_] (s_X9_signed (g := g5) (by rfl) (by exact c72) ht hle htt rs5 ((kp5 9 (by decide)).trans h9) ⟨by decide, by decide⟩) dX9_begins_213 cs_X9_185 im_X9_signed (by decide) rfl rfl (by decide) (by decide) (by decide) rfl rfl (Nat.le_of_ble_eq_true rfl) (fun _ _ _ q => q.elim) (fun v n2 h2 q => ?_)
        obtain ⟨rfl, z6, g6, w6, rfl, rfl, hr6⟩ := q
        rcases hr6 with ⟨e6, hr6, rs6, kp6⟩ | ⟨f6, p6, hr6, hf6, nf6, np6, kp6⟩
        · have p52 : g6 52 = (o : Int) := (kp6 52 (by decide)).trans ((kp5 52 (by decide)).trans e52)
          refine ⟨rfl, ?_⟩
          dsimp only [Option.toList, List.cons_append, List.nil_append]
          refine r_goto (tgt := 220) dX9_begins_216 (by decide) ?_
          refine r_callV 68 [_, _] (s_X9_opens (g := g6) (o := o) (by rfl) (by exact c89) (by exact c90) (by exact c91) p52 (by omega)) dX9_begins_220 cs_X9_338 im_X9_opens (by decide) rfl rfl (by decide) (by decide) (by decide) rfl rfl (Nat.le_of_ble_eq_true rfl) (fun _ _ _ q => q.elim) (fun v n2 h2 q => ?_)
          obtain ⟨rfl, rfl, hh⟩ := q
          obtain rfl := hh.symm
          refine ⟨rfl, ?_⟩
          dsimp only [Option.toList, List.cons_append, List.nil_append]
          refine r_iload_n dX9_begins_223 rfl rfl ?_
          refine r_bipush dX9_begins_224 rfl ?_
          refine r_icmp_eq (tgt := 241) dX9_begins_226 (by decide) ⟨by omega, by omega⟩ ⟨by omega, by omega⟩ (fun g226 => absurd g226 (by omega)) (fun g226 => ?_)
          refine r_iload_n dX9_begins_229 rfl rfl ?_
          refine r_bipush dX9_begins_230 rfl ?_
          refine r_icmp_eq (tgt := 241) dX9_begins_232 (by decide) ⟨by omega, by omega⟩ ⟨by omega, by omega⟩ (fun g232 => absurd g232 (by omega)) (fun g232 => ?_)
          refine r_iload_n dX9_begins_235 rfl rfl ?_
          refine r_bipush dX9_begins_236 rfl ?_
          refine r_icmp_ne (tgt := 251) dX9_begins_238 (by decide) ⟨by omega, by omega⟩ ⟨by omega, by omega⟩ (fun g238 => ?_) (fun g238 => absurd g238 (by omega))
          refine r_iconst dX9_begins_251 ?_
          refine r_zret dX9_begins_252 (nar_z (by omega)) ?_
          exact ⟨rfl, _, _, _, _, _, _, (wt_mk rfl (by exact c87) rfl rfl rfl (fun j a b c d e => by simp only [va_up, a, b, c, d, e, if_false])), Or.inr (Or.inr ⟨14, z6, e6, by unfold bgR; rw [if_pos hk1, if_neg (by omega), if_pos rfl]; unfold bgT; rw [if_neg w0, if_neg w11, if_neg w12, if_neg w13, if_pos w14]; unfold bgL; rw [hr6], rfl, RS_kp rs6 (fun k hk => by rw [va_up_ne _ _ (by omega)]), (kp6 9 (by decide)).trans ((kp5 9 (by decide)).trans h9), (kp6 10 (by decide)).trans (kp5 10 (by decide)), (kp6 51 (by decide)).trans ((kp5 51 (by decide)).trans e51), rfl, rfl, rfl, rfl, rfl⟩), (fun k h1 h2 h3 => by (repeat rw [va_up_ne _ _ (by omega)]); exact (kp6 k h2).trans (kp5 k h2))⟩
        · have p52 : g6 52 = (o : Int) := (kp6 52 (by decide) (by decide)).trans ((kp5 52 (by decide)).trans e52)
          refine ⟨rfl, ?_⟩
          dsimp only [Option.toList, List.cons_append, List.nil_append]
          refine r_goto (tgt := 220) dX9_begins_216 (by decide) ?_
          refine r_callV 68 [_, _] (s_X9_opens (g := g6) (o := o) (by rfl) (by exact c89) (by exact c90) (by exact c91) p52 (by omega)) dX9_begins_220 cs_X9_338 im_X9_opens (by decide) rfl rfl (by decide) (by decide) (by decide) rfl rfl (Nat.le_of_ble_eq_true rfl) (fun _ _ _ q => q.elim) (fun v n2 h2 q => ?_)
          obtain ⟨rfl, rfl, hh⟩ := q
          obtain rfl := hh.symm
          refine ⟨rfl, ?_⟩
          dsimp only [Option.toList, List.cons_append, List.nil_append]
          refine r_iload_n dX9_begins_223 rfl rfl ?_
          refine r_bipush dX9_begins_224 rfl ?_
          refine r_icmp_eq (tgt := 241) dX9_begins_226 (by decide) ⟨by omega, by omega⟩ ⟨by omega, by omega⟩ (fun g226 => absurd g226 (by omega)) (fun g226 => ?_)
          refine r_iload_n dX9_begins_229 rfl rfl ?_
          refine r_bipush dX9_begins_230 rfl ?_
          refine r_icmp_eq (tgt := 241) dX9_begins_232 (by decide) ⟨by omega, by omega⟩ ⟨by omega, by omega⟩ (fun g232 => absurd g232 (by omega)) (fun g232 => ?_)
          refine r_iload_n dX9_begins_235 rfl rfl ?_
          refine r_bipush dX9_begins_236 rfl ?_
          refine r_icmp_ne (tgt := 251) dX9_begins_238 (by decide) ⟨by omega, by omega⟩ ⟨by omega, by omega⟩ (fun g238 => ?_) (fun g238 => absurd g238 (by omega))
          refine r_iconst dX9_begins_251 ?_
          refine r_zret dX9_begins_252 (nar_z (by omega)) ?_
          exact ⟨rfl, _, _, _, _, _, _, (wt_mk rfl (by exact c87) rfl rfl rfl (fun j a b c d e => by simp only [va_up, a, b, c, d, e, if_false])), Or.inl ⟨f6, p6, by unfold bgR; rw [if_pos hk1, if_neg (by omega), if_pos rfl]; unfold bgT; rw [if_neg w0, if_neg w11, if_neg w12, if_neg w13, if_pos w14]; unfold bgL; rw [hr6], by omega, nf6, np6, 0, rfl, Or.inl rfl⟩, (fun k h1 h2 h3 => by (repeat rw [va_up_ne _ _ (by omega)]); exact (kp6 k h1 h2).trans (kp5 k h2))⟩
      by_cases w15 : wordAt t le e 15 = true
      · have hwh : whF t le e 11 5 = 15 := by simp only [whF, show wIx (11 + 0) = 11 from rfl, show wIx (11 + 1) = 12 from rfl, show wIx (11 + 2) = 13 from rfl, show wIx (11 + 3) = 14 from rfl, show wIx (11 + 4) = 15 from rfl, w11, w12, w13, w14, w15, if_true, Bool.false_eq_true, if_false]; rfl
        rw [hwh]
        refine r_iload_n dX9_begins_93 rfl rfl ?_
        refine r_if_ne (tgt := 109) dX9_begins_94 (by decide) ⟨by omega, by omega⟩ (fun g94 => absurd g94 (by omega)) (fun g94 => ?_)
        refine r_aload_n dX9_begins_97 rfl rfl ?_
        refine r_bipush dX9_begins_98 rfl ?_
        refine r_callV 68 [_] (s_X9_is (g := g) (k := 6) c68 c72 ht hle htt rs (by decide) (by decide)) dX9_begins_100 cs_X9_178 im_X9_is (by decide) c68 rfl (by decide) (by decide) (by decide) rfl rfl (Nat.le_of_ble_eq_true rfl) (fun _ _ _ q => q.elim) (fun v n2 h2 q => ?_)
        obtain ⟨rfl, rfl, hh⟩ := q
        obtain rfl := hh.symm
        refine ⟨rfl, ?_⟩
        dsimp only [Option.toList, List.cons_append, List.nil_append]
        rw [show wIx 6 = 0 from rfl, show wordAt t le e 0 = false from Bool.eq_false_iff.mpr w0, show b2i false = 0 from rfl]
        refine r_if_eq (tgt := 109) dX9_begins_103 (by decide) ⟨by omega, by omega⟩ (fun g103 => ?_) (fun g103 => absurd g103 (by omega))
        refine r_iload_n dX9_begins_109 rfl rfl ?_
        refine r_iconst dX9_begins_110 ?_
        refine r_icmp_ne (tgt := 119) dX9_begins_111 (by decide) ⟨by omega, by omega⟩ ⟨by omega, by omega⟩ (fun g111 => ?_) (fun g111 => absurd g111 (by omega))
        refine r_aload_n dX9_begins_119 rfl rfl ?_
        refine r_callV 68 [] (s_X9_good1 (g := g) c68 h9) dX9_begins_120 cs_X9_161 im_X9_isGood (by decide) c68 rfl (by decide) (by decide) (by decide) rfl rfl (Nat.le_of_ble_eq_true rfl) (fun _ _ _ q => q.elim) (fun v n2 h2 q => ?_)
        obtain ⟨rfl, rfl, hh⟩ := q
        obtain rfl := hh.symm
        refine ⟨rfl, ?_⟩
        dsimp only [Option.toList, List.cons_append, List.nil_append]
        refine r_if_ne (tgt := 128) dX9_begins_123 (by decide) ⟨by omega, by omega⟩ (fun g123 => ?_) (fun g123 => absurd g123 (by omega))
        refine r_aload_n dX9_begins_128 rfl rfl ?_
        refine r_callV 68 [] (s_X9_steps (g := g) (e := tkE t le e) c68 c72 ht hle htt (tk_B t rs.1).2.2.2.1 rs.2.1 rs.2.2.1) dX9_begins_129 cs_X9_165 im_X9_steps (by decide) c68 rfl (by decide) (by decide) (by decide) rfl rfl (Nat.le_of_ble_eq_true rfl) (fun _ _ _ q => q.elim) (fun v n2 h2 q => ?_)
        obtain ⟨rfl, rfl, g5, w5, rfl, rs5, kp5⟩ := q
        refine ⟨rfl, ?_⟩
        dsimp only [Option.toList, List.cons_append, List.nil_append]
        refine r_iload_n dX9_begins_132 rfl rfl ?_
        refine r_bipush dX9_begins_133 rfl ?_
        refine r_icmp_ne (tgt := 162) dX9_begins_135 (by decide) ⟨by omega, by omega⟩ ⟨by omega, by omega⟩ (fun g135 => ?_) (fun g135 => absurd g135 (by omega))
        refine r_iload_n dX9_begins_162 rfl rfl ?_
        refine r_bipush dX9_begins_163 rfl ?_
        refine r_icmp_ne (tgt := 174) dX9_begins_165 (by decide) ⟨by omega, by omega⟩ ⟨by omega, by omega⟩ (fun g165 => ?_) (fun g165 => absurd g165 (by omega))
        refine r_iload_n dX9_begins_174 rfl rfl ?_
        refine r_bipush dX9_begins_175 rfl ?_
        refine r_icmp_ne (tgt := 201) dX9_begins_177 (by decide) ⟨by omega, by omega⟩ ⟨by omega, by omega⟩ (fun g177 => ?_) (fun g177 => absurd g177 (by omega))
        refine r_aload_n dX9_begins_201 rfl rfl ?_
        refine r_iload_n dX9_begins_202 rfl rfl ?_
        refine r_iload_n dX9_begins_203 rfl rfl ?_
        refine r_bipush dX9_begins_204 rfl ?_
        refine r_icmp_ne (tgt := 219) dX9_begins_206 (by decide) ⟨by omega, by omega⟩ ⟨by omega, by omega⟩ (fun g206 => ?_) (fun g206 => absurd g206 (by omega))
        have p52 : g5 52 = (o : Int) := (kp5 52 (by decide)).trans e52
        refine r_iconst dX9_begins_219 ?_
        refine r_callV 68 [_, _] (s_X9_opens (g := g5) (o := o) (by rfl) (by exact c89) (by exact c90) (by exact c91) p52 (by omega)) dX9_begins_220 cs_X9_338 im_X9_opens (by decide) rfl rfl (by decide) (by decide) (by decide) rfl rfl (Nat.le_of_ble_eq_true rfl) (fun _ _ _ q => q.elim) (fun v n2 h2 q => ?_)
        obtain ⟨rfl, rfl, hh⟩ := q
        obtain rfl := hh.symm
        refine ⟨rfl, ?_⟩
        dsimp only [Option.toList, List.cons_append, List.nil_append]
        refine r_iload_n dX9_begins_223 rfl rfl ?_
        refine r_bipush dX9_begins_224 rfl ?_
        refine r_icmp_eq (tgt := 241) dX9_begins_226 (by decide) ⟨by omega, by omega⟩ ⟨by omega, by omega⟩ (fun g226 => absurd g226 (by omega)) (fun g226 => ?_)
        refine r_iload_n dX9_begins_229 rfl rfl ?_
        refine r_bipush dX9_begins_230 rfl ?_
        refine r_icmp_eq (tgt := 241) dX9_begins_232 (by decide) ⟨by omega, by omega⟩ ⟨by omega, by omega⟩ (fun g232 => absurd g232 (by omega)) (fun g232 => ?_)
        refine r_iload_n dX9_begins_235 rfl rfl ?_
        refine r_bipush dX9_begins_236 rfl ?_
        refine r_icmp_ne (tgt := 251) dX9_begins_238 (by decide) ⟨by omega, by omega⟩ ⟨by omega, by omega⟩ (fun g238 => ?_) (fun g238 => absurd g238 (by omega))
        refine r_iconst dX9_begins_251 ?_
        refine r_zret dX9_begins_252 (nar_z (by omega)) ?_
        exact ⟨rfl, _, _, _, _, _, _, (wt_mk rfl (by exact c87) rfl rfl rfl (fun j a b c d e => by simp only [va_up, a, b, c, d, e, if_false])), Or.inr (Or.inr ⟨15, 1, tkE t le e, by unfold bgR; rw [if_pos hk1, if_neg (by omega), if_pos rfl]; unfold bgT; rw [if_neg w0, if_neg w11, if_neg w12, if_neg w13, if_neg w14, if_pos w15], rfl, RS_kp rs5 (fun k hk => by rw [va_up_ne _ _ (by omega)]), (kp5 9 (by decide)).trans h9, kp5 10 (by decide), (kp5 51 (by decide)).trans e51, rfl, rfl, rfl, rfl, rfl⟩), (fun k h1 h2 h3 => by (repeat rw [va_up_ne _ _ (by omega)]); exact kp5 k h2)⟩
      have hwh : whF t le e 11 5 = (-1) := by simp only [whF, show wIx (11 + 0) = 11 from rfl, show wIx (11 + 1) = 12 from rfl, show wIx (11 + 2) = 13 from rfl, show wIx (11 + 3) = 14 from rfl, show wIx (11 + 4) = 15 from rfl, w11, w12, w13, w14, w15, if_true, Bool.false_eq_true, if_false]
      rw [hwh]
      refine r_iload_n dX9_begins_93 rfl rfl ?_
      refine r_if_ne (tgt := 109) dX9_begins_94 (by decide) ⟨by omega, by omega⟩ (fun g94 => absurd g94 (by omega)) (fun g94 => ?_)
      refine r_aload_n dX9_begins_97 rfl rfl ?_
      refine r_bipush dX9_begins_98 rfl ?_
      refine r_callV 68 [_] (s_X9_is (g := g) (k := 6) c68 c72 ht hle htt rs (by decide) (by decide)) dX9_begins_100 cs_X9_178 im_X9_is (by decide) c68 rfl (by decide) (by decide) (by decide) rfl rfl (Nat.le_of_ble_eq_true rfl) (fun _ _ _ q => q.elim) (fun v n2 h2 q => ?_)
      obtain ⟨rfl, rfl, hh⟩ := q
      obtain rfl := hh.symm
      refine ⟨rfl, ?_⟩
      dsimp only [Option.toList, List.cons_append, List.nil_append]
      rw [show wIx 6 = 0 from rfl, show wordAt t le e 0 = false from Bool.eq_false_iff.mpr w0, show b2i false = 0 from rfl]
      refine r_if_eq (tgt := 109) dX9_begins_103 (by decide) ⟨by omega, by omega⟩ (fun g103 => ?_) (fun g103 => absurd g103 (by omega))
      refine r_iload_n dX9_begins_109 rfl rfl ?_
      refine r_iconst dX9_begins_110 ?_
      refine r_icmp_ne (tgt := 119) dX9_begins_111 (by decide) ⟨by omega, by omega⟩ ⟨by omega, by omega⟩ (fun g111 => absurd g111 (by omega)) (fun g111 => ?_)
      refine r_aload_n dX9_begins_114 rfl rfl ?_
      refine r_iconst dX9_begins_115 ?_
      refine r_callV 68 [_] (s_X9_wrong1 (g := g) c68 h9) dX9_begins_116 cs_X9_168 im_X9_wrong (by decide) c68 rfl (by decide) (by decide) (by decide) rfl rfl (Nat.le_of_ble_eq_true rfl) (fun _ _ _ q => q.elim) (fun v n2 h2 q => ?_)
      obtain ⟨rfl, rfl, hh⟩ := q
      obtain rfl := hh.symm
      refine ⟨rfl, ?_⟩
      dsimp only [Option.toList, List.cons_append, List.nil_append]
      refine r_aload_n dX9_begins_119 rfl rfl ?_
      refine r_callV 68 [] (s_X9_good0 (g := (va_up (va_up g 9 4) 10 (g 15))) (by rfl) ⟨by show (1 : Int) ≤ 4; decide, by show (4 : Int) ≤ 9; decide⟩) dX9_begins_120 cs_X9_161 im_X9_isGood (by decide) rfl rfl (by decide) (by decide) (by decide) rfl rfl (Nat.le_of_ble_eq_true rfl) (fun _ _ _ q => q.elim) (fun v n2 h2 q => ?_)
      obtain ⟨rfl, rfl, hh⟩ := q
      obtain rfl := hh.symm
      refine ⟨rfl, ?_⟩
      dsimp only [Option.toList, List.cons_append, List.nil_append]
      refine r_if_ne (tgt := 128) dX9_begins_123 (by decide) ⟨by omega, by omega⟩ (fun g123 => absurd g123 (by omega)) (fun g123 => ?_)
      refine r_iconst dX9_begins_126 ?_
      refine r_zret dX9_begins_127 (nar_z (by omega)) ?_
      exact ⟨rfl, _, _, _, _, _, _, (wt_mk rfl (by exact c87) (by exact c89) (by exact c90) (by exact c91) (fun j a b c d e => by simp only [va_up, a, b, c, d, e, if_false])), Or.inl ⟨4, tkS t le e, by unfold bgR; rw [if_pos hk1, if_neg (by omega), if_pos rfl]; unfold bgT; rw [if_neg w0, if_neg w11, if_neg w12, if_neg w13, if_neg w14, if_neg w15], by decide, rfl, rs.2.2.2.2.1, 1, rfl, Or.inr rfl⟩, (fun k h1 h2 h3 => by (repeat rw [va_up_ne _ _ (by omega)]))⟩
    · refine r_aload_n dX9_begins_34 rfl rfl ?_
      refine r_iconst dX9_begins_35 ?_
      refine r_callV 68 [_] (s_X9_wrong1 (g := g) c68 h9) dX9_begins_36 cs_X9_168 im_X9_wrong (by decide) c68 rfl (by decide) (by decide) (by decide) rfl rfl (Nat.le_of_ble_eq_true rfl) (fun _ _ _ q => q.elim) (fun v n2 h2 q => ?_)
      obtain ⟨rfl, rfl, hh⟩ := q
      obtain rfl := hh.symm
      refine ⟨rfl, ?_⟩
      dsimp only [Option.toList, List.cons_append, List.nil_append]
      refine r_aload_n dX9_begins_39 rfl rfl ?_
      refine r_callV 68 [] (s_X9_good0 (g := (va_up (va_up g 9 2) 10 (g 15))) (by rfl) ⟨by show (1 : Int) ≤ 2; decide, by show (2 : Int) ≤ 9; decide⟩) dX9_begins_40 cs_X9_161 im_X9_isGood (by decide) rfl rfl (by decide) (by decide) (by decide) rfl rfl (Nat.le_of_ble_eq_true rfl) (fun _ _ _ q => q.elim) (fun v n2 h2 q => ?_)
      obtain ⟨rfl, rfl, hh⟩ := q
      obtain rfl := hh.symm
      refine ⟨rfl, ?_⟩
      dsimp only [Option.toList, List.cons_append, List.nil_append]
      refine r_if_ne (tgt := 48) dX9_begins_43 (by decide) ⟨by omega, by omega⟩ (fun g43 => absurd g43 (by omega)) (fun g43 => ?_)
      refine r_iconst dX9_begins_46 ?_
      refine r_zret dX9_begins_47 (nar_z (by omega)) ?_
      exact ⟨rfl, _, _, _, _, _, _, (wt_mk rfl (by exact c87) (by exact c89) (by exact c90) (by exact c91) (fun j a b c d e => by simp only [va_up, a, b, c, d, e, if_false])), Or.inl ⟨2, tkS t le e, by unfold bgR; rw [if_pos (by omega), if_pos (by omega)], by decide, rfl, rs.2.2.2.2.1, 1, rfl, Or.inr rfl⟩, (fun k h1 h2 h3 => by (repeat rw [va_up_ne _ _ (by omega)]))⟩
  · refine r_aload_n dX9_begins_17 rfl rfl ?_
    refine r_iconst dX9_begins_18 ?_
    refine r_callV 68 [_] (s_X9_wrong1 (g := g) c68 h9) dX9_begins_19 cs_X9_168 im_X9_wrong (by decide) c68 rfl (by decide) (by decide) (by decide) rfl rfl (Nat.le_of_ble_eq_true rfl) (fun _ _ _ q => q.elim) (fun v n2 h2 q => ?_)
    obtain ⟨rfl, rfl, hh⟩ := q
    obtain rfl := hh.symm
    refine ⟨rfl, ?_⟩
    dsimp only [Option.toList, List.cons_append, List.nil_append]
    refine r_goto (tgt := 39) dX9_begins_22 (by decide) ?_
    refine r_aload_n dX9_begins_39 rfl rfl ?_
    refine r_callV 68 [] (s_X9_good0 (g := (va_up (va_up g 9 1) 10 (g 15))) (by rfl) ⟨by show (1 : Int) ≤ 1; decide, by show (1 : Int) ≤ 9; decide⟩) dX9_begins_40 cs_X9_161 im_X9_isGood (by decide) rfl rfl (by decide) (by decide) (by decide) rfl rfl (Nat.le_of_ble_eq_true rfl) (fun _ _ _ q => q.elim) (fun v n2 h2 q => ?_)
    obtain ⟨rfl, rfl, hh⟩ := q
    obtain rfl := hh.symm
    refine ⟨rfl, ?_⟩
    dsimp only [Option.toList, List.cons_append, List.nil_append]
    refine r_if_ne (tgt := 48) dX9_begins_43 (by decide) ⟨by omega, by omega⟩ (fun g43 => absurd g43 (by omega)) (fun g43 => ?_)
    refine r_iconst dX9_begins_46 ?_
    refine r_zret dX9_begins_47 (nar_z (by omega)) ?_
    exact ⟨rfl, _, _, _, _, _, _, (wt_mk rfl (by exact c87) (by exact c89) (by exact c90) (by exact c91) (fun j a b c d e => by simp only [va_up, a, b, c, d, e, if_false])), Or.inl ⟨1, tkS t le e, by unfold bgR; rw [if_neg (by omega)], by decide, rfl, rs.2.2.2.2.1, 1, rfl, Or.inr rfl⟩, (fun k h1 h2 h3 => by (repeat rw [va_up_ne _ _ (by omega)]))⟩

theorem s_X9_beginsE {h : aH} {g : Nat → Int} {w : Int} (c68 : h 68 = RG g w) {trr : Nat → Int} (c72 : h 72 = .inl (0, 700, trr)) {NC : Nat → Int} (c87 : h 87 = .inl (0, 1500, NC)) {OP SG BS : Nat → Int} (c89 : h 89 = .inl (0, 13, OP)) (c90 : h 90 = .inl (0, 13, SG)) (c91 : h 91 = .inl (0, 13, BS)) {t : Nat → Int} (ht : ∀ j, -128 ≤ t j ∧ t j ≤ 127) {le : Nat} (hle : le ≤ 700) (htt : ∀ j, j < le → trr j = t j % 256) {e : Nat} (rs : RS t le e g w) (h9 : g 9 = 0) {nd : Int} (e1 : g 1 = nd) (hnd : 0 ≤ nd ∧ nd ≤ 9) {tp o : Nat} (e51 : g 51 = (tp : Int)) (htp : tp + 2 ≤ 1500) (e52 : g 52 = (o : Int)) (ho : o ≤ 12)  : mSem yX9_begins cX9_begins 4 (some .boolean) 5 0 0 [.ref 68, iv 1] 97 h (BgQ t le nd (bgR t le nd o false e) h g NC OP SG BS tp o) noX := by
  have hsb := sort_B rs
  refine mSem_of (own := RX9) (name := "begins") pn_X9 rfl rfl (Nat.le_of_ble_eq_true rfl) ?_
  refine r_aload_n dX9_begins_0 rfl rfl ?_
  refine r_callV 68 [] (s_X9_good1 (g := g) c68 h9) dX9_begins_1 cs_X9_161 im_X9_isGood (by decide) c68 rfl (by decide) (by decide) (by decide) rfl rfl (Nat.le_of_ble_eq_true rfl) (fun _ _ _ q => q.elim) (fun v n2 h2 q => ?_)
  obtain ⟨rfl, rfl, hh⟩ := q
  obtain rfl := hh.symm
  refine ⟨rfl, ?_⟩
  dsimp only [Option.toList, List.cons_append, List.nil_append]
  refine r_if_ne (tgt := 9) dX9_begins_4 (by decide) ⟨by omega, by omega⟩ (fun g4 => ?_) (fun g4 => absurd g4 (by omega))
  refine r_aload_n dX9_begins_9 rfl rfl ?_
  refine r_getR (z := (g 14)) dX9_begins_10 fl_X9_135 (by decide) c68 rfl ?_
  refine r_iconst dX9_begins_13 ?_
  refine r_icmp_eq (tgt := 25) dX9_begins_14 (by decide) ⟨by omega, by omega⟩ ⟨by omega, by omega⟩ (fun g14 => ?_) (fun g14 => ?_)
  · refine r_aload_n dX9_begins_25 rfl rfl ?_
    refine r_getR (z := (g 52)) dX9_begins_26 fl_X9_326 (by decide) c68 rfl ?_
    refine r_bipush dX9_begins_29 rfl ?_
    refine r_icmp_ne (tgt := 39) dX9_begins_31 (by decide) ⟨by omega, by omega⟩ ⟨by omega, by omega⟩ (fun g31 => ?_) (fun g31 => ?_)
    · refine r_aload_n dX9_begins_39 rfl rfl ?_
      refine r_callV 68 [] (s_X9_good1 (g := g) c68 h9) dX9_begins_40 cs_X9_161 im_X9_isGood (by decide) c68 rfl (by decide) (by decide) (by decide) rfl rfl (Nat.le_of_ble_eq_true rfl) (fun _ _ _ q => q.elim) (fun v n2 h2 q => ?_)
      obtain ⟨rfl, rfl, hh⟩ := q
      obtain rfl := hh.symm
      refine ⟨rfl, ?_⟩
      dsimp only [Option.toList, List.cons_append, List.nil_append]
      refine r_if_ne (tgt := 48) dX9_begins_43 (by decide) ⟨by omega, by omega⟩ (fun g43 => ?_) (fun g43 => absurd g43 (by omega))
      refine r_iconst dX9_begins_48 ?_
      refine r_istore_n (lv2 := [(0, _), (1, _), (2, _)]) dX9_begins_49 rfl (by decide) rfl rfl ?_
      refine r_iload_n dX9_begins_50 rfl rfl ?_
      refine r_if_eq (tgt := 59) dX9_begins_51 (by decide) ⟨by omega, by omega⟩ (fun g51 => absurd g51 (by omega)) (fun g51 => ?_)
      refine r_bipush dX9_begins_54 rfl ?_
      refine r_goto (tgt := 61) dX9_begins_56 (by decide) ?_
      refine r_istore_n (lv2 := [(0, _), (1, _), (2, _), (3, _)]) dX9_begins_61 rfl (by decide) rfl rfl ?_
      have hk1 : tkK t le e = 1 := by omega
      refine l_X9_whE (by exact c68) (by exact c72) ht hle htt rs (by decide) 4 0 (by decide) ?_
      by_cases w16 : wordAt t le e 16 = true
      · have hwh : whF t le e 19 4 = 19 := by simp only [whF, show wIx (19 + 0) = 16 from rfl, show wIx (19 + 1) = 17 from rfl, show wIx (19 + 2) = 18 from rfl, show wIx (19 + 3) = 19 from rfl, w16, (word_ne (j := 17) w16 (by decide)), (word_ne (j := 18) w16 (by decide)), (word_ne (j := 19) w16 (by decide)), if_true, Bool.false_eq_true, if_false]; rfl
        rw [hwh]
        refine r_iload_n dX9_begins_93 rfl rfl ?_
        refine r_if_ne (tgt := 109) dX9_begins_94 (by decide) ⟨by omega, by omega⟩ (fun g94 => ?_) (fun g94 => absurd g94 (by omega))
        refine r_iload_n dX9_begins_109 rfl rfl ?_
        refine r_iconst dX9_begins_110 ?_
        refine r_icmp_ne (tgt := 119) dX9_begins_111 (by decide) ⟨by omega, by omega⟩ ⟨by omega, by omega⟩ (fun g111 => ?_) (fun g111 => absurd g111 (by omega))
        refine r_aload_n dX9_begins_119 rfl rfl ?_
        refine r_callV 68 [] (s_X9_good1 (g := g) c68 h9) dX9_begins_120 cs_X9_161 im_X9_isGood (by decide) c68 rfl (by decide) (by decide) (by decide) rfl rfl (Nat.le_of_ble_eq_true rfl) (fun _ _ _ q => q.elim) (fun v n2 h2 q => ?_)
        obtain ⟨rfl, rfl, hh⟩ := q
        obtain rfl := hh.symm
        refine ⟨rfl, ?_⟩
        dsimp only [Option.toList, List.cons_append, List.nil_append]
        refine r_if_ne (tgt := 128) dX9_begins_123 (by decide) ⟨by omega, by omega⟩ (fun g123 => ?_) (fun g123 => absurd g123 (by omega))
        refine r_aload_n dX9_begins_128 rfl rfl ?_
        refine r_callV 68 [] (s_X9_steps (g := g) (e := tkE t le e) c68 c72 ht hle htt (tk_B t rs.1).2.2.2.1 rs.2.1 rs.2.2.1) dX9_begins_129 cs_X9_165 im_X9_steps (by decide) c68 rfl (by decide) (by decide) (by decide) rfl rfl (Nat.le_of_ble_eq_true rfl) (fun _ _ _ q => q.elim) (fun v n2 h2 q => ?_)
        obtain ⟨rfl, rfl, g5, w5, rfl, rs5, kp5⟩ := q
        refine ⟨rfl, ?_⟩
        dsimp only [Option.toList, List.cons_append, List.nil_append]
        refine r_iload_n dX9_begins_132 rfl rfl ?_
        refine r_bipush dX9_begins_133 rfl ?_
        refine r_icmp_ne (tgt := 162) dX9_begins_135 (by decide) ⟨by omega, by omega⟩ ⟨by omega, by omega⟩ (fun g135 => ?_) (fun g135 => absurd g135 (by omega))
        refine r_iload_n dX9_begins_162 rfl rfl ?_
        refine r_bipush dX9_begins_163 rfl ?_
        refine r_icmp_ne (tgt := 174) dX9_begins_165 (by decide) ⟨by omega, by omega⟩ ⟨by omega, by omega⟩ (fun g165 => ?_) (fun g165 => absurd g165 (by omega))
        refine r_iload_n dX9_begins_174 rfl rfl ?_
        refine r_bipush dX9_begins_175 rfl ?_
        refine r_icmp_ne (tgt := 201) dX9_begins_177 (by decide) ⟨by omega, by omega⟩ ⟨by omega, by omega⟩ (fun g177 => ?_) (fun g177 => absurd g177 (by omega))
        refine r_aload_n dX9_begins_201 rfl rfl ?_
        refine r_iload_n dX9_begins_202 rfl rfl ?_
        refine r_iload_n dX9_begins_203 rfl rfl ?_
        refine r_bipush dX9_begins_204 rfl ?_
        refine r_icmp_ne (tgt := 219) dX9_begins_206 (by decide) ⟨by omega, by omega⟩ ⟨by omega, by omega⟩ (fun g206 => ?_) (fun g206 => absurd g206 (by omega))
        have p52 : g5 52 = (o : Int) := (kp5 52 (by decide)).trans e52
        refine r_iconst dX9_begins_219 ?_
        refine r_callV 68 [_, _] (s_X9_opens (g := g5) (o := o) (by rfl) (by exact c89) (by exact c90) (by exact c91) p52 (by omega)) dX9_begins_220 cs_X9_338 im_X9_opens (by decide) rfl rfl (by decide) (by decide) (by decide) rfl rfl (Nat.le_of_ble_eq_true rfl) (fun _ _ _ q => q.elim) (fun v n2 h2 q => ?_)
        obtain ⟨rfl, rfl, hh⟩ := q
        obtain rfl := hh.symm
        refine ⟨rfl, ?_⟩
        dsimp only [Option.toList, List.cons_append, List.nil_append]
        refine r_iload_n dX9_begins_223 rfl rfl ?_
        refine r_bipush dX9_begins_224 rfl ?_
        refine r_icmp_eq (tgt := 241) dX9_begins_226 (by decide) ⟨by omega, by omega⟩ ⟨by omega, by omega⟩ (fun g226 => absurd g226 (by omega)) (fun g226 => ?_)
        refine r_iload_n dX9_begins_229 rfl rfl ?_
        refine r_bipush dX9_begins_230 rfl ?_
        refine r_icmp_eq (tgt := 241) dX9_begins_232 (by decide) ⟨by omega, by omega⟩ ⟨by omega, by omega⟩ (fun g232 => absurd g232 (by omega)) (fun g232 => ?_)
        refine r_iload_n dX9_begins_235 rfl rfl ?_
        refine r_bipush dX9_begins_236 rfl ?_
        refine r_icmp_ne (tgt := 251) dX9_begins_238 (by decide) ⟨by omega, by omega⟩ ⟨by omega, by omega⟩ (fun g238 => ?_) (fun g238 => absurd g238 (by omega))
        refine r_iconst dX9_begins_251 ?_
        refine r_zret dX9_begins_252 (nar_z (by omega)) ?_
        exact ⟨rfl, _, _, _, _, _, _, (wt_mk rfl (by exact c87) rfl rfl rfl (fun j a b c d e => by simp only [va_up, a, b, c, d, e, if_false])), Or.inr (Or.inr ⟨19, 1, tkE t le e, by unfold bgR; rw [if_pos hk1, if_neg (by omega), if_neg (by decide)]; unfold bgE; rw [if_pos w16], rfl, RS_kp rs5 (fun k hk => by rw [va_up_ne _ _ (by omega)]), (kp5 9 (by decide)).trans h9, kp5 10 (by decide), (kp5 51 (by decide)).trans e51, rfl, rfl, rfl, rfl, rfl⟩), (fun k h1 h2 h3 => by (repeat rw [va_up_ne _ _ (by omega)]); exact kp5 k h2)⟩
      by_cases w17 : wordAt t le e 17 = true
      · have hwh : whF t le e 19 4 = 20 := by simp only [whF, show wIx (19 + 0) = 16 from rfl, show wIx (19 + 1) = 17 from rfl, show wIx (19 + 2) = 18 from rfl, show wIx (19 + 3) = 19 from rfl, w16, w17, (word_ne (j := 18) w17 (by decide)), (word_ne (j := 19) w17 (by decide)), if_true, Bool.false_eq_true, if_false]; rfl
        rw [hwh]
        refine r_iload_n dX9_begins_93 rfl rfl ?_
        refine r_if_ne (tgt := 109) dX9_begins_94 (by decide) ⟨by omega, by omega⟩ (fun g94 => ?_) (fun g94 => absurd g94 (by omega))
        refine r_iload_n dX9_begins_109 rfl rfl ?_
        refine r_iconst dX9_begins_110 ?_
        refine r_icmp_ne (tgt := 119) dX9_begins_111 (by decide) ⟨by omega, by omega⟩ ⟨by omega, by omega⟩ (fun g111 => ?_) (fun g111 => absurd g111 (by omega))
        refine r_aload_n dX9_begins_119 rfl rfl ?_
        refine r_callV 68 [] (s_X9_good1 (g := g) c68 h9) dX9_begins_120 cs_X9_161 im_X9_isGood (by decide) c68 rfl (by decide) (by decide) (by decide) rfl rfl (Nat.le_of_ble_eq_true rfl) (fun _ _ _ q => q.elim) (fun v n2 h2 q => ?_)
        obtain ⟨rfl, rfl, hh⟩ := q
        obtain rfl := hh.symm
        refine ⟨rfl, ?_⟩
        dsimp only [Option.toList, List.cons_append, List.nil_append]
        refine r_if_ne (tgt := 128) dX9_begins_123 (by decide) ⟨by omega, by omega⟩ (fun g123 => ?_) (fun g123 => absurd g123 (by omega))
        refine r_aload_n dX9_begins_128 rfl rfl ?_
        refine r_callV 68 [] (s_X9_steps (g := g) (e := tkE t le e) c68 c72 ht hle htt (tk_B t rs.1).2.2.2.1 rs.2.1 rs.2.2.1) dX9_begins_129 cs_X9_165 im_X9_steps (by decide) c68 rfl (by decide) (by decide) (by decide) rfl rfl (Nat.le_of_ble_eq_true rfl) (fun _ _ _ q => q.elim) (fun v n2 h2 q => ?_)
        obtain ⟨rfl, rfl, g5, w5, rfl, rs5, kp5⟩ := q
        refine ⟨rfl, ?_⟩
        dsimp only [Option.toList, List.cons_append, List.nil_append]
        refine r_iload_n dX9_begins_132 rfl rfl ?_
        refine r_bipush dX9_begins_133 rfl ?_
        refine r_icmp_ne (tgt := 162) dX9_begins_135 (by decide) ⟨by omega, by omega⟩ ⟨by omega, by omega⟩ (fun g135 => ?_) (fun g135 => absurd g135 (by omega))
        refine r_iload_n dX9_begins_162 rfl rfl ?_
        refine r_bipush dX9_begins_163 rfl ?_
        refine r_icmp_ne (tgt := 174) dX9_begins_165 (by decide) ⟨by omega, by omega⟩ ⟨by omega, by omega⟩ (fun g165 => ?_) (fun g165 => absurd g165 (by omega))
        refine r_iload_n dX9_begins_174 rfl rfl ?_
        refine r_bipush dX9_begins_175 rfl ?_
        refine r_icmp_ne (tgt := 201) dX9_begins_177 (by decide) ⟨by omega, by omega⟩ ⟨by omega, by omega⟩ (fun g177 => ?_) (fun g177 => absurd g177 (by omega))
        refine r_aload_n dX9_begins_201 rfl rfl ?_
        refine r_iload_n dX9_begins_202 rfl rfl ?_
        refine r_iload_n dX9_begins_203 rfl rfl ?_
        refine r_bipush dX9_begins_204 rfl ?_
        refine r_icmp_ne (tgt := 219) dX9_begins_206 (by decide) ⟨by omega, by omega⟩ ⟨by omega, by omega⟩ (fun g206 => ?_) (fun g206 => absurd g206 (by omega))
        have p52 : g5 52 = (o : Int) := (kp5 52 (by decide)).trans e52
        refine r_iconst dX9_begins_219 ?_
        refine r_callV 68 [_, _] (s_X9_opens (g := g5) (o := o) (by rfl) (by exact c89) (by exact c90) (by exact c91) p52 (by omega)) dX9_begins_220 cs_X9_338 im_X9_opens (by decide) rfl rfl (by decide) (by decide) (by decide) rfl rfl (Nat.le_of_ble_eq_true rfl) (fun _ _ _ q => q.elim) (fun v n2 h2 q => ?_)
        obtain ⟨rfl, rfl, hh⟩ := q
        obtain rfl := hh.symm
        refine ⟨rfl, ?_⟩
        dsimp only [Option.toList, List.cons_append, List.nil_append]
        refine r_iload_n dX9_begins_223 rfl rfl ?_
        refine r_bipush dX9_begins_224 rfl ?_
        refine r_icmp_eq (tgt := 241) dX9_begins_226 (by decide) ⟨by omega, by omega⟩ ⟨by omega, by omega⟩ (fun g226 => absurd g226 (by omega)) (fun g226 => ?_)
        refine r_iload_n dX9_begins_229 rfl rfl ?_
        refine r_bipush dX9_begins_230 rfl ?_
        refine r_icmp_eq (tgt := 241) dX9_begins_232 (by decide) ⟨by omega, by omega⟩ ⟨by omega, by omega⟩ (fun g232 => absurd g232 (by omega)) (fun g232 => ?_)
        refine r_iload_n dX9_begins_235 rfl rfl ?_
        refine r_bipush dX9_begins_236 rfl ?_
        refine r_icmp_ne (tgt := 251) dX9_begins_238 (by decide) ⟨by omega, by omega⟩ ⟨by omega, by omega⟩ (fun g238 => ?_) (fun g238 => absurd g238 (by omega))
        refine r_iconst dX9_begins_251 ?_
        refine r_zret dX9_begins_252 (nar_z (by omega)) ?_
        exact ⟨rfl, _, _, _, _, _, _, (wt_mk rfl (by exact c87) rfl rfl rfl (fun j a b c d e => by simp only [va_up, a, b, c, d, e, if_false])), Or.inr (Or.inr ⟨20, 1, tkE t le e, by unfold bgR; rw [if_pos hk1, if_neg (by omega), if_neg (by decide)]; unfold bgE; rw [if_neg w16, if_pos w17], rfl, RS_kp rs5 (fun k hk => by rw [va_up_ne _ _ (by omega)]), (kp5 9 (by decide)).trans h9, kp5 10 (by decide), (kp5 51 (by decide)).trans e51, rfl, rfl, rfl, rfl, rfl⟩), (fun k h1 h2 h3 => by (repeat rw [va_up_ne _ _ (by omega)]); exact kp5 k h2)⟩
      by_cases w18 : wordAt t le e 18 = true
      · have hwh : whF t le e 19 4 = 21 := by simp only [whF, show wIx (19 + 0) = 16 from rfl, show wIx (19 + 1) = 17 from rfl, show wIx (19 + 2) = 18 from rfl, show wIx (19 + 3) = 19 from rfl, w16, w17, w18, (word_ne (j := 19) w18 (by decide)), if_true, Bool.false_eq_true, if_false]; rfl
        rw [hwh]
        refine r_iload_n dX9_begins_93 rfl rfl ?_
        refine r_if_ne (tgt := 109) dX9_begins_94 (by decide) ⟨by omega, by omega⟩ (fun g94 => ?_) (fun g94 => absurd g94 (by omega))
        refine r_iload_n dX9_begins_109 rfl rfl ?_
        refine r_iconst dX9_begins_110 ?_
        refine r_icmp_ne (tgt := 119) dX9_begins_111 (by decide) ⟨by omega, by omega⟩ ⟨by omega, by omega⟩ (fun g111 => ?_) (fun g111 => absurd g111 (by omega))
        refine r_aload_n dX9_begins_119 rfl rfl ?_
        refine r_callV 68 [] (s_X9_good1 (g := g) c68 h9) dX9_begins_120 cs_X9_161 im_X9_isGood (by decide) c68 rfl (by decide) (by decide) (by decide) rfl rfl (Nat.le_of_ble_eq_true rfl) (fun _ _ _ q => q.elim) (fun v n2 h2 q => ?_)
        obtain ⟨rfl, rfl, hh⟩ := q
        obtain rfl := hh.symm
        refine ⟨rfl, ?_⟩
        dsimp only [Option.toList, List.cons_append, List.nil_append]
        refine r_if_ne (tgt := 128) dX9_begins_123 (by decide) ⟨by omega, by omega⟩ (fun g123 => ?_) (fun g123 => absurd g123 (by omega))
        refine r_aload_n dX9_begins_128 rfl rfl ?_
        refine r_callV 68 [] (s_X9_steps (g := g) (e := tkE t le e) c68 c72 ht hle htt (tk_B t rs.1).2.2.2.1 rs.2.1 rs.2.2.1) dX9_begins_129 cs_X9_165 im_X9_steps (by decide) c68 rfl (by decide) (by decide) (by decide) rfl rfl (Nat.le_of_ble_eq_true rfl) (fun _ _ _ q => q.elim) (fun v n2 h2 q => ?_)
        obtain ⟨rfl, rfl, g5, w5, rfl, rs5, kp5⟩ := q
        refine ⟨rfl, ?_⟩
        dsimp only [Option.toList, List.cons_append, List.nil_append]
        refine r_iload_n dX9_begins_132 rfl rfl ?_
        refine r_bipush dX9_begins_133 rfl ?_
        refine r_icmp_ne (tgt := 162) dX9_begins_135 (by decide) ⟨by omega, by omega⟩ ⟨by omega, by omega⟩ (fun g135 => ?_) (fun g135 => absurd g135 (by omega))
        refine r_iload_n dX9_begins_162 rfl rfl ?_
        refine r_bipush dX9_begins_163 rfl ?_
        refine r_icmp_ne (tgt := 174) dX9_begins_165 (by decide) ⟨by omega, by omega⟩ ⟨by omega, by omega⟩ (fun g165 => ?_) (fun g165 => absurd g165 (by omega))
        refine r_iload_n dX9_begins_174 rfl rfl ?_
        refine r_bipush dX9_begins_175 rfl ?_
        refine r_icmp_ne (tgt := 201) dX9_begins_177 (by decide) ⟨by omega, by omega⟩ ⟨by omega, by omega⟩ (fun g177 => absurd g177 (by omega)) (fun g177 => ?_)
        refine r_aload_n dX9_begins_180 rfl rfl ?_
        refine r_iconst dX9_begins_181 ?_
        refine r_bipush dX9_begins_182 rfl ?_
        refine r_callV 68 [_, _] (s_X9_number (g := g5) (by rfl) (by exact c72) ht hle htt rs5 ((kp5 9 (by decide)).trans h9) ⟨by decide, by decide⟩ ⟨by omega, by omega⟩) dX9_begins_184 cs_X9_171 im_X9_number (by decide) rfl rfl (by decide) (by decide) (by decide) rfl rfl (Nat.le_of_ble_eq_true rfl) (fun _ _ _ q => q.elim) (fun v n2 h2 q => ?_)
        obtain ⟨rfl, z6, g6, w6, rfl, rfl, hr6⟩ := q
        rcases hr6 with ⟨e6, hr6, rs6, kp6⟩ | ⟨f6, p6, hr6, hf6, nf6, np6, kp6⟩
        · have p51 : g6 51 = (tp : Int) := (kp6 51 (by decide)).trans ((kp5 51 (by decide)).trans e51)
          refine ⟨rfl, ?_⟩
          dsimp only [Option.toList, List.cons_append, List.nil_append]
          refine r_istore_n (lv2 := [(0, _), (1, _), (2, _), (3, _)]) dX9_begins_187 rfl (by decide) rfl rfl ?_
          refine r_aload_n dX9_begins_188 rfl rfl ?_
          refine r_bipush dX9_begins_189 rfl ?_
          refine r_callV 68 [_] (s_X9_puts (g := g6) (tp := tp) (by rfl) (by exact c87) p51 (by omega)) dX9_begins_191 cs_X9_332 im_X9_puts (by decide) rfl rfl (by decide) (by decide) (by decide) rfl rfl (Nat.le_of_ble_eq_true rfl) (fun _ _ _ q => q.elim) (fun v n2 h2 q => ?_)
          obtain ⟨rfl, rfl, hh⟩ := q
          obtain rfl := hh.symm
          refine ⟨rfl, ?_⟩
          dsimp only [Option.toList, List.cons_append, List.nil_append]
          refine r_aload_n dX9_begins_194 rfl rfl ?_
          refine r_iload_n dX9_begins_195 rfl rfl ?_
          refine r_callV 68 [_] (s_X9_puts (g := (va_up g6 51 ((tp : Int) + 1))) (tp := tp + 1) (by rfl) (by rfl) (by show (tp : Int) + 1 = ((tp + 1 : Nat) : Int); omega) (by omega)) dX9_begins_196 cs_X9_332 im_X9_puts (by decide) rfl rfl (by decide) (by decide) (by decide) rfl rfl (Nat.le_of_ble_eq_true rfl) (fun _ _ _ q => q.elim) (fun v n2 h2 q => ?_)
          obtain ⟨rfl, rfl, hh⟩ := q
          obtain rfl := hh.symm
          refine ⟨rfl, ?_⟩
          dsimp only [Option.toList, List.cons_append, List.nil_append]
          refine r_iconst dX9_begins_199 ?_
          refine r_zret dX9_begins_200 (nar_z (by omega)) ?_
          exact ⟨rfl, _, _, _, _, _, _, (wt_mk rfl rfl (by exact c89) (by exact c90) (by exact c91) (fun j a b c d e => by simp only [va_up, a, b, c, d, e, if_false])), Or.inr (Or.inl ⟨9, z6, e6, by unfold bgR; rw [if_pos hk1, if_neg (by omega), if_neg (by decide)]; unfold bgE; rw [if_neg w16, if_neg w17, if_pos w18]; unfold bgN; rw [hr6], rfl, RS_kp rs6 (fun k hk => by rw [va_up_ne _ _ (by omega), va_up_ne _ _ (by omega)]), (kp6 9 (by decide)).trans ((kp5 9 (by decide)).trans h9), (kp6 10 (by decide)).trans (kp5 10 (by decide)), by show ((tp + 1 : Nat) : Int) + 1 = _; omega, (kp6 52 (by decide)).trans ((kp5 52 (by decide)).trans e52), rfl, rfl, rfl, rfl, fun q => absurd q (by decide)⟩), (fun k h1 h2 h3 => by (repeat rw [va_up_ne _ _ (by omega)]); exact (kp6 k h2).trans (kp5 k h2))⟩
        · have p51 : g6 51 = (tp : Int) := (kp6 51 (by decide) (by decide)).trans ((kp5 51 (by decide)).trans e51)
          refine ⟨rfl, ?_⟩
          dsimp only [Option.toList, List.cons_append, List.nil_append]
          refine r_istore_n (lv2 := [(0, _), (1, _), (2, _), (3, _)]) dX9_begins_187 rfl (by decide) rfl rfl ?_
          refine r_aload_n dX9_begins_188 rfl rfl ?_
          refine r_bipush dX9_begins_189 rfl ?_
          refine r_callV 68 [_] (s_X9_puts (g := g6) (tp := tp) (by rfl) (by exact c87) p51 (by omega)) dX9_begins_191 cs_X9_332 im_X9_puts (by decide) rfl rfl (by decide) (by decide) (by decide) rfl rfl (Nat.le_of_ble_eq_true rfl) (fun _ _ _ q => q.elim) (fun v n2 h2 q => ?_)
          obtain ⟨rfl, rfl, hh⟩ := q
          obtain rfl := hh.symm
          refine ⟨rfl, ?_⟩
          dsimp only [Option.toList, List.cons_append, List.nil_append]
          refine r_aload_n dX9_begins_194 rfl rfl ?_
          refine r_iload_n dX9_begins_195 rfl rfl ?_
          refine r_callV 68 [_] (s_X9_puts (g := (va_up g6 51 ((tp : Int) + 1))) (tp := tp + 1) (by rfl) (by rfl) (by show (tp : Int) + 1 = ((tp + 1 : Nat) : Int); omega) (by omega)) dX9_begins_196 cs_X9_332 im_X9_puts (by decide) rfl rfl (by decide) (by decide) (by decide) rfl rfl (Nat.le_of_ble_eq_true rfl) (fun _ _ _ q => q.elim) (fun v n2 h2 q => ?_)
          obtain ⟨rfl, rfl, hh⟩ := q
          obtain rfl := hh.symm
          refine ⟨rfl, ?_⟩
          dsimp only [Option.toList, List.cons_append, List.nil_append]
          refine r_iconst dX9_begins_199 ?_
          refine r_zret dX9_begins_200 (nar_z (by omega)) ?_
          exact ⟨rfl, _, _, _, _, _, _, (wt_mk rfl rfl (by exact c89) (by exact c90) (by exact c91) (fun j a b c d e => by simp only [va_up, a, b, c, d, e, if_false])), Or.inl ⟨f6, p6, by unfold bgR; rw [if_pos hk1, if_neg (by omega), if_neg (by decide)]; unfold bgE; rw [if_neg w16, if_neg w17, if_pos w18]; unfold bgN; rw [hr6], by omega, nf6, np6, 1, rfl, Or.inr rfl⟩, (fun k h1 h2 h3 => by (repeat rw [va_up_ne _ _ (by omega)]); exact (kp6 k h1 h2).trans (kp5 k h2))⟩
      by_cases w19 : wordAt t le e 19 = true
      · have hwh : whF t le e 19 4 = 22 := by simp only [whF, show wIx (19 + 0) = 16 from rfl, show wIx (19 + 1) = 17 from rfl, show wIx (19 + 2) = 18 from rfl, show wIx (19 + 3) = 19 from rfl, w16, w17, w18, w19, if_true, Bool.false_eq_true, if_false]; rfl
        rw [hwh]
        refine r_iload_n dX9_begins_93 rfl rfl ?_
        refine r_if_ne (tgt := 109) dX9_begins_94 (by decide) ⟨by omega, by omega⟩ (fun g94 => ?_) (fun g94 => absurd g94 (by omega))
        refine r_iload_n dX9_begins_109 rfl rfl ?_
        refine r_iconst dX9_begins_110 ?_
        refine r_icmp_ne (tgt := 119) dX9_begins_111 (by decide) ⟨by omega, by omega⟩ ⟨by omega, by omega⟩ (fun g111 => ?_) (fun g111 => absurd g111 (by omega))
        refine r_aload_n dX9_begins_119 rfl rfl ?_
        refine r_callV 68 [] (s_X9_good1 (g := g) c68 h9) dX9_begins_120 cs_X9_161 im_X9_isGood (by decide) c68 rfl (by decide) (by decide) (by decide) rfl rfl (Nat.le_of_ble_eq_true rfl) (fun _ _ _ q => q.elim) (fun v n2 h2 q => ?_)
        obtain ⟨rfl, rfl, hh⟩ := q
        obtain rfl := hh.symm
        refine ⟨rfl, ?_⟩
        dsimp only [Option.toList, List.cons_append, List.nil_append]
        refine r_if_ne (tgt := 128) dX9_begins_123 (by decide) ⟨by omega, by omega⟩ (fun g123 => ?_) (fun g123 => absurd g123 (by omega))
        refine r_aload_n dX9_begins_128 rfl rfl ?_
        refine r_callV 68 [] (s_X9_steps (g := g) (e := tkE t le e) c68 c72 ht hle htt (tk_B t rs.1).2.2.2.1 rs.2.1 rs.2.2.1) dX9_begins_129 cs_X9_165 im_X9_steps (by decide) c68 rfl (by decide) (by decide) (by decide) rfl rfl (Nat.le_of_ble_eq_true rfl) (fun _ _ _ q => q.elim) (fun v n2 h2 q => ?_)
        obtain ⟨rfl, rfl, g5, w5, rfl, rs5, kp5⟩ := q
        refine ⟨rfl, ?_⟩
        dsimp only [Option.toList, List.cons_append, List.nil_append]
        refine r_iload_n dX9_begins_132 rfl rfl ?_
        refine r_bipush dX9_begins_133 rfl ?_
        refine r_icmp_ne (tgt := 162) dX9_begins_135 (by decide) ⟨by omega, by omega⟩ ⟨by omega, by omega⟩ (fun g135 => ?_) (fun g135 => absurd g135 (by omega))
        refine r_iload_n dX9_begins_162 rfl rfl ?_
        refine r_bipush dX9_begins_163 rfl ?_
        refine r_icmp_ne (tgt := 174) dX9_begins_165 (by decide) ⟨by omega, by omega⟩ ⟨by omega, by omega⟩ (fun g165 => ?_) (fun g165 => absurd g165 (by omega))
        refine r_iload_n dX9_begins_174 rfl rfl ?_
        refine r_bipush dX9_begins_175 rfl ?_
        refine r_icmp_ne (tgt := 201) dX9_begins_177 (by decide) ⟨by omega, by omega⟩ ⟨by omega, by omega⟩ (fun g177 => ?_) (fun g177 => absurd g177 (by omega))
        refine r_aload_n dX9_begins_201 rfl rfl ?_
        refine r_iload_n dX9_begins_202 rfl rfl ?_
        refine r_iload_n dX9_begins_203 rfl rfl ?_
        refine r_bipush dX9_begins_204 rfl ?_
        refine r_icmp_ne (tgt := 219) dX9_begins_206 (by decide) ⟨by omega, by omega⟩ ⟨by omega, by omega⟩ (fun g206 => ?_) (fun g206 => absurd g206 (by omega))
        have p52 : g5 52 = (o : Int) := (kp5 52 (by decide)).trans e52
        refine r_iconst dX9_begins_219 ?_
        refine r_callV 68 [_, _] (s_X9_opens (g := g5) (o := o) (by rfl) (by exact c89) (by exact c90) (by exact c91) p52 (by omega)) dX9_begins_220 cs_X9_338 im_X9_opens (by decide) rfl rfl (by decide) (by decide) (by decide) rfl rfl (Nat.le_of_ble_eq_true rfl) (fun _ _ _ q => q.elim) (fun v n2 h2 q => ?_)
        obtain ⟨rfl, rfl, hh⟩ := q
        obtain rfl := hh.symm
        refine ⟨rfl, ?_⟩
        dsimp only [Option.toList, List.cons_append, List.nil_append]
        refine r_iload_n dX9_begins_223 rfl rfl ?_
        refine r_bipush dX9_begins_224 rfl ?_
        refine r_icmp_eq (tgt := 241) dX9_begins_226 (by decide) ⟨by omega, by omega⟩ ⟨by omega, by omega⟩ (fun g226 => absurd g226 (by omega)) (fun g226 => ?_)
        refine r_iload_n dX9_begins_229 rfl rfl ?_
        refine r_bipush dX9_begins_230 rfl ?_
        refine r_icmp_eq (tgt := 241) dX9_begins_232 (by decide) ⟨by omega, by omega⟩ ⟨by omega, by omega⟩ (fun g232 => absurd g232 (by omega)) (fun g232 => ?_)
        refine r_iload_n dX9_begins_235 rfl rfl ?_
        refine r_bipush dX9_begins_236 rfl ?_
        refine r_icmp_ne (tgt := 251) dX9_begins_238 (by decide) ⟨by omega, by omega⟩ ⟨by omega, by omega⟩ (fun g238 => absurd g238 (by omega)) (fun g238 => ?_)
        have rs55 : RS t le (tkE t le e) (va_up g5 52 ((o : Int) + 1)) w5 := RS_kp rs5 (fun k hk => by rw [va_up_ne _ _ (by omega)])
        refine r_aload_n dX9_begins_241 rfl rfl ?_
        refine r_aload_n dX9_begins_242 rfl rfl ?_
        refine r_bipush dX9_begins_243 rfl ?_
        refine r_callV 68 [_] (s_X9_isSign (g := (va_up g5 52 ((o : Int) + 1))) (by rfl) (by exact c72) ht hle htt rs55 (by decide)) dX9_begins_245 cs_X9_329 im_X9_isSign (by decide) rfl rfl (by decide) (by decide) (by decide) rfl rfl (Nat.le_of_ble_eq_true rfl) (fun _ _ _ q => q.elim) (fun v n2 h2 q => ?_)
        obtain ⟨rfl, rfl, hh⟩ := q
        obtain rfl := hh.symm
        refine ⟨rfl, ?_⟩
        dsimp only [Option.toList, List.cons_append, List.nil_append]
        refine r_callV 68 [_] (s_X9_need (g := (va_up g5 52 ((o : Int) + 1))) (b := signAt t le (tkE t le e) 40) (by rfl) (by exact c72) ht hle htt rs55 ((kp5 9 (by decide)).trans h9)) dX9_begins_248 cs_X9_181 im_X9_need (by decide) rfl rfl (by decide) (by decide) (by decide) rfl rfl (Nat.le_of_ble_eq_true rfl) (fun _ _ _ q => q.elim) (fun v n2 h2 q => ?_)
        obtain ⟨rfl, rfl, hq7⟩ := q
        rcases hq7 with ⟨hb7, g7, w7, rfl, rs7, kp7⟩ | ⟨hb7, rfl⟩
        · skip
          refine ⟨rfl, ?_⟩
          dsimp only [Option.toList, List.cons_append, List.nil_append]
          refine r_iconst dX9_begins_251 ?_
          refine r_zret dX9_begins_252 (nar_z (by omega)) ?_
          exact ⟨rfl, _, _, _, _, _, _, (wt_mk rfl (by exact c87) rfl rfl rfl (fun j a b c d e => by simp only [va_up, a, b, c, d, e, if_false])), Or.inr (Or.inr ⟨22, 1, tkE t le (tkE t le e), by unfold bgR; rw [if_pos hk1, if_neg (by omega), if_neg (by decide)]; unfold bgE; rw [if_neg w16, if_neg w17, if_neg w18, if_pos w19]; unfold bgP; rw [if_pos hb7], rfl, rs7, (kp7 9 (by decide)).trans ((kp5 9 (by decide)).trans h9), (kp7 10 (by decide)).trans (kp5 10 (by decide)), (kp7 51 (by decide)).trans ((kp5 51 (by decide)).trans e51), kp7 52 (by decide), rfl, rfl, rfl, rfl⟩), (fun k h1 h2 h3 => (kp7 k h2).trans (by rw [va_up_ne _ _ (by omega)]; exact kp5 k h2))⟩
        · skip
          refine ⟨rfl, ?_⟩
          dsimp only [Option.toList, List.cons_append, List.nil_append]
          refine r_iconst dX9_begins_251 ?_
          refine r_zret dX9_begins_252 (nar_z (by omega)) ?_
          exact ⟨rfl, _, _, _, _, _, _, (wt_mk rfl (by exact c87) rfl rfl rfl (fun j a b c d e => by simp only [va_up, a, b, c, d, e, if_false])), Or.inl ⟨1, tkS t le (tkE t le e), by unfold bgR; rw [if_pos hk1, if_neg (by omega), if_neg (by decide)]; unfold bgE; rw [if_neg w16, if_neg w17, if_neg w18, if_pos w19]; unfold bgP; rw [if_neg (by rw [hb7]; decide)], by decide, rfl, rfl, 0, rfl, Or.inl rfl⟩, (fun k h1 h2 h3 => by (repeat rw [va_up_ne _ _ (by omega)]); exact kp5 k h2)⟩
      have hwh : whF t le e 19 4 = (-1) := by simp only [whF, show wIx (19 + 0) = 16 from rfl, show wIx (19 + 1) = 17 from rfl, show wIx (19 + 2) = 18 from rfl, show wIx (19 + 3) = 19 from rfl, w16, w17, w18, w19, if_true, Bool.false_eq_true, if_false]
      rw [hwh]
      refine r_iload_n dX9_begins_93 rfl rfl ?_
      refine r_if_ne (tgt := 109) dX9_begins_94 (by decide) ⟨by omega, by omega⟩ (fun g94 => ?_) (fun g94 => absurd g94 (by omega))
      refine r_iload_n dX9_begins_109 rfl rfl ?_
      refine r_iconst dX9_begins_110 ?_
      refine r_icmp_ne (tgt := 119) dX9_begins_111 (by decide) ⟨by omega, by omega⟩ ⟨by omega, by omega⟩ (fun g111 => absurd g111 (by omega)) (fun g111 => ?_)
      refine r_aload_n dX9_begins_114 rfl rfl ?_
      refine r_iconst dX9_begins_115 ?_
      refine r_callV 68 [_] (s_X9_wrong1 (g := g) c68 h9) dX9_begins_116 cs_X9_168 im_X9_wrong (by decide) c68 rfl (by decide) (by decide) (by decide) rfl rfl (Nat.le_of_ble_eq_true rfl) (fun _ _ _ q => q.elim) (fun v n2 h2 q => ?_)
      obtain ⟨rfl, rfl, hh⟩ := q
      obtain rfl := hh.symm
      refine ⟨rfl, ?_⟩
      dsimp only [Option.toList, List.cons_append, List.nil_append]
      refine r_aload_n dX9_begins_119 rfl rfl ?_
      refine r_callV 68 [] (s_X9_good0 (g := (va_up (va_up g 9 4) 10 (g 15))) (by rfl) ⟨by show (1 : Int) ≤ 4; decide, by show (4 : Int) ≤ 9; decide⟩) dX9_begins_120 cs_X9_161 im_X9_isGood (by decide) rfl rfl (by decide) (by decide) (by decide) rfl rfl (Nat.le_of_ble_eq_true rfl) (fun _ _ _ q => q.elim) (fun v n2 h2 q => ?_)
      obtain ⟨rfl, rfl, hh⟩ := q
      obtain rfl := hh.symm
      refine ⟨rfl, ?_⟩
      dsimp only [Option.toList, List.cons_append, List.nil_append]
      refine r_if_ne (tgt := 128) dX9_begins_123 (by decide) ⟨by omega, by omega⟩ (fun g123 => absurd g123 (by omega)) (fun g123 => ?_)
      refine r_iconst dX9_begins_126 ?_
      refine r_zret dX9_begins_127 (nar_z (by omega)) ?_
      exact ⟨rfl, _, _, _, _, _, _, (wt_mk rfl (by exact c87) (by exact c89) (by exact c90) (by exact c91) (fun j a b c d e => by simp only [va_up, a, b, c, d, e, if_false])), Or.inl ⟨4, tkS t le e, by unfold bgR; rw [if_pos hk1, if_neg (by omega), if_neg (by decide)]; unfold bgE; rw [if_neg w16, if_neg w17, if_neg w18, if_neg w19], by decide, rfl, rs.2.2.2.2.1, 1, rfl, Or.inr rfl⟩, (fun k h1 h2 h3 => by (repeat rw [va_up_ne _ _ (by omega)]))⟩
    · refine r_aload_n dX9_begins_34 rfl rfl ?_
      refine r_iconst dX9_begins_35 ?_
      refine r_callV 68 [_] (s_X9_wrong1 (g := g) c68 h9) dX9_begins_36 cs_X9_168 im_X9_wrong (by decide) c68 rfl (by decide) (by decide) (by decide) rfl rfl (Nat.le_of_ble_eq_true rfl) (fun _ _ _ q => q.elim) (fun v n2 h2 q => ?_)
      obtain ⟨rfl, rfl, hh⟩ := q
      obtain rfl := hh.symm
      refine ⟨rfl, ?_⟩
      dsimp only [Option.toList, List.cons_append, List.nil_append]
      refine r_aload_n dX9_begins_39 rfl rfl ?_
      refine r_callV 68 [] (s_X9_good0 (g := (va_up (va_up g 9 2) 10 (g 15))) (by rfl) ⟨by show (1 : Int) ≤ 2; decide, by show (2 : Int) ≤ 9; decide⟩) dX9_begins_40 cs_X9_161 im_X9_isGood (by decide) rfl rfl (by decide) (by decide) (by decide) rfl rfl (Nat.le_of_ble_eq_true rfl) (fun _ _ _ q => q.elim) (fun v n2 h2 q => ?_)
      obtain ⟨rfl, rfl, hh⟩ := q
      obtain rfl := hh.symm
      refine ⟨rfl, ?_⟩
      dsimp only [Option.toList, List.cons_append, List.nil_append]
      refine r_if_ne (tgt := 48) dX9_begins_43 (by decide) ⟨by omega, by omega⟩ (fun g43 => absurd g43 (by omega)) (fun g43 => ?_)
      refine r_iconst dX9_begins_46 ?_
      refine r_zret dX9_begins_47 (nar_z (by omega)) ?_
      exact ⟨rfl, _, _, _, _, _, _, (wt_mk rfl (by exact c87) (by exact c89) (by exact c90) (by exact c91) (fun j a b c d e => by simp only [va_up, a, b, c, d, e, if_false])), Or.inl ⟨2, tkS t le e, by unfold bgR; rw [if_pos (by omega), if_pos (by omega)], by decide, rfl, rs.2.2.2.2.1, 1, rfl, Or.inr rfl⟩, (fun k h1 h2 h3 => by (repeat rw [va_up_ne _ _ (by omega)]))⟩
  · refine r_aload_n dX9_begins_17 rfl rfl ?_
    refine r_iconst dX9_begins_18 ?_
    refine r_callV 68 [_] (s_X9_wrong1 (g := g) c68 h9) dX9_begins_19 cs_X9_168 im_X9_wrong (by decide) c68 rfl (by decide) (by decide) (by decide) rfl rfl (Nat.le_of_ble_eq_true rfl) (fun _ _ _ q => q.elim) (fun v n2 h2 q => ?_)
    obtain ⟨rfl, rfl, hh⟩ := q
    obtain rfl := hh.symm
    refine ⟨rfl, ?_⟩
    dsimp only [Option.toList, List.cons_append, List.nil_append]
    refine r_goto (tgt := 39) dX9_begins_22 (by decide) ?_
    refine r_aload_n dX9_begins_39 rfl rfl ?_
    refine r_callV 68 [] (s_X9_good0 (g := (va_up (va_up g 9 1) 10 (g 15))) (by rfl) ⟨by show (1 : Int) ≤ 1; decide, by show (1 : Int) ≤ 9; decide⟩) dX9_begins_40 cs_X9_161 im_X9_isGood (by decide) rfl rfl (by decide) (by decide) (by decide) rfl rfl (Nat.le_of_ble_eq_true rfl) (fun _ _ _ q => q.elim) (fun v n2 h2 q => ?_)
    obtain ⟨rfl, rfl, hh⟩ := q
    obtain rfl := hh.symm
    refine ⟨rfl, ?_⟩
    dsimp only [Option.toList, List.cons_append, List.nil_append]
    refine r_if_ne (tgt := 48) dX9_begins_43 (by decide) ⟨by omega, by omega⟩ (fun g43 => absurd g43 (by omega)) (fun g43 => ?_)
    refine r_iconst dX9_begins_46 ?_
    refine r_zret dX9_begins_47 (nar_z (by omega)) ?_
    exact ⟨rfl, _, _, _, _, _, _, (wt_mk rfl (by exact c87) (by exact c89) (by exact c90) (by exact c91) (fun j a b c d e => by simp only [va_up, a, b, c, d, e, if_false])), Or.inl ⟨1, tkS t le e, by unfold bgR; rw [if_neg (by omega)], by decide, rfl, rs.2.2.2.2.1, 1, rfl, Or.inr rfl⟩, (fun k h1 h2 h3 => by (repeat rw [va_up_ne _ _ (by omega)]))⟩

