/-! ===== the reference's scan: longs, words ===== -/
theorem ln_nat (n : Nat) : (Int64.ofInt (n : Int)).toBitVec = BitVec.ofNat 64 n := by
  rw [Int64.toBitVec_ofInt, BitVec.ofInt_natCast]
theorem ln_shl {a : Int} (h0 : 0 ≤ a ∧ a < 1099511627776) : Int64.ofInt a <<< ((Int32.ofInt 5).toInt64 &&& 63) = Int64.ofInt (32 * a) := by
  obtain ⟨n, rfl⟩ : ∃ n : Nat, a = n := ⟨a.toNat, by omega⟩
  rw [show ((Int32.ofInt 5).toInt64 &&& 63 : Int64) = 5 by decide, ← Int64.toBitVec_inj, Int64.toBitVec_shiftLeft, show (32 * (n : Int)) = ((32 * n : Nat) : Int) by omega, ln_nat, ln_nat, show (5 : Int64).toBitVec.smod 64 = 5#64 by decide, BitVec.shiftLeft_eq']
  apply BitVec.eq_of_toNat_eq
  rw [BitVec.toNat_shiftLeft, Nat.shiftLeft_eq, BitVec.toNat_ofNat, BitVec.toNat_ofNat, BitVec.toNat_ofNat, show (2 : Nat) ^ (5 % 2 ^ 64) = 32 from rfl]
  omega
theorem ln_or {a b : Int} (h0 : 0 ≤ a ∧ a < 1099511627776) (h1 : 0 ≤ b ∧ b < 32) : Int64.ofInt (32 * a) ||| Int64.ofInt b = Int64.ofInt (32 * a + b) := by
  obtain ⟨n, rfl⟩ : ∃ n : Nat, a = n := ⟨a.toNat, by omega⟩
  obtain ⟨m, rfl⟩ : ∃ n : Nat, b = n := ⟨b.toNat, by omega⟩
  rw [← Int64.toBitVec_inj, Int64.toBitVec_or, show (32 * (n : Int)) = ((32 * n : Nat) : Int) by omega, show ((32 * n : Nat) : Int) + (m : Int) = ((32 * n + m : Nat) : Int) by omega, ln_nat, ln_nat, ln_nat, ← BitVec.ofNat_or]
  have e1 := Nat.shiftLeft_add_eq_or_of_lt (b := m) (i := 5) (by omega) n
  rw [Nat.shiftLeft_eq] at e1
  rw [show 32 * n = n * 2 ^ 5 by omega, e1]
theorem lst_hasL {ad : Nat → Nat} {ls : Array Slot} {mL i : Nat} {v : Value} {lv : List (Nat × Value)} (hl : lv_has ls mL ((i, cV ad v) :: (lv.map (fun q => (q.1, cV ad q.2))).filter (fun q => !(q.1 == i) && (!(q.1 == i + 1) && !(q.1 + 1 == i && q.2.category == 2))))) (hc : lv.all (fun q => !(q.1 == i + 1) && !(q.1 + 1 == i && q.2.category == 2)) = true) : lv_has ls mL ((lst i v lv).map (fun q => (q.1, cV ad q.2))) := by
  refine ⟨hl.1, hl.2.1, fun q hq => hl.2.2 q ?_⟩
  obtain ⟨z, hz, rfl⟩ := List.mem_map.mp hq
  rcases lst_mem hz (fun _ _ _ => trivial) with rfl | ⟨h1, h2⟩
  · exact List.mem_cons_self
  · refine List.mem_cons_of_mem _ (List.mem_filter.mpr ⟨List.mem_map.mpr ⟨z, h1, rfl⟩, ?_⟩)
    have h3 := List.all_eq_true.mp hc z h1
    dsimp only
    rw [cV_cat]
    rw [Bool.and_eq_true]
    exact ⟨by simpa using h2, h3⟩
theorem r_lstore {own name : String} {cc : ByteArray} {mL : Nat} {rt : Option FieldType} {d mc ms : Nat} {Q : Option Value → Nat → aH → Prop} {X : String → Nat → aH → Prop} {n : Nat} {h : aH} {pc : Nat} {lv : List (Nat × Value)} {st : List Value} {i : Nat} {z : Int} {lv2 : List (Nat × Value)} (hd : decode cc pc = .ok (.lstore i, 2)) (hm : i + 1 < mL) (hc : lv.all (fun q => !(q.1 == i + 1) && !(q.1 + 1 == i && q.2.category == 2)) = true) (hs : lst i (lw z) lv = lv2) (k : Ev own name cc mL rt d mc ms Q X n h (pc + 2) lv2 st) : Ev own name cc mL rt d mc ms Q X n h pc lv (lw z :: st) := by
  intro p l e R s m args below meth c D tc n0 ad0 ad adK A H locs cells slots MC MS ls fx rm wd hn he hl
  subst hs
  exact lv_lstore fx.1 fx.2.1 hd hl hm rfl (fun ls2 hl2 => k p l e R s m args below meth c D tc n0 ad0 ad adK A H locs cells slots MC MS ls2 fx rm wd hn he (lst_hasL hl2 hc))
theorem r_lcmp {own name : String} {cc : ByteArray} {mL : Nat} {rt : Option FieldType} {d mc ms : Nat} {Q : Option Value → Nat → aH → Prop} {X : String → Nat → aH → Prop} {n : Nat} {h : aH} {pc : Nat} {lv : List (Nat × Value)} {st : List Value} {x y : Int} (hd : decode cc pc = .ok (.lcmp, 1)) (hx : (0 ≤ x ∧ x < 1099511627776) ∧ (0 ≤ y ∧ y < 1099511627776)) (k : Ev own name cc mL rt d mc ms Q X n h (pc + 1) lv (iv (if y < x then 1 else if x = y then 0 else -1) :: st)) : Ev own name cc mL rt d mc ms Q X n h pc lv (lw y :: lw x :: st) := by
  intro p l e R s m args below meth c D tc n0 ad0 ad adK A H locs cells slots MC MS ls fx rm wd hn he hl
  have k1 := k p l e R s m args below meth c D tc n0 ad0 ad adK A H locs cells slots MC MS ls fx rm wd hn he hl
  have e1 : Int32.ofInt (if y < x then 1 else if x = y then 0 else -1) = lg_cmp (Int64.ofInt x) (Int64.ofInt y) := by
    unfold lg_cmp
    simp only [gt_iff_lt, Int64.lt_iff_toInt_lt, ← Int64.toInt_inj]
    rw [Int64.toInt_ofInt_of_le (by omega) (by omega), Int64.toInt_ofInt_of_le (by omega) (by omega)]
    split
    · rfl
    · split <;> rfl
  rw [List.map_cons, cV_int, e1] at k1
  exact W.lcmp fx.1 fx.2.1 hd k1
abbrev RetL (r : Int) (h2 : aH) : Option Value → Nat → aH → Prop := fun v n' h' => v = some (lw r) ∧ n' = 97 ∧ h' = h2
/-- five bits a letter -/
def pkF (f : Nat → Int) : Nat → Int
  | 0 => 0
  | k + 1 => 32 * pkF f k + (f k - 96)
theorem pkF_B {f : Nat → Int} : ∀ k, (∀ j, j < k → 97 ≤ f j ∧ f j ≤ 122) → k ≤ 7 → 0 ≤ pkF f k ∧ pkF f k < ([1, 32, 1024, 32768, 1048576, 33554432, 1073741824, 34359738368] : List Int).getD k 0 := by
  intro k
  induction k with
  | zero => intro _ _; exact ⟨Int.le_refl _, show (0 : Int) < 1 by decide⟩
  | succ k ih =>
    intro hf hk
    have h1 := ih (fun j hj => hf j (by omega)) (by omega)
    have h2 := hf k (by omega)
    rcases (show k = 0 ∨ k = 1 ∨ k = 2 ∨ k = 3 ∨ k = 4 ∨ k = 5 ∨ k = 6 by omega) with rfl | rfl | rfl | rfl | rfl | rfl | rfl <;> simp only [pkF, List.getD_cons_zero, List.getD_cons_succ] at h1 ⊢ <;> omega
theorem pkF_L {f : Nat → Int} {k : Nat} (hf : ∀ j, j < k → 97 ≤ f j ∧ f j ≤ 122) (hk : k ≤ 7) : 0 ≤ pkF f k ∧ pkF f k < 34359738368 := by
  have h1 := pkF_B k hf hk
  rcases (show k = 0 ∨ k = 1 ∨ k = 2 ∨ k = 3 ∨ k = 4 ∨ k = 5 ∨ k = 6 ∨ k = 7 by omega) with rfl | rfl | rfl | rfl | rfl | rfl | rfl | rfl <;> simp only [List.getD_cons_zero, List.getD_cons_succ] at h1 <;> omega
theorem pkF_nn {f : Nat → Int} : ∀ k, (∀ j, j < k → 97 ≤ f j ∧ f j ≤ 122) → 0 ≤ pkF f k := by
  intro k
  induction k with
  | zero => intro _; exact Int.le_refl _
  | succ k ih =>
    intro hf
    have h1 := ih (fun j hj => hf j (by omega))
    have h2 := hf k (by omega)
    unfold pkF
    omega
theorem pkF_inj {f g : Nat → Int} : ∀ a b, (∀ j, j < a → 97 ≤ f j ∧ f j ≤ 122) → (∀ j, j < b → 97 ≤ g j ∧ g j ≤ 122) → pkF f a = pkF g b → a = b ∧ ∀ j, j < a → f j = g j := by
  intro a
  induction a with
  | zero =>
    intro b _ hg he
    cases b with
    | zero => exact ⟨rfl, fun j hj => absurd hj (Nat.not_lt_zero j)⟩
    | succ b =>
      have h1 := pkF_nn b (fun j hj => hg j (by omega))
      have h2 := hg b (by omega)
      unfold pkF at he
      omega
  | succ a ih =>
    intro b hf hg he
    have f1 := pkF_nn a (fun j hj => hf j (by omega))
    have f2 := hf a (by omega)
    cases b with
    | zero =>
      unfold pkF at he
      omega
    | succ b =>
      have h1 := pkF_nn b (fun j hj => hg j (by omega))
      have h2 := hg b (by omega)
      unfold pkF at he
      obtain ⟨e1, e2⟩ := ih b (fun j hj => hf j (by omega)) (fun j hj => hg j (by omega)) (by omega)
      subst e1
      refine ⟨rfl, fun j hj => ?_⟩
      by_cases q : j = a
      · subst q
        omega
      · exact e2 j (by omega)
def wIx (k : Nat) : Nat := ([1, 2, 3, 4, 5, 6, 0, 7, 8, 9, 10, 11, 12, 13, 14, 15, 20, 21, 22, 16, 17, 18, 19] : List Nat).getD k 0
def ltR (k : Nat) : Int := ([165492, 759412, 81644, 441838, 102185454, 17223340196, 140332, 7945966, 12891667, 20686279, 3554980, 445780357, 6605428, 431150, 394885, 294, 663726, 176741, 5572, 14836, 132683, 14137992, 72564293] : List Int).getD k 0
theorem wIx_lt : ∀ k, k < 23 → wIx k < 23 ∧ sLen (wIx k) ≤ 7 ∧ 0 ≤ ltR k ∧ ltR k < 34359738368 ∧ pkF (sCh (wIx k)) (sLen (wIx k)) = ltR k ∧ ∀ j, j < sLen (wIx k) → 97 ≤ sCh (wIx k) j ∧ sCh (wIx k) j ≤ 122 := by decide +kernel
def spI (v c : Int) : Int := if c = 0 then v else 32 * v + (c - 96)
theorem spI_B {v c m : Int} (hv : 0 ≤ v ∧ v < m) (hc : c = 0 ∨ 97 ≤ c ∧ c ≤ 122) : 0 ≤ spI v c ∧ spI v c < 32 * m := by
  unfold spI
  split <;> omega

theorem l_X9_spell0 {h : aH} {Q : Option Value → Nat → aH → Prop} {d : Nat} {a b c d_ e_ f g_ v : Int} (hx : c = 0 ∨ 97 ≤ c ∧ c ≤ 122) (hv : 0 ≤ v ∧ v < 1024) (kk : Ev RX9 "spelled" cX9_spelled 9 (some .long) d 0 0 Q noX 97 h 32 [(0, iv a), (1, iv b), (2, iv c), (3, iv d_), (4, iv e_), (5, iv f), (6, iv g_), (7, lw (spI v c))] []) : Ev RX9 "spelled" cX9_spelled 9 (some .long) d 0 0 Q noX 97 h 16 [(0, iv a), (1, iv b), (2, iv c), (3, iv d_), (4, iv e_), (5, iv f), (6, iv g_), (7, lw v)] [] := by
  unfold spI at kk
  refine r_iload_n dX9_spelled_16 rfl rfl ?_
  refine r_if_eq (tgt := 32) dX9_spelled_17 (by decide) ⟨by omega, by omega⟩ (fun g17 => ?_) (fun g17 => ?_)
  · first
      | (rw [if_pos (by omega)] at kk
         exact kk)
      | (rw [if_neg (by omega)] at kk
         exact kk)
  · refine r_lload dX9_spelled_20 rfl ?_
    refine r_iconst dX9_spelled_22 ?_
    refine r_lshl (32 * v) dX9_spelled_23 (ln_shl ⟨by omega, by omega⟩) ?_
    refine r_iload_n dX9_spelled_24 rfl rfl ?_
    refine r_bipush dX9_spelled_25 rfl ?_
    refine r_isub dX9_spelled_27 ?_
    refine r_i2l dX9_spelled_28 ⟨by omega, by omega⟩ ?_
    refine r_lor (32 * v + (c - 96)) dX9_spelled_29 (ln_or ⟨by omega, by omega⟩ ⟨by omega, by omega⟩) ?_
    refine r_lstore (lv2 := [(0, _), (1, _), (2, _), (3, _), (4, _), (5, _), (6, _), (7, _)]) dX9_spelled_30 (by decide) rfl rfl ?_
    first
      | (rw [if_pos (by omega)] at kk
         exact kk)
      | (rw [if_neg (by omega)] at kk
         exact kk)

theorem l_X9_spell1 {h : aH} {Q : Option Value → Nat → aH → Prop} {d : Nat} {a b c d_ e_ f g_ v : Int} (hx : d_ = 0 ∨ 97 ≤ d_ ∧ d_ ≤ 122) (hv : 0 ≤ v ∧ v < 32768) (kk : Ev RX9 "spelled" cX9_spelled 9 (some .long) d 0 0 Q noX 97 h 48 [(0, iv a), (1, iv b), (2, iv c), (3, iv d_), (4, iv e_), (5, iv f), (6, iv g_), (7, lw (spI v d_))] []) : Ev RX9 "spelled" cX9_spelled 9 (some .long) d 0 0 Q noX 97 h 32 [(0, iv a), (1, iv b), (2, iv c), (3, iv d_), (4, iv e_), (5, iv f), (6, iv g_), (7, lw v)] [] := by
  unfold spI at kk
  refine r_iload_n dX9_spelled_32 rfl rfl ?_
  refine r_if_eq (tgt := 48) dX9_spelled_33 (by decide) ⟨by omega, by omega⟩ (fun g33 => ?_) (fun g33 => ?_)
  · first
      | (rw [if_pos (by omega)] at kk
         exact kk)
      | (rw [if_neg (by omega)] at kk
         exact kk)
  · refine r_lload dX9_spelled_36 rfl ?_
    refine r_iconst dX9_spelled_38 ?_
    refine r_lshl (32 * v) dX9_spelled_39 (ln_shl ⟨by omega, by omega⟩) ?_
    refine r_iload_n dX9_spelled_40 rfl rfl ?_
    refine r_bipush dX9_spelled_41 rfl ?_
    refine r_isub dX9_spelled_43 ?_
    refine r_i2l dX9_spelled_44 ⟨by omega, by omega⟩ ?_
    refine r_lor (32 * v + (d_ - 96)) dX9_spelled_45 (ln_or ⟨by omega, by omega⟩ ⟨by omega, by omega⟩) ?_
    refine r_lstore (lv2 := [(0, _), (1, _), (2, _), (3, _), (4, _), (5, _), (6, _), (7, _)]) dX9_spelled_46 (by decide) rfl rfl ?_
    first
      | (rw [if_pos (by omega)] at kk
         exact kk)
      | (rw [if_neg (by omega)] at kk
         exact kk)

theorem l_X9_spell2 {h : aH} {Q : Option Value → Nat → aH → Prop} {d : Nat} {a b c d_ e_ f g_ v : Int} (hx : e_ = 0 ∨ 97 ≤ e_ ∧ e_ ≤ 122) (hv : 0 ≤ v ∧ v < 1048576) (kk : Ev RX9 "spelled" cX9_spelled 9 (some .long) d 0 0 Q noX 97 h 66 [(0, iv a), (1, iv b), (2, iv c), (3, iv d_), (4, iv e_), (5, iv f), (6, iv g_), (7, lw (spI v e_))] []) : Ev RX9 "spelled" cX9_spelled 9 (some .long) d 0 0 Q noX 97 h 48 [(0, iv a), (1, iv b), (2, iv c), (3, iv d_), (4, iv e_), (5, iv f), (6, iv g_), (7, lw v)] [] := by
  unfold spI at kk
  refine r_iload dX9_spelled_48 rfl ?_
  refine r_if_eq (tgt := 66) dX9_spelled_50 (by decide) ⟨by omega, by omega⟩ (fun g50 => ?_) (fun g50 => ?_)
  · first
      | (rw [if_pos (by omega)] at kk
         exact kk)
      | (rw [if_neg (by omega)] at kk
         exact kk)
  · refine r_lload dX9_spelled_53 rfl ?_
    refine r_iconst dX9_spelled_55 ?_
    refine r_lshl (32 * v) dX9_spelled_56 (ln_shl ⟨by omega, by omega⟩) ?_
    refine r_iload dX9_spelled_57 rfl ?_
    refine r_bipush dX9_spelled_59 rfl ?_
    refine r_isub dX9_spelled_61 ?_
    refine r_i2l dX9_spelled_62 ⟨by omega, by omega⟩ ?_
    refine r_lor (32 * v + (e_ - 96)) dX9_spelled_63 (ln_or ⟨by omega, by omega⟩ ⟨by omega, by omega⟩) ?_
    refine r_lstore (lv2 := [(0, _), (1, _), (2, _), (3, _), (4, _), (5, _), (6, _), (7, _)]) dX9_spelled_64 (by decide) rfl rfl ?_
    first
      | (rw [if_pos (by omega)] at kk
         exact kk)
      | (rw [if_neg (by omega)] at kk
         exact kk)

theorem l_X9_spell3 {h : aH} {Q : Option Value → Nat → aH → Prop} {d : Nat} {a b c d_ e_ f g_ v : Int} (hx : f = 0 ∨ 97 ≤ f ∧ f ≤ 122) (hv : 0 ≤ v ∧ v < 33554432) (kk : Ev RX9 "spelled" cX9_spelled 9 (some .long) d 0 0 Q noX 97 h 84 [(0, iv a), (1, iv b), (2, iv c), (3, iv d_), (4, iv e_), (5, iv f), (6, iv g_), (7, lw (spI v f))] []) : Ev RX9 "spelled" cX9_spelled 9 (some .long) d 0 0 Q noX 97 h 66 [(0, iv a), (1, iv b), (2, iv c), (3, iv d_), (4, iv e_), (5, iv f), (6, iv g_), (7, lw v)] [] := by
  unfold spI at kk
  refine r_iload dX9_spelled_66 rfl ?_
  refine r_if_eq (tgt := 84) dX9_spelled_68 (by decide) ⟨by omega, by omega⟩ (fun g68 => ?_) (fun g68 => ?_)
  · first
      | (rw [if_pos (by omega)] at kk
         exact kk)
      | (rw [if_neg (by omega)] at kk
         exact kk)
  · refine r_lload dX9_spelled_71 rfl ?_
    refine r_iconst dX9_spelled_73 ?_
    refine r_lshl (32 * v) dX9_spelled_74 (ln_shl ⟨by omega, by omega⟩) ?_
    refine r_iload dX9_spelled_75 rfl ?_
    refine r_bipush dX9_spelled_77 rfl ?_
    refine r_isub dX9_spelled_79 ?_
    refine r_i2l dX9_spelled_80 ⟨by omega, by omega⟩ ?_
    refine r_lor (32 * v + (f - 96)) dX9_spelled_81 (ln_or ⟨by omega, by omega⟩ ⟨by omega, by omega⟩) ?_
    refine r_lstore (lv2 := [(0, _), (1, _), (2, _), (3, _), (4, _), (5, _), (6, _), (7, _)]) dX9_spelled_82 (by decide) rfl rfl ?_
    first
      | (rw [if_pos (by omega)] at kk
         exact kk)
      | (rw [if_neg (by omega)] at kk
         exact kk)

theorem l_X9_spell4 {h : aH} {Q : Option Value → Nat → aH → Prop} {d : Nat} {a b c d_ e_ f g_ v : Int} (hx : g_ = 0 ∨ 97 ≤ g_ ∧ g_ ≤ 122) (hv : 0 ≤ v ∧ v < 1073741824) (kk : Ev RX9 "spelled" cX9_spelled 9 (some .long) d 0 0 Q noX 97 h 102 [(0, iv a), (1, iv b), (2, iv c), (3, iv d_), (4, iv e_), (5, iv f), (6, iv g_), (7, lw (spI v g_))] []) : Ev RX9 "spelled" cX9_spelled 9 (some .long) d 0 0 Q noX 97 h 84 [(0, iv a), (1, iv b), (2, iv c), (3, iv d_), (4, iv e_), (5, iv f), (6, iv g_), (7, lw v)] [] := by
  unfold spI at kk
  refine r_iload dX9_spelled_84 rfl ?_
  refine r_if_eq (tgt := 102) dX9_spelled_86 (by decide) ⟨by omega, by omega⟩ (fun g86 => ?_) (fun g86 => ?_)
  · first
      | (rw [if_pos (by omega)] at kk
         exact kk)
      | (rw [if_neg (by omega)] at kk
         exact kk)
  · refine r_lload dX9_spelled_89 rfl ?_
    refine r_iconst dX9_spelled_91 ?_
    refine r_lshl (32 * v) dX9_spelled_92 (ln_shl ⟨by omega, by omega⟩) ?_
    refine r_iload dX9_spelled_93 rfl ?_
    refine r_bipush dX9_spelled_95 rfl ?_
    refine r_isub dX9_spelled_97 ?_
    refine r_i2l dX9_spelled_98 ⟨by omega, by omega⟩ ?_
    refine r_lor (32 * v + (g_ - 96)) dX9_spelled_99 (ln_or ⟨by omega, by omega⟩ ⟨by omega, by omega⟩) ?_
    refine r_lstore (lv2 := [(0, _), (1, _), (2, _), (3, _), (4, _), (5, _), (6, _), (7, _)]) dX9_spelled_100 (by decide) rfl rfl ?_
    first
      | (rw [if_pos (by omega)] at kk
         exact kk)
      | (rw [if_neg (by omega)] at kk
         exact kk)

theorem s_X9_spelled {h : aH} {a b c d_ e_ f g_ : Int} (ha : 97 ≤ a ∧ a ≤ 122) (hb : 97 ≤ b ∧ b ≤ 122) (hc : c = 0 ∨ 97 ≤ c ∧ c ≤ 122) (hd : d_ = 0 ∨ 97 ≤ d_ ∧ d_ ≤ 122) (he : e_ = 0 ∨ 97 ≤ e_ ∧ e_ ≤ 122) (hf : f = 0 ∨ 97 ≤ f ∧ f ≤ 122) (hg : g_ = 0 ∨ 97 ≤ g_ ∧ g_ ≤ 122) : mSem yX9_spelled cX9_spelled 9 (some .long) 0 0 0 [iv a, iv b, iv c, iv d_, iv e_, iv f, iv g_] 97 h (RetL (spI (spI (spI (spI (spI (32 * (a - 96) + (b - 96)) c) d_) e_) f) g_) h) noX := by
  refine mSem_of (own := RX9) (name := "spelled") pn_X9 rfl rfl (Nat.le_of_ble_eq_true rfl) ?_
  refine r_iload_n dX9_spelled_0 rfl rfl ?_
  refine r_i2l dX9_spelled_1 ⟨by omega, by omega⟩ ?_
  refine r_ldc2 dX9_spelled_2 (show Cond.constantLong RX9 148 (Int64.ofInt 96) ∈ Gw from inT7 73 rfl rfl) ?_
  refine r_lsub dX9_spelled_5 ?_
  refine r_iconst dX9_spelled_6 ?_
  refine r_lshl (32 * (a - 96)) dX9_spelled_7 (ln_shl ⟨by omega, by omega⟩) ?_
  refine r_iload_n dX9_spelled_8 rfl rfl ?_
  refine r_bipush dX9_spelled_9 rfl ?_
  refine r_isub dX9_spelled_11 ?_
  refine r_i2l dX9_spelled_12 ⟨by omega, by omega⟩ ?_
  refine r_lor (32 * (a - 96) + (b - 96)) dX9_spelled_13 (ln_or ⟨by omega, by omega⟩ ⟨by omega, by omega⟩) ?_
  refine r_lstore (lv2 := [(0, _), (1, _), (2, _), (3, _), (4, _), (5, _), (6, _), (7, _)]) dX9_spelled_14 (by decide) rfl rfl ?_
  have b0 : 0 ≤ 32 * (a - 96) + (b - 96) ∧ 32 * (a - 96) + (b - 96) < 1024 := ⟨by omega, by omega⟩
  have b1 := spI_B b0 hc
  refine l_X9_spell0 hc ⟨by omega, by omega⟩ ?_
  have b2 := spI_B b1 hd
  refine l_X9_spell1 hd ⟨by omega, by omega⟩ ?_
  have b3 := spI_B b2 he
  refine l_X9_spell2 he ⟨by omega, by omega⟩ ?_
  have b4 := spI_B b3 hf
  refine l_X9_spell3 hf ⟨by omega, by omega⟩ ?_
  have b5 := spI_B b4 hg
  refine l_X9_spell4 hg ⟨by omega, by omega⟩ ?_
  refine r_lload dX9_spelled_102 rfl ?_
  refine r_lret dX9_spelled_104 ?_
  exact ⟨rfl, rfl, rfl⟩

theorem s_X9_letters {h : aH} {k : Nat} (hk : k < 23) : mSem yX9_letters cX9_letters 1 (some .long) 1 0 0 [iv (k : Nat)] 97 h (RetL (ltR k) h) noX := by
  refine mSem_of (own := RX9) (name := "letters") pn_X9 rfl rfl (Nat.le_of_ble_eq_true rfl) ?_
  refine r_iload_n dX9_letters_0 rfl rfl ?_
  refine r_tsw22 (td := 443) (t0 := 104) (t1 := 119) (t2 := 134) (t3 := 149) (t4 := 164) (t5 := 181) (t6 := 199) (t7 := 214) (t8 := 230) (t9 := 246) (t10 := 262) (t11 := 278) (t12 := 295) (t13 := 311) (t14 := 326) (t15 := 341) (t16 := 354) (t17 := 369) (t18 := 384) (t19 := 398) (t20 := 412) (t21 := 427) dX9_letters_1 rfl ⟨by omega, by omega⟩ (by decide) (by decide) (by decide) (by decide) (by decide) (by decide) (by decide) (by decide) (by decide) (by decide) (by decide) (by decide) (by decide) (by decide) (by decide) (by decide) (by decide) (by decide) (by decide) (by decide) (by decide) (by decide) (by decide) (fun g1 => ?_) (fun g1 => ?_) (fun g1 => ?_) (fun g1 => ?_) (fun g1 => ?_) (fun g1 => ?_) (fun g1 => ?_) (fun g1 => ?_) (fun g1 => ?_) (fun g1 => ?_) (fun g1 => ?_) (fun g1 => ?_) (fun g1 => ?_) (fun g1 => ?_) (fun g1 => ?_) (fun g1 => ?_) (fun g1 => ?_) (fun g1 => ?_) (fun g1 => ?_) (fun g1 => ?_) (fun g1 => ?_) (fun g1 => ?_) (fun g1 => ?_)
  · refine r_bipush dX9_letters_443 rfl ?_
    refine r_bipush dX9_letters_445 rfl ?_
    refine r_bipush dX9_letters_447 rfl ?_
    refine r_bipush dX9_letters_449 rfl ?_
    refine r_bipush dX9_letters_451 rfl ?_
    refine r_bipush dX9_letters_453 rfl ?_
    refine r_iconst dX9_letters_455 ?_
    refine r_callS [_, _, _, _, _, _, _] (s_X9_spelled ⟨by decide, by decide⟩ ⟨by decide, by decide⟩ (by decide) (by decide) (by decide) (by decide) (by decide)) dX9_letters_456 cs_X9_150 sm_X9_spelled (by decide) (by decide) (by decide) rfl rfl (Nat.le_of_ble_eq_true rfl) (fun _ _ _ q => q.elim) (fun v n2 h2 q => ?_)
    obtain ⟨rfl, rfl, hh⟩ := q
    obtain rfl := hh.symm
    refine ⟨rfl, ?_⟩
    dsimp only [Option.toList, List.cons_append, List.nil_append]
    refine r_lret dX9_letters_459 ?_
    obtain rfl : k = 22 := by omega
    exact ⟨congrArg (fun z => some (lw z)) (by decide), rfl, rfl⟩
  · refine r_bipush dX9_letters_104 rfl ?_
    refine r_bipush dX9_letters_106 rfl ?_
    refine r_bipush dX9_letters_108 rfl ?_
    refine r_bipush dX9_letters_110 rfl ?_
    refine r_iconst dX9_letters_112 ?_
    refine r_iconst dX9_letters_113 ?_
    refine r_iconst dX9_letters_114 ?_
    refine r_callS [_, _, _, _, _, _, _] (s_X9_spelled ⟨by decide, by decide⟩ ⟨by decide, by decide⟩ (by decide) (by decide) (by decide) (by decide) (by decide)) dX9_letters_115 cs_X9_150 sm_X9_spelled (by decide) (by decide) (by decide) rfl rfl (Nat.le_of_ble_eq_true rfl) (fun _ _ _ q => q.elim) (fun v n2 h2 q => ?_)
    obtain ⟨rfl, rfl, hh⟩ := q
    obtain rfl := hh.symm
    refine ⟨rfl, ?_⟩
    dsimp only [Option.toList, List.cons_append, List.nil_append]
    refine r_lret dX9_letters_118 ?_
    obtain rfl : k = 0 := by omega
    exact ⟨congrArg (fun z => some (lw z)) (by decide), rfl, rfl⟩
  · refine r_bipush dX9_letters_119 rfl ?_
    refine r_bipush dX9_letters_121 rfl ?_
    refine r_bipush dX9_letters_123 rfl ?_
    refine r_bipush dX9_letters_125 rfl ?_
    refine r_iconst dX9_letters_127 ?_
    refine r_iconst dX9_letters_128 ?_
    refine r_iconst dX9_letters_129 ?_
    refine r_callS [_, _, _, _, _, _, _] (s_X9_spelled ⟨by decide, by decide⟩ ⟨by decide, by decide⟩ (by decide) (by decide) (by decide) (by decide) (by decide)) dX9_letters_130 cs_X9_150 sm_X9_spelled (by decide) (by decide) (by decide) rfl rfl (Nat.le_of_ble_eq_true rfl) (fun _ _ _ q => q.elim) (fun v n2 h2 q => ?_)
    obtain ⟨rfl, rfl, hh⟩ := q
    obtain rfl := hh.symm
    refine ⟨rfl, ?_⟩
    dsimp only [Option.toList, List.cons_append, List.nil_append]
    refine r_lret dX9_letters_133 ?_
    obtain rfl : k = 1 := by omega
    exact ⟨congrArg (fun z => some (lw z)) (by decide), rfl, rfl⟩
  · refine r_bipush dX9_letters_134 rfl ?_
    refine r_bipush dX9_letters_136 rfl ?_
    refine r_bipush dX9_letters_138 rfl ?_
    refine r_bipush dX9_letters_140 rfl ?_
    refine r_iconst dX9_letters_142 ?_
    refine r_iconst dX9_letters_143 ?_
    refine r_iconst dX9_letters_144 ?_
    refine r_callS [_, _, _, _, _, _, _] (s_X9_spelled ⟨by decide, by decide⟩ ⟨by decide, by decide⟩ (by decide) (by decide) (by decide) (by decide) (by decide)) dX9_letters_145 cs_X9_150 sm_X9_spelled (by decide) (by decide) (by decide) rfl rfl (Nat.le_of_ble_eq_true rfl) (fun _ _ _ q => q.elim) (fun v n2 h2 q => ?_)
    obtain ⟨rfl, rfl, hh⟩ := q
    obtain rfl := hh.symm
    refine ⟨rfl, ?_⟩
    dsimp only [Option.toList, List.cons_append, List.nil_append]
    refine r_lret dX9_letters_148 ?_
    obtain rfl : k = 2 := by omega
    exact ⟨congrArg (fun z => some (lw z)) (by decide), rfl, rfl⟩
  · refine r_bipush dX9_letters_149 rfl ?_
    refine r_bipush dX9_letters_151 rfl ?_
    refine r_bipush dX9_letters_153 rfl ?_
    refine r_bipush dX9_letters_155 rfl ?_
    refine r_iconst dX9_letters_157 ?_
    refine r_iconst dX9_letters_158 ?_
    refine r_iconst dX9_letters_159 ?_
    refine r_callS [_, _, _, _, _, _, _] (s_X9_spelled ⟨by decide, by decide⟩ ⟨by decide, by decide⟩ (by decide) (by decide) (by decide) (by decide) (by decide)) dX9_letters_160 cs_X9_150 sm_X9_spelled (by decide) (by decide) (by decide) rfl rfl (Nat.le_of_ble_eq_true rfl) (fun _ _ _ q => q.elim) (fun v n2 h2 q => ?_)
    obtain ⟨rfl, rfl, hh⟩ := q
    obtain rfl := hh.symm
    refine ⟨rfl, ?_⟩
    dsimp only [Option.toList, List.cons_append, List.nil_append]
    refine r_lret dX9_letters_163 ?_
    obtain rfl : k = 3 := by omega
    exact ⟨congrArg (fun z => some (lw z)) (by decide), rfl, rfl⟩
  · refine r_bipush dX9_letters_164 rfl ?_
    refine r_bipush dX9_letters_166 rfl ?_
    refine r_bipush dX9_letters_168 rfl ?_
    refine r_bipush dX9_letters_170 rfl ?_
    refine r_bipush dX9_letters_172 rfl ?_
    refine r_bipush dX9_letters_174 rfl ?_
    refine r_iconst dX9_letters_176 ?_
    refine r_callS [_, _, _, _, _, _, _] (s_X9_spelled ⟨by decide, by decide⟩ ⟨by decide, by decide⟩ (by decide) (by decide) (by decide) (by decide) (by decide)) dX9_letters_177 cs_X9_150 sm_X9_spelled (by decide) (by decide) (by decide) rfl rfl (Nat.le_of_ble_eq_true rfl) (fun _ _ _ q => q.elim) (fun v n2 h2 q => ?_)
    obtain ⟨rfl, rfl, hh⟩ := q
    obtain rfl := hh.symm
    refine ⟨rfl, ?_⟩
    dsimp only [Option.toList, List.cons_append, List.nil_append]
    refine r_lret dX9_letters_180 ?_
    obtain rfl : k = 4 := by omega
    exact ⟨congrArg (fun z => some (lw z)) (by decide), rfl, rfl⟩
  · refine r_bipush dX9_letters_181 rfl ?_
    refine r_bipush dX9_letters_183 rfl ?_
    refine r_bipush dX9_letters_185 rfl ?_
    refine r_bipush dX9_letters_187 rfl ?_
    refine r_bipush dX9_letters_189 rfl ?_
    refine r_bipush dX9_letters_191 rfl ?_
    refine r_bipush dX9_letters_193 rfl ?_
    refine r_callS [_, _, _, _, _, _, _] (s_X9_spelled ⟨by decide, by decide⟩ ⟨by decide, by decide⟩ (by decide) (by decide) (by decide) (by decide) (by decide)) dX9_letters_195 cs_X9_150 sm_X9_spelled (by decide) (by decide) (by decide) rfl rfl (Nat.le_of_ble_eq_true rfl) (fun _ _ _ q => q.elim) (fun v n2 h2 q => ?_)
    obtain ⟨rfl, rfl, hh⟩ := q
    obtain rfl := hh.symm
    refine ⟨rfl, ?_⟩
    dsimp only [Option.toList, List.cons_append, List.nil_append]
    refine r_lret dX9_letters_198 ?_
    obtain rfl : k = 5 := by omega
    exact ⟨congrArg (fun z => some (lw z)) (by decide), rfl, rfl⟩
  · refine r_bipush dX9_letters_199 rfl ?_
    refine r_bipush dX9_letters_201 rfl ?_
    refine r_bipush dX9_letters_203 rfl ?_
    refine r_bipush dX9_letters_205 rfl ?_
    refine r_iconst dX9_letters_207 ?_
    refine r_iconst dX9_letters_208 ?_
    refine r_iconst dX9_letters_209 ?_
    refine r_callS [_, _, _, _, _, _, _] (s_X9_spelled ⟨by decide, by decide⟩ ⟨by decide, by decide⟩ (by decide) (by decide) (by decide) (by decide) (by decide)) dX9_letters_210 cs_X9_150 sm_X9_spelled (by decide) (by decide) (by decide) rfl rfl (Nat.le_of_ble_eq_true rfl) (fun _ _ _ q => q.elim) (fun v n2 h2 q => ?_)
    obtain ⟨rfl, rfl, hh⟩ := q
    obtain rfl := hh.symm
    refine ⟨rfl, ?_⟩
    dsimp only [Option.toList, List.cons_append, List.nil_append]
    refine r_lret dX9_letters_213 ?_
    obtain rfl : k = 6 := by omega
    exact ⟨congrArg (fun z => some (lw z)) (by decide), rfl, rfl⟩
  · refine r_bipush dX9_letters_214 rfl ?_
    refine r_bipush dX9_letters_216 rfl ?_
    refine r_bipush dX9_letters_218 rfl ?_
    refine r_bipush dX9_letters_220 rfl ?_
    refine r_bipush dX9_letters_222 rfl ?_
    refine r_iconst dX9_letters_224 ?_
    refine r_iconst dX9_letters_225 ?_
    refine r_callS [_, _, _, _, _, _, _] (s_X9_spelled ⟨by decide, by decide⟩ ⟨by decide, by decide⟩ (by decide) (by decide) (by decide) (by decide) (by decide)) dX9_letters_226 cs_X9_150 sm_X9_spelled (by decide) (by decide) (by decide) rfl rfl (Nat.le_of_ble_eq_true rfl) (fun _ _ _ q => q.elim) (fun v n2 h2 q => ?_)
    obtain ⟨rfl, rfl, hh⟩ := q
    obtain rfl := hh.symm
    refine ⟨rfl, ?_⟩
    dsimp only [Option.toList, List.cons_append, List.nil_append]
    refine r_lret dX9_letters_229 ?_
    obtain rfl : k = 7 := by omega
    exact ⟨congrArg (fun z => some (lw z)) (by decide), rfl, rfl⟩
  · refine r_bipush dX9_letters_230 rfl ?_
    refine r_bipush dX9_letters_232 rfl ?_
    refine r_bipush dX9_letters_234 rfl ?_
    refine r_bipush dX9_letters_236 rfl ?_
    refine r_bipush dX9_letters_238 rfl ?_
    refine r_iconst dX9_letters_240 ?_
    refine r_iconst dX9_letters_241 ?_
    refine r_callS [_, _, _, _, _, _, _] (s_X9_spelled ⟨by decide, by decide⟩ ⟨by decide, by decide⟩ (by decide) (by decide) (by decide) (by decide) (by decide)) dX9_letters_242 cs_X9_150 sm_X9_spelled (by decide) (by decide) (by decide) rfl rfl (Nat.le_of_ble_eq_true rfl) (fun _ _ _ q => q.elim) (fun v n2 h2 q => ?_)
    obtain ⟨rfl, rfl, hh⟩ := q
    obtain rfl := hh.symm
    refine ⟨rfl, ?_⟩
    dsimp only [Option.toList, List.cons_append, List.nil_append]
    refine r_lret dX9_letters_245 ?_
    obtain rfl : k = 8 := by omega
    exact ⟨congrArg (fun z => some (lw z)) (by decide), rfl, rfl⟩
  · refine r_bipush dX9_letters_246 rfl ?_
    refine r_bipush dX9_letters_248 rfl ?_
    refine r_bipush dX9_letters_250 rfl ?_
    refine r_bipush dX9_letters_252 rfl ?_
    refine r_bipush dX9_letters_254 rfl ?_
    refine r_iconst dX9_letters_256 ?_
    refine r_iconst dX9_letters_257 ?_
    refine r_callS [_, _, _, _, _, _, _] (s_X9_spelled ⟨by decide, by decide⟩ ⟨by decide, by decide⟩ (by decide) (by decide) (by decide) (by decide) (by decide)) dX9_letters_258 cs_X9_150 sm_X9_spelled (by decide) (by decide) (by decide) rfl rfl (Nat.le_of_ble_eq_true rfl) (fun _ _ _ q => q.elim) (fun v n2 h2 q => ?_)
    obtain ⟨rfl, rfl, hh⟩ := q
    obtain rfl := hh.symm
    refine ⟨rfl, ?_⟩
    dsimp only [Option.toList, List.cons_append, List.nil_append]
    refine r_lret dX9_letters_261 ?_
    obtain rfl : k = 9 := by omega
    exact ⟨congrArg (fun z => some (lw z)) (by decide), rfl, rfl⟩
  · refine r_bipush dX9_letters_262 rfl ?_
    refine r_bipush dX9_letters_264 rfl ?_
    refine r_bipush dX9_letters_266 rfl ?_
    refine r_bipush dX9_letters_268 rfl ?_
    refine r_bipush dX9_letters_270 rfl ?_
    refine r_iconst dX9_letters_272 ?_
    refine r_iconst dX9_letters_273 ?_
    refine r_callS [_, _, _, _, _, _, _] (s_X9_spelled ⟨by decide, by decide⟩ ⟨by decide, by decide⟩ (by decide) (by decide) (by decide) (by decide) (by decide)) dX9_letters_274 cs_X9_150 sm_X9_spelled (by decide) (by decide) (by decide) rfl rfl (Nat.le_of_ble_eq_true rfl) (fun _ _ _ q => q.elim) (fun v n2 h2 q => ?_)
    obtain ⟨rfl, rfl, hh⟩ := q
    obtain rfl := hh.symm
    refine ⟨rfl, ?_⟩
    dsimp only [Option.toList, List.cons_append, List.nil_append]
    refine r_lret dX9_letters_277 ?_
    obtain rfl : k = 10 := by omega
    exact ⟨congrArg (fun z => some (lw z)) (by decide), rfl, rfl⟩
  · refine r_bipush dX9_letters_278 rfl ?_
    refine r_bipush dX9_letters_280 rfl ?_
    refine r_bipush dX9_letters_282 rfl ?_
    refine r_bipush dX9_letters_284 rfl ?_
    refine r_bipush dX9_letters_286 rfl ?_
    refine r_bipush dX9_letters_288 rfl ?_
    refine r_iconst dX9_letters_290 ?_
    refine r_callS [_, _, _, _, _, _, _] (s_X9_spelled ⟨by decide, by decide⟩ ⟨by decide, by decide⟩ (by decide) (by decide) (by decide) (by decide) (by decide)) dX9_letters_291 cs_X9_150 sm_X9_spelled (by decide) (by decide) (by decide) rfl rfl (Nat.le_of_ble_eq_true rfl) (fun _ _ _ q => q.elim) (fun v n2 h2 q => ?_)
    obtain ⟨rfl, rfl, hh⟩ := q
    obtain rfl := hh.symm
    refine ⟨rfl, ?_⟩
    dsimp only [Option.toList, List.cons_append, List.nil_append]
    refine r_lret dX9_letters_294 ?_
    obtain rfl : k = 11 := by omega
    exact ⟨congrArg (fun z => some (lw z)) (by decide), rfl, rfl⟩
  · refine r_bipush dX9_letters_295 rfl ?_
    refine r_bipush dX9_letters_297 rfl ?_
    refine r_bipush dX9_letters_299 rfl ?_
    refine r_bipush dX9_letters_301 rfl ?_
    refine r_bipush dX9_letters_303 rfl ?_
    refine r_iconst dX9_letters_305 ?_
    refine r_iconst dX9_letters_306 ?_
    refine r_callS [_, _, _, _, _, _, _] (s_X9_spelled ⟨by decide, by decide⟩ ⟨by decide, by decide⟩ (by decide) (by decide) (by decide) (by decide) (by decide)) dX9_letters_307 cs_X9_150 sm_X9_spelled (by decide) (by decide) (by decide) rfl rfl (Nat.le_of_ble_eq_true rfl) (fun _ _ _ q => q.elim) (fun v n2 h2 q => ?_)
    obtain ⟨rfl, rfl, hh⟩ := q
    obtain rfl := hh.symm
    refine ⟨rfl, ?_⟩
    dsimp only [Option.toList, List.cons_append, List.nil_append]
    refine r_lret dX9_letters_310 ?_
    obtain rfl : k = 12 := by omega
    exact ⟨congrArg (fun z => some (lw z)) (by decide), rfl, rfl⟩
  · refine r_bipush dX9_letters_311 rfl ?_
    refine r_bipush dX9_letters_313 rfl ?_
    refine r_bipush dX9_letters_315 rfl ?_
    refine r_bipush dX9_letters_317 rfl ?_
    refine r_iconst dX9_letters_319 ?_
    refine r_iconst dX9_letters_320 ?_
    refine r_iconst dX9_letters_321 ?_
    refine r_callS [_, _, _, _, _, _, _] (s_X9_spelled ⟨by decide, by decide⟩ ⟨by decide, by decide⟩ (by decide) (by decide) (by decide) (by decide) (by decide)) dX9_letters_322 cs_X9_150 sm_X9_spelled (by decide) (by decide) (by decide) rfl rfl (Nat.le_of_ble_eq_true rfl) (fun _ _ _ q => q.elim) (fun v n2 h2 q => ?_)
    obtain ⟨rfl, rfl, hh⟩ := q
    obtain rfl := hh.symm
    refine ⟨rfl, ?_⟩
    dsimp only [Option.toList, List.cons_append, List.nil_append]
    refine r_lret dX9_letters_325 ?_
    obtain rfl : k = 13 := by omega
    exact ⟨congrArg (fun z => some (lw z)) (by decide), rfl, rfl⟩
  · refine r_bipush dX9_letters_326 rfl ?_
    refine r_bipush dX9_letters_328 rfl ?_
    refine r_bipush dX9_letters_330 rfl ?_
    refine r_bipush dX9_letters_332 rfl ?_
    refine r_iconst dX9_letters_334 ?_
    refine r_iconst dX9_letters_335 ?_
    refine r_iconst dX9_letters_336 ?_
    refine r_callS [_, _, _, _, _, _, _] (s_X9_spelled ⟨by decide, by decide⟩ ⟨by decide, by decide⟩ (by decide) (by decide) (by decide) (by decide) (by decide)) dX9_letters_337 cs_X9_150 sm_X9_spelled (by decide) (by decide) (by decide) rfl rfl (Nat.le_of_ble_eq_true rfl) (fun _ _ _ q => q.elim) (fun v n2 h2 q => ?_)
    obtain ⟨rfl, rfl, hh⟩ := q
    obtain rfl := hh.symm
    refine ⟨rfl, ?_⟩
    dsimp only [Option.toList, List.cons_append, List.nil_append]
    refine r_lret dX9_letters_340 ?_
    obtain rfl : k = 14 := by omega
    exact ⟨congrArg (fun z => some (lw z)) (by decide), rfl, rfl⟩
  · refine r_bipush dX9_letters_341 rfl ?_
    refine r_bipush dX9_letters_343 rfl ?_
    refine r_iconst dX9_letters_345 ?_
    refine r_iconst dX9_letters_346 ?_
    refine r_iconst dX9_letters_347 ?_
    refine r_iconst dX9_letters_348 ?_
    refine r_iconst dX9_letters_349 ?_
    refine r_callS [_, _, _, _, _, _, _] (s_X9_spelled ⟨by decide, by decide⟩ ⟨by decide, by decide⟩ (by decide) (by decide) (by decide) (by decide) (by decide)) dX9_letters_350 cs_X9_150 sm_X9_spelled (by decide) (by decide) (by decide) rfl rfl (Nat.le_of_ble_eq_true rfl) (fun _ _ _ q => q.elim) (fun v n2 h2 q => ?_)
    obtain ⟨rfl, rfl, hh⟩ := q
    obtain rfl := hh.symm
    refine ⟨rfl, ?_⟩
    dsimp only [Option.toList, List.cons_append, List.nil_append]
    refine r_lret dX9_letters_353 ?_
    obtain rfl : k = 15 := by omega
    exact ⟨congrArg (fun z => some (lw z)) (by decide), rfl, rfl⟩
  · refine r_bipush dX9_letters_354 rfl ?_
    refine r_bipush dX9_letters_356 rfl ?_
    refine r_bipush dX9_letters_358 rfl ?_
    refine r_bipush dX9_letters_360 rfl ?_
    refine r_iconst dX9_letters_362 ?_
    refine r_iconst dX9_letters_363 ?_
    refine r_iconst dX9_letters_364 ?_
    refine r_callS [_, _, _, _, _, _, _] (s_X9_spelled ⟨by decide, by decide⟩ ⟨by decide, by decide⟩ (by decide) (by decide) (by decide) (by decide) (by decide)) dX9_letters_365 cs_X9_150 sm_X9_spelled (by decide) (by decide) (by decide) rfl rfl (Nat.le_of_ble_eq_true rfl) (fun _ _ _ q => q.elim) (fun v n2 h2 q => ?_)
    obtain ⟨rfl, rfl, hh⟩ := q
    obtain rfl := hh.symm
    refine ⟨rfl, ?_⟩
    dsimp only [Option.toList, List.cons_append, List.nil_append]
    refine r_lret dX9_letters_368 ?_
    obtain rfl : k = 16 := by omega
    exact ⟨congrArg (fun z => some (lw z)) (by decide), rfl, rfl⟩
  · refine r_bipush dX9_letters_369 rfl ?_
    refine r_bipush dX9_letters_371 rfl ?_
    refine r_bipush dX9_letters_373 rfl ?_
    refine r_bipush dX9_letters_375 rfl ?_
    refine r_iconst dX9_letters_377 ?_
    refine r_iconst dX9_letters_378 ?_
    refine r_iconst dX9_letters_379 ?_
    refine r_callS [_, _, _, _, _, _, _] (s_X9_spelled ⟨by decide, by decide⟩ ⟨by decide, by decide⟩ (by decide) (by decide) (by decide) (by decide) (by decide)) dX9_letters_380 cs_X9_150 sm_X9_spelled (by decide) (by decide) (by decide) rfl rfl (Nat.le_of_ble_eq_true rfl) (fun _ _ _ q => q.elim) (fun v n2 h2 q => ?_)
    obtain ⟨rfl, rfl, hh⟩ := q
    obtain rfl := hh.symm
    refine ⟨rfl, ?_⟩
    dsimp only [Option.toList, List.cons_append, List.nil_append]
    refine r_lret dX9_letters_383 ?_
    obtain rfl : k = 17 := by omega
    exact ⟨congrArg (fun z => some (lw z)) (by decide), rfl, rfl⟩
  · refine r_bipush dX9_letters_384 rfl ?_
    refine r_bipush dX9_letters_386 rfl ?_
    refine r_bipush dX9_letters_388 rfl ?_
    refine r_iconst dX9_letters_390 ?_
    refine r_iconst dX9_letters_391 ?_
    refine r_iconst dX9_letters_392 ?_
    refine r_iconst dX9_letters_393 ?_
    refine r_callS [_, _, _, _, _, _, _] (s_X9_spelled ⟨by decide, by decide⟩ ⟨by decide, by decide⟩ (by decide) (by decide) (by decide) (by decide) (by decide)) dX9_letters_394 cs_X9_150 sm_X9_spelled (by decide) (by decide) (by decide) rfl rfl (Nat.le_of_ble_eq_true rfl) (fun _ _ _ q => q.elim) (fun v n2 h2 q => ?_)
    obtain ⟨rfl, rfl, hh⟩ := q
    obtain rfl := hh.symm
    refine ⟨rfl, ?_⟩
    dsimp only [Option.toList, List.cons_append, List.nil_append]
    refine r_lret dX9_letters_397 ?_
    obtain rfl : k = 18 := by omega
    exact ⟨congrArg (fun z => some (lw z)) (by decide), rfl, rfl⟩
  · refine r_bipush dX9_letters_398 rfl ?_
    refine r_bipush dX9_letters_400 rfl ?_
    refine r_bipush dX9_letters_402 rfl ?_
    refine r_iconst dX9_letters_404 ?_
    refine r_iconst dX9_letters_405 ?_
    refine r_iconst dX9_letters_406 ?_
    refine r_iconst dX9_letters_407 ?_
    refine r_callS [_, _, _, _, _, _, _] (s_X9_spelled ⟨by decide, by decide⟩ ⟨by decide, by decide⟩ (by decide) (by decide) (by decide) (by decide) (by decide)) dX9_letters_408 cs_X9_150 sm_X9_spelled (by decide) (by decide) (by decide) rfl rfl (Nat.le_of_ble_eq_true rfl) (fun _ _ _ q => q.elim) (fun v n2 h2 q => ?_)
    obtain ⟨rfl, rfl, hh⟩ := q
    obtain rfl := hh.symm
    refine ⟨rfl, ?_⟩
    dsimp only [Option.toList, List.cons_append, List.nil_append]
    refine r_lret dX9_letters_411 ?_
    obtain rfl : k = 19 := by omega
    exact ⟨congrArg (fun z => some (lw z)) (by decide), rfl, rfl⟩
  · refine r_bipush dX9_letters_412 rfl ?_
    refine r_bipush dX9_letters_414 rfl ?_
    refine r_bipush dX9_letters_416 rfl ?_
    refine r_bipush dX9_letters_418 rfl ?_
    refine r_iconst dX9_letters_420 ?_
    refine r_iconst dX9_letters_421 ?_
    refine r_iconst dX9_letters_422 ?_
    refine r_callS [_, _, _, _, _, _, _] (s_X9_spelled ⟨by decide, by decide⟩ ⟨by decide, by decide⟩ (by decide) (by decide) (by decide) (by decide) (by decide)) dX9_letters_423 cs_X9_150 sm_X9_spelled (by decide) (by decide) (by decide) rfl rfl (Nat.le_of_ble_eq_true rfl) (fun _ _ _ q => q.elim) (fun v n2 h2 q => ?_)
    obtain ⟨rfl, rfl, hh⟩ := q
    obtain rfl := hh.symm
    refine ⟨rfl, ?_⟩
    dsimp only [Option.toList, List.cons_append, List.nil_append]
    refine r_lret dX9_letters_426 ?_
    obtain rfl : k = 20 := by omega
    exact ⟨congrArg (fun z => some (lw z)) (by decide), rfl, rfl⟩
  · refine r_bipush dX9_letters_427 rfl ?_
    refine r_bipush dX9_letters_429 rfl ?_
    refine r_bipush dX9_letters_431 rfl ?_
    refine r_bipush dX9_letters_433 rfl ?_
    refine r_bipush dX9_letters_435 rfl ?_
    refine r_iconst dX9_letters_437 ?_
    refine r_iconst dX9_letters_438 ?_
    refine r_callS [_, _, _, _, _, _, _] (s_X9_spelled ⟨by decide, by decide⟩ ⟨by decide, by decide⟩ (by decide) (by decide) (by decide) (by decide) (by decide)) dX9_letters_439 cs_X9_150 sm_X9_spelled (by decide) (by decide) (by decide) rfl rfl (Nat.le_of_ble_eq_true rfl) (fun _ _ _ q => q.elim) (fun v n2 h2 q => ?_)
    obtain ⟨rfl, rfl, hh⟩ := q
    obtain rfl := hh.symm
    refine ⟨rfl, ?_⟩
    dsimp only [Option.toList, List.cons_append, List.nil_append]
    refine r_lret dX9_letters_442 ?_
    obtain rfl : k = 21 := by omega
    exact ⟨congrArg (fun z => some (lw z)) (by decide), rfl, rfl⟩

