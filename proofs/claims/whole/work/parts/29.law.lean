/-! ===== the law: what a tree of nodes tells ===== -/
abbrev L28 (N mo : Int) : aE := .inr (1, [iv N, .ref 29, .ref 30, .ref 31, .ref 32, .ref 33, .ref 65, iv mo])
def nodI (N p : Int) : Bool := decide (0 ≤ p) && decide (p < N)
theorem nod_T {N p : Int} : nodI N p = true ↔ 0 ≤ p ∧ p < N := by unfold nodI; simp
theorem nod_F {N p : Int} : nodI N p = false ↔ ¬ (0 ≤ p ∧ p < N) := by unfold nodI; simp
def parI (N : Int) (np : Nat → Int) : Nat → Int → Int
  | 0, p => p
  | k + 1, p => if nodI N p = true then parI N np k (np p.toNat) else p
def ptI (N : Int) (fp np : Nat → Int) (p : Int) (k : Nat) : Int := parI N np k (if nodI N p = true then fp p.toNat else -1)
def fsC (f : Int → Int) (N : Int) (np : Nat → Int) : Nat → Int → Int
  | 0, _ => -1
  | k + 1, p => if nodI N p = true then (if f p = -1 then fsC f N np k (np p.toNat) else f p) else -1
def tbI (tf : Nat → Int) (v : Int) : Int := if 0 ≤ v ∧ v < 9 then tf v.toNat else -1
def meI (a b : Int) : Int := if a = -1 ∨ b = -1 then -1 else (a + b) / 2
def laI (a v : Int) : Int := if a = -1 then -1 else (a + v) % 1440
def beI (a b : Int) : Int := if ¬ a = -1 ∧ ¬ b = -1 ∧ a < b then 1 else 0
def evI (N : Int) (so va fp np tf : Nat → Int) (mo : Int) : Nat → Bool → Int → Int
  | 0, true, _ => -1
  | 0, false, _ => 0
  | k + 1, true, p => if nodI N p = true then
      (if so p.toNat = 0 then tbI tf (va p.toNat) else if so p.toNat = 1 then midI (midL tf (va p.toNat).toNat 9) else if so p.toNat = 2 then fsC (evI N so va fp np tf mo k true) N np 350 (ptI N fp np p 0)
        else if so p.toNat = 3 then meI (evI N so va fp np tf mo k true (ptI N fp np p 0)) (evI N so va fp np tf mo k true (ptI N fp np p 1)) else if so p.toNat = 4 then laI (evI N so va fp np tf mo k true (ptI N fp np p 0)) (va p.toNat)
        else if so p.toNat = 5 then evI N so va fp np tf mo k true (ptI N fp np p (if evI N so va fp np tf mo k false (ptI N fp np p 0) = 0 then 2 else 1)) else -1) else -1
  | k + 1, false, p => if nodI N p = true then
      (if so p.toNat = 6 then 1 - evI N so va fp np tf mo k false (ptI N fp np p 0) else if so p.toNat = 7 then (if evI N so va fp np tf mo k true (ptI N fp np p 0) = -1 then 1 else 0) else if so p.toNat = 8 then (if mo = va p.toNat then 1 else 0)
        else if so p.toNat = 9 then beI (evI N so va fp np tf mo k true (ptI N fp np p 0)) (evI N so va fp np tf mo k true (ptI N fp np p 1)) else 0) else 0
def LInv (N : Int) (so va fp np : Nat → Int) : Prop := (0 ≤ N ∧ N ≤ 350) ∧ (∀ j, 0 ≤ so j ∧ so j ≤ 9) ∧ (∀ j, -720 ≤ va j ∧ va j ≤ 720) ∧ (∀ j, so j = 1 → 0 ≤ va j ∧ va j < 512) ∧ (∀ j, -1 ≤ fp j ∧ fp j ≤ 350) ∧ ∀ j, -1 ≤ np j ∧ np j ≤ 350
theorem parI_B {N : Int} {np : Nat → Int} (h : ∀ j, -1 ≤ np j ∧ np j ≤ 350) : ∀ (k : Nat) (p : Int), (-1 ≤ p ∧ p ≤ 350) → -1 ≤ parI N np k p ∧ parI N np k p ≤ 350 := by
  intro k
  induction k with
  | zero => intro p hp; exact hp
  | succ k ih =>
    intro p hp
    unfold parI
    split
    · exact ih _ (h _)
    · exact hp
theorem ptI_B {N : Int} {fp np : Nat → Int} (hf : ∀ j, -1 ≤ fp j ∧ fp j ≤ 350) (h : ∀ j, -1 ≤ np j ∧ np j ≤ 350) (p : Int) (k : Nat) : -1 ≤ ptI N fp np p k ∧ ptI N fp np p k ≤ 350 := by
  unfold ptI
  refine parI_B h k _ ?_
  split
  · exact hf _
  · omega
theorem fsC_B {f : Int → Int} {N : Int} {np : Nat → Int} (h : ∀ p, -1 ≤ f p ∧ f p < 1440) : ∀ (k : Nat) (p : Int), -1 ≤ fsC f N np k p ∧ fsC f N np k p < 1440 := by
  intro k
  induction k with
  | zero => intro p; exact ⟨by show (-1 : Int) ≤ -1; decide, by show (-1 : Int) < 1440; decide⟩
  | succ k ih =>
    intro p
    unfold fsC
    split
    · split
      · exact ih _
      · exact h p
    · omega
theorem meI_B {a b : Int} (ha : -1 ≤ a ∧ a < 1440) (hb : -1 ≤ b ∧ b < 1440) : -1 ≤ meI a b ∧ meI a b < 1440 := by unfold meI; split <;> omega
theorem laI_B (a v : Int) : -1 ≤ laI a v ∧ laI a v < 1440 := by unfold laI; split <;> omega
theorem beI_B (a b : Int) : beI a b = 0 ∨ beI a b = 1 := by unfold beI; split <;> omega
theorem evI_B {N : Int} {so va fp np tf : Nat → Int} {mo : Int} (ht : ∀ j, -1 ≤ tf j ∧ tf j < 1440) : ∀ k, (∀ p, -1 ≤ evI N so va fp np tf mo k true p ∧ evI N so va fp np tf mo k true p < 1440) ∧ ∀ p, evI N so va fp np tf mo k false p = 0 ∨ evI N so va fp np tf mo k false p = 1 := by
  intro k
  induction k with
  | zero => exact ⟨fun p => ⟨by show (-1 : Int) ≤ -1; decide, by show (-1 : Int) < 1440; decide⟩, fun p => Or.inl rfl⟩
  | succ k ih =>
    obtain ⟨i1, i2⟩ := ih
    refine ⟨fun p => ?_, fun p => ?_⟩
    · unfold evI
      split
      · split
        · unfold tbI
          split
          · exact ht _
          · omega
        · split
          · exact midI_B (midL_B ht 9)
          · split
            · exact fsC_B i1 _ _
            · split
              · exact meI_B (i1 _) (i1 _)
              · split
                · exact laI_B _ _
                · split
                  · exact i1 _
                  · omega
      · omega
    · unfold evI
      split
      · split
        · have := i2 (ptI N fp np p 0); omega
        · split
          · split <;> omega
          · split
            · split <;> omega
            · split
              · exact beI_B _ _
              · omega
      · omega

theorem s_X1_isNode {h : aH} {N mo : Int} (c28 : h 28 = L28 N mo) {p : Int} (hp : -1 ≤ p ∧ p ≤ 350) (pN : 0 ≤ N ∧ N ≤ 350) : mSem yX1_isNode cX1_isNode 2 (some .boolean) 0 0 0 [.ref 28, iv p] 97 h (Ret (b2i (nodI N p)) h) noX := by
  refine mSem_of (own := RX1) (name := "isNode") pn_X1 rfl rfl (Nat.le_of_ble_eq_true rfl) ?_
  refine r_iload_n dX1_isNode_0 rfl rfl ?_
  refine r_if_lt (tgt := 16) dX1_isNode_1 (by decide) ⟨by omega, by omega⟩ (fun g1 => ?_) (fun g1 => ?_)
  · refine r_iconst dX1_isNode_16 ?_
    refine r_zret dX1_isNode_17 (nar_z (by omega)) ?_
    exact ⟨ivE (by simp only [nodI, b2i]; simp; omega), rfl, rfl⟩
  · refine r_iload_n dX1_isNode_4 rfl rfl ?_
    refine r_aload_n dX1_isNode_5 rfl rfl ?_
    refine r_get (fs := [_, _, _, _, _, _, _, _]) dX1_isNode_6 fl_X1_9 (by decide) c28 rfl ?_
    refine r_icmp_ge (tgt := 16) dX1_isNode_9 (by decide) ⟨by omega, by omega⟩ ⟨by omega, by omega⟩ (fun g9 => ?_) (fun g9 => ?_)
    · refine r_iconst dX1_isNode_16 ?_
      refine r_zret dX1_isNode_17 (nar_z (by omega)) ?_
      exact ⟨ivE (by simp only [nodI, b2i]; simp; omega), rfl, rfl⟩
    · refine r_iconst dX1_isNode_12 ?_
      refine r_goto (tgt := 17) dX1_isNode_13 (by decide) ?_
      refine r_zret dX1_isNode_17 (nar_z (by omega)) ?_
      exact ⟨ivE (by simp only [nodI, b2i]; simp; omega), rfl, rfl⟩

theorem l_X1_partAt {h : aH} {N mo : Int} {so va fp np tf sg : Nat → Int} (c28 : h 28 = L28 N mo) (c29 : h 29 = .inl (0, 350, so)) (c30 : h 30 = .inl (0, 350, va)) (c31 : h 31 = .inl (0, 350, fp)) (c32 : h 32 = .inl (0, 350, np)) (c33 : h 33 = .inl (0, 9, sg)) (c65 : h 65 = .inl (0, 9, tf)) (li : LInv N so va fp np) (htf : ∀ j, -1 ≤ tf j ∧ tf j < 1440) {q0 : Int} {d n : Nat} (hd1 : 1 ≤ d) (hn : n ≤ 2) : ∀ (w k : Nat) (p : Int), k + w = n → (-1 ≤ p ∧ p ≤ 350) → Ev RX1 "partAt" cX1_partAt 5 (some .int) d 0 0 (Ret (parI N np w p) h) noX 97 h 22 [(0, .ref 28), (1, iv q0), (2, iv n), (3, iv p), (4, iv k)] [] := by
  obtain ⟨pN, pso, pva, pv1, pfp, pnp⟩ := id li
  intro w
  induction w with
  | zero =>
    intro k p hk hp
    obtain rfl : k = n := by omega
    refine r_iload dX1_partAt_22 rfl ?_
    refine r_iload_n dX1_partAt_24 rfl rfl ?_
    refine r_icmp_ge (tgt := 49) dX1_partAt_25 (by decide) ⟨by omega, by omega⟩ ⟨by omega, by omega⟩ (fun g25 => ?_) (fun g25 => absurd g25 (by omega))
    refine r_iload_n dX1_partAt_49 rfl rfl ?_
    refine r_iret dX1_partAt_50 ?_
    exact ⟨rfl, rfl, rfl⟩
  | succ w ih =>
    intro k p hk hp
    have bb := b2i_01 (nodI N p)
    have e1 : parI N np (w + 1) p = if nodI N p = true then parI N np w (np p.toNat) else p := rfl
    refine r_iload dX1_partAt_22 rfl ?_
    refine r_iload_n dX1_partAt_24 rfl rfl ?_
    refine r_icmp_ge (tgt := 49) dX1_partAt_25 (by decide) ⟨by omega, by omega⟩ ⟨by omega, by omega⟩ (fun g25 => absurd g25 (by omega)) (fun g25 => ?_)
    refine r_aload_n dX1_partAt_28 rfl rfl ?_
    refine r_iload_n dX1_partAt_29 rfl rfl ?_
    refine r_callV 28 [_] (s_X1_isNode c28 (by omega) pN) dX1_partAt_30 cs_X1_37 im_X1_isNode (by decide) c28 rfl (by omega) (by decide) (by decide) rfl rfl (Nat.le_of_ble_eq_true rfl) (fun _ _ _ q => q.elim) (fun v n2 h2 q => ?_)
    obtain ⟨rfl, rfl, hh⟩ := q
    obtain rfl := hh.symm
    refine ⟨rfl, ?_⟩
    dsimp only [Option.toList, List.cons_append, List.nil_append]
    refine r_if_eq (tgt := 49) dX1_partAt_33 (by decide) ⟨by omega, by omega⟩ (fun g33 => ?_) (fun g33 => ?_)
    · refine r_iload_n dX1_partAt_49 rfl rfl ?_
      refine r_iret dX1_partAt_50 ?_
      rw [b2i_0] at g33
      exact ⟨ivE (by rw [e1, if_neg (by rw [g33]; decide)]), rfl, rfl⟩
    · rw [b2i_0, Bool.not_eq_false] at g33
      have z := nod_T.mp g33
      refine r_aload_n dX1_partAt_36 rfl rfl ?_
      refine r_get (fs := [_, _, _, _, _, _, _, _]) dX1_partAt_37 fl_X1_25 (by decide) c28 rfl ?_
      refine r_iload_n dX1_partAt_40 rfl rfl ?_
      refine r_ald dX1_partAt_41 (by decide) c32 (by omega) (by omega) (by decide) ?_
      refine r_istore_n (lv2 := [(0, _), (1, _), (2, _), (3, _), (4, _)]) dX1_partAt_42 rfl (by decide) rfl rfl ?_
      refine r_iinc (lv2 := [(0, _), (1, _), (2, _), (3, _), (4, _)]) dX1_partAt_43 (by decide) rfl rfl rfl ?_
      refine r_goto (tgt := 22) dX1_partAt_46 (by decide) ?_
      rw [e1, if_pos g33, show (k : Int) + 1 = ((k + 1 : Nat) : Int) by omega]
      exact ih (k + 1) _ (by omega) (pnp _)

theorem s_X1_partAt {h : aH} {N mo : Int} {so va fp np tf sg : Nat → Int} (c28 : h 28 = L28 N mo) (c29 : h 29 = .inl (0, 350, so)) (c30 : h 30 = .inl (0, 350, va)) (c31 : h 31 = .inl (0, 350, fp)) (c32 : h 32 = .inl (0, 350, np)) (c33 : h 33 = .inl (0, 9, sg)) (c65 : h 65 = .inl (0, 9, tf)) (li : LInv N so va fp np) (htf : ∀ j, -1 ≤ tf j ∧ tf j < 1440) {p : Int} (hp : -1 ≤ p ∧ p ≤ 350) {n : Nat} (hn : n ≤ 2) : mSem yX1_partAt cX1_partAt 5 (some .int) 1 0 0 [.ref 28, iv p, iv n] 97 h (Ret (ptI N fp np p n) h) noX := by
  obtain ⟨pN, pso, pva, pv1, pfp, pnp⟩ := id li
  refine mSem_of (own := RX1) (name := "partAt") pn_X1 rfl rfl (Nat.le_of_ble_eq_true rfl) ?_
  refine r_aload_n dX1_partAt_0 rfl rfl ?_
  refine r_iload_n dX1_partAt_1 rfl rfl ?_
  refine r_callV 28 [_] (s_X1_isNode c28 (by omega) pN) dX1_partAt_2 cs_X1_37 im_X1_isNode (by decide) c28 rfl (by decide) (by decide) (by decide) rfl rfl (Nat.le_of_ble_eq_true rfl) (fun _ _ _ q => q.elim) (fun v n2 h2 q => ?_)
  obtain ⟨rfl, rfl, hh⟩ := q
  obtain rfl := hh.symm
  refine ⟨rfl, ?_⟩
  dsimp only [Option.toList, List.cons_append, List.nil_append]
  have bb := b2i_01 (nodI N p)
  have e1 : ptI N fp np p n = parI N np n (if nodI N p = true then fp p.toNat else -1) := rfl
  refine r_if_eq (tgt := 17) dX1_partAt_5 (by decide) ⟨by omega, by omega⟩ (fun g5 => ?_) (fun g5 => ?_)
  · rw [b2i_0] at g5
    rw [if_neg (by rw [g5]; decide)] at e1
    refine r_iconst dX1_partAt_17 ?_
    refine r_istore_n (lv2 := [(0, _), (1, _), (2, _), (3, _)]) dX1_partAt_18 rfl (by decide) rfl rfl ?_
    refine r_iconst dX1_partAt_19 ?_
    refine r_istore (lv2 := [(0, _), (1, _), (2, _), (3, _), (4, _)]) dX1_partAt_20 (by decide) rfl rfl ?_
    rw [e1]
    exact l_X1_partAt c28 c29 c30 c31 c32 c33 c65 li htf (by decide) hn n 0 _ (by omega) (by omega)
  · rw [b2i_0, Bool.not_eq_false] at g5
    have z := nod_T.mp g5
    rw [if_pos g5] at e1
    have bf := pfp p.toNat
    refine r_aload_n dX1_partAt_8 rfl rfl ?_
    refine r_get (fs := [_, _, _, _, _, _, _, _]) dX1_partAt_9 fl_X1_22 (by decide) c28 rfl ?_
    refine r_iload_n dX1_partAt_12 rfl rfl ?_
    refine r_ald dX1_partAt_13 (by decide) c31 (by omega) (by omega) (by decide) ?_
    refine r_goto (tgt := 18) dX1_partAt_14 (by decide) ?_
    refine r_istore_n (lv2 := [(0, _), (1, _), (2, _), (3, _)]) dX1_partAt_18 rfl (by decide) rfl rfl ?_
    refine r_iconst dX1_partAt_19 ?_
    refine r_istore (lv2 := [(0, _), (1, _), (2, _), (3, _), (4, _)]) dX1_partAt_20 (by decide) rfl rfl ?_
    rw [e1]
    exact l_X1_partAt c28 c29 c30 c31 c32 c33 c65 li htf (by decide) hn n 0 _ (by omega) (by omega)

theorem s_X1_toldBy {h : aH} {N mo : Int} {so va fp np tf sg : Nat → Int} (c28 : h 28 = L28 N mo) (c29 : h 29 = .inl (0, 350, so)) (c30 : h 30 = .inl (0, 350, va)) (c31 : h 31 = .inl (0, 350, fp)) (c32 : h 32 = .inl (0, 350, np)) (c33 : h 33 = .inl (0, 9, sg)) (c65 : h 65 = .inl (0, 9, tf)) (li : LInv N so va fp np) (htf : ∀ j, -1 ≤ tf j ∧ tf j < 1440) {v : Int} (hv : -720 ≤ v ∧ v ≤ 720) : mSem yX1_toldBy cX1_toldBy 2 (some .int) 0 0 0 [.ref 28, iv v] 97 h (Ret (tbI tf v) h) noX := by
  refine mSem_of (own := RX1) (name := "toldBy") pn_X1 rfl rfl (Nat.le_of_ble_eq_true rfl) ?_
  refine r_iload_n dX1_toldBy_0 rfl rfl ?_
  refine r_if_lt (tgt := 22) dX1_toldBy_1 (by decide) ⟨by omega, by omega⟩ (fun g1 => ?_) (fun g1 => ?_)
  · refine r_iconst dX1_toldBy_22 ?_
    refine r_iret dX1_toldBy_23 ?_
    exact ⟨ivE (by unfold tbI; first | rw [if_pos (by omega)] | rw [if_neg (by omega)]), rfl, rfl⟩
  · refine r_iload_n dX1_toldBy_4 rfl rfl ?_
    refine r_aload_n dX1_toldBy_5 rfl rfl ?_
    refine r_get (fs := [_, _, _, _, _, _, _, _]) dX1_toldBy_6 fl_X1_31 (by decide) c28 rfl ?_
    refine r_alen dX1_toldBy_9 (by decide) c65 (by decide) ?_
    refine r_icmp_ge (tgt := 22) dX1_toldBy_10 (by decide) ⟨by omega, by omega⟩ ⟨by omega, by omega⟩ (fun g10 => ?_) (fun g10 => ?_)
    · refine r_iconst dX1_toldBy_22 ?_
      refine r_iret dX1_toldBy_23 ?_
      exact ⟨ivE (by unfold tbI; first | rw [if_pos (by omega)] | rw [if_neg (by omega)]), rfl, rfl⟩
    · refine r_aload_n dX1_toldBy_13 rfl rfl ?_
      refine r_get (fs := [_, _, _, _, _, _, _, _]) dX1_toldBy_14 fl_X1_31 (by decide) c28 rfl ?_
      refine r_iload_n dX1_toldBy_17 rfl rfl ?_
      refine r_ald dX1_toldBy_18 (by decide) c65 (by omega) (by omega) (by decide) ?_
      refine r_goto (tgt := 23) dX1_toldBy_19 (by decide) ?_
      refine r_iret dX1_toldBy_23 ?_
      exact ⟨ivE (by unfold tbI; first | rw [if_pos (by omega)] | rw [if_neg (by omega)]), rfl, rfl⟩

def TSem (N mo : Int) (so va fp np tf : Nat → Int) (k : Nat) : Prop := ∀ (h : aH) (sg : Nat → Int), h 28 = L28 N mo → h 29 = .inl (0, 350, so) → h 30 = .inl (0, 350, va) → h 31 = .inl (0, 350, fp) → h 32 = .inl (0, 350, np) → h 33 = .inl (0, 9, sg) → h 65 = .inl (0, 9, tf) → ∀ p : Int, (-1 ≤ p ∧ p ≤ 350) → ∀ lv : Int, lv = 12 - (k : Int) → mSem yX1_timeAt cX1_timeAt 3 (some .int) (2 * k + 3) 0 0 [.ref 28, iv p, iv lv] 97 h (RetA 33 9 (evI N so va fp np tf mo k true p) h) noX
def ESem (N mo : Int) (so va fp np tf : Nat → Int) (k : Nat) : Prop := ∀ (h : aH) (sg : Nat → Int), h 28 = L28 N mo → h 29 = .inl (0, 350, so) → h 30 = .inl (0, 350, va) → h 31 = .inl (0, 350, fp) → h 32 = .inl (0, 350, np) → h 33 = .inl (0, 9, sg) → h 65 = .inl (0, 9, tf) → ∀ p : Int, (-1 ≤ p ∧ p ≤ 350) → ∀ lv : Int, lv = 12 - (k : Int) → mSem yX1_testAt cX1_testAt 3 (some .boolean) (2 * k + 3) 0 0 [.ref 28, iv p, iv lv] 97 h (RetA 33 9 (evI N so va fp np tf mo k false p) h) noX
theorem s_X1_meanAt {h : aH} {N mo : Int} {so va fp np tf sg : Nat → Int} (c28 : h 28 = L28 N mo) (c29 : h 29 = .inl (0, 350, so)) (c30 : h 30 = .inl (0, 350, va)) (c31 : h 31 = .inl (0, 350, fp)) (c32 : h 32 = .inl (0, 350, np)) (c33 : h 33 = .inl (0, 9, sg)) (c65 : h 65 = .inl (0, 9, tf)) (li : LInv N so va fp np) (htf : ∀ j, -1 ≤ tf j ∧ tf j < 1440) {p : Int} (hp : -1 ≤ p ∧ p ≤ 350) {k : Nat} (hk : k < 12) (it : TSem N mo so va fp np tf k) (ie : ESem N mo so va fp np tf k) {lv : Int} (hlv : lv = 11 - (k : Int))  : mSem yX1_meanAt cX1_meanAt 5 (some .int) (2 * k + 4) 0 0 [.ref 28, iv p, iv lv] 97 h (RetA 33 9 (meI (evI N so va fp np tf mo k true (ptI N fp np p 0)) (evI N so va fp np tf mo k true (ptI N fp np p 1))) h) noX := by
  obtain ⟨pN, pso, pva, pv1, pfp, pnp⟩ := id li
  have bE := evI_B (N := N) (so := so) (va := va) (fp := fp) (np := np) (mo := mo) htf k
  have b0 := ptI_B (N := N) pfp pnp p 0
  have b1 := ptI_B (N := N) pfp pnp p 1
  have b2 := ptI_B (N := N) pfp pnp p 2
  have t0 := bE.1 (ptI N fp np p 0)
  have t1 := bE.1 (ptI N fp np p 1)
  have u0 := bE.2 (ptI N fp np p 0)
  refine mSem_of (own := RX1) (name := "meanAt") pn_X1 rfl rfl (Nat.le_of_ble_eq_true rfl) ?_
  refine r_aload_n dX1_meanAt_0 rfl rfl ?_
  refine r_aload_n dX1_meanAt_1 rfl rfl ?_
  refine r_iload_n dX1_meanAt_2 rfl rfl ?_
  refine r_iconst dX1_meanAt_3 ?_
  refine r_callV 28 [_, _] (s_X1_partAt (n := 0) c28 c29 c30 c31 c32 c33 c65 li htf (by omega) (by decide)) dX1_meanAt_4 cs_X1_65 im_X1_partAt (by decide) c28 rfl (by omega) (by decide) (by decide) rfl rfl (Nat.le_of_ble_eq_true rfl) (fun _ _ _ q => q.elim) (fun v n2 h2 q => ?_)
  obtain ⟨rfl, rfl, hh⟩ := q
  obtain rfl := hh.symm
  refine ⟨rfl, ?_⟩
  dsimp only [Option.toList, List.cons_append, List.nil_append]
  refine r_iload_n dX1_meanAt_7 rfl rfl ?_
  refine r_iconst dX1_meanAt_8 ?_
  refine r_iadd dX1_meanAt_9 ?_
  refine r_callV 28 [_, _] (it _ _ c28 c29 c30 c31 c32 c33 c65 _ (by omega) _ (by omega)) dX1_meanAt_10 cs_X1_41 im_X1_timeAt (by decide) c28 rfl (by omega) (by decide) (by decide) rfl rfl (Nat.le_of_ble_eq_true rfl) (fun _ _ _ q => q.elim) (fun v n2 h2 q => ?_)
  obtain ⟨rfl, rfl, sg1, rfl⟩ := q
  refine ⟨rfl, ?_⟩
  dsimp only [Option.toList, List.cons_append, List.nil_append]
  refine r_istore_n (lv2 := [(0, _), (1, _), (2, _), (3, _)]) dX1_meanAt_13 rfl (by decide) rfl rfl ?_
  refine r_aload_n dX1_meanAt_14 rfl rfl ?_
  refine r_aload_n dX1_meanAt_15 rfl rfl ?_
  refine r_iload_n dX1_meanAt_16 rfl rfl ?_
  refine r_iconst dX1_meanAt_17 ?_
  refine r_callV 28 [_, _] (s_X1_partAt (n := 1) (by exact c28) (by exact c29) (by exact c30) (by exact c31) (by exact c32) (by rfl) (by exact c65) li htf (by omega) (by decide)) dX1_meanAt_18 cs_X1_65 im_X1_partAt (by decide) c28 rfl (by omega) (by decide) (by decide) rfl rfl (Nat.le_of_ble_eq_true rfl) (fun _ _ _ q => q.elim) (fun v n2 h2 q => ?_)
  obtain ⟨rfl, rfl, hh⟩ := q
  obtain rfl := hh.symm
  refine ⟨rfl, ?_⟩
  dsimp only [Option.toList, List.cons_append, List.nil_append]
  refine r_iload_n dX1_meanAt_21 rfl rfl ?_
  refine r_iconst dX1_meanAt_22 ?_
  refine r_iadd dX1_meanAt_23 ?_
  refine r_callV 28 [_, _] (it _ _ (by exact c28) (by exact c29) (by exact c30) (by exact c31) (by exact c32) (by rfl) (by exact c65) _ (by omega) _ (by omega)) dX1_meanAt_24 cs_X1_41 im_X1_timeAt (by decide) c28 rfl (by omega) (by decide) (by decide) rfl rfl (Nat.le_of_ble_eq_true rfl) (fun _ _ _ q => q.elim) (fun v n2 h2 q => ?_)
  obtain ⟨rfl, rfl, sg2, rfl⟩ := q
  refine ⟨rfl, ?_⟩
  dsimp only [Option.toList, List.cons_append, List.nil_append]
  refine r_istore (lv2 := [(0, _), (1, _), (2, _), (3, _), (4, _)]) dX1_meanAt_27 (by decide) rfl rfl ?_
  refine r_iload_n dX1_meanAt_29 rfl rfl ?_
  refine r_iconst dX1_meanAt_30 ?_
  refine r_icmp_eq (tgt := 40) dX1_meanAt_31 (by decide) ⟨by omega, by omega⟩ ⟨by omega, by omega⟩ (fun g31 => ?_) (fun g31 => ?_)
  · refine r_iconst dX1_meanAt_40 ?_
    refine r_goto (tgt := 50) dX1_meanAt_41 (by decide) ?_
    refine r_iret dX1_meanAt_50 ?_
    exact ⟨ivE (by unfold meI; first | rw [if_pos (by omega)] | rw [if_neg (by omega)]), rfl, _, bx_uu _ _ _ _⟩
  · refine r_iload dX1_meanAt_34 rfl ?_
    refine r_iconst dX1_meanAt_36 ?_
    refine r_icmp_ne (tgt := 44) dX1_meanAt_37 (by decide) ⟨by omega, by omega⟩ ⟨by omega, by omega⟩ (fun g37 => ?_) (fun g37 => ?_)
    · refine r_iload_n dX1_meanAt_44 rfl rfl ?_
      refine r_iload dX1_meanAt_45 rfl ?_
      refine r_iadd dX1_meanAt_47 ?_
      refine r_iconst dX1_meanAt_48 ?_
      refine r_idivN dX1_meanAt_49 (by omega) (by omega) (by omega) (by omega) ?_
      refine r_iret dX1_meanAt_50 ?_
      exact ⟨ivE (by unfold meI; first | rw [if_pos (by omega)] | rw [if_neg (by omega)]), rfl, _, bx_uu _ _ _ _⟩
    · refine r_iconst dX1_meanAt_40 ?_
      refine r_goto (tgt := 50) dX1_meanAt_41 (by decide) ?_
      refine r_iret dX1_meanAt_50 ?_
      exact ⟨ivE (by unfold meI; first | rw [if_pos (by omega)] | rw [if_neg (by omega)]), rfl, _, bx_uu _ _ _ _⟩

theorem s_X1_laterAt {h : aH} {N mo : Int} {so va fp np tf sg : Nat → Int} (c28 : h 28 = L28 N mo) (c29 : h 29 = .inl (0, 350, so)) (c30 : h 30 = .inl (0, 350, va)) (c31 : h 31 = .inl (0, 350, fp)) (c32 : h 32 = .inl (0, 350, np)) (c33 : h 33 = .inl (0, 9, sg)) (c65 : h 65 = .inl (0, 9, tf)) (li : LInv N so va fp np) (htf : ∀ j, -1 ≤ tf j ∧ tf j < 1440) {p : Int} (hp : -1 ≤ p ∧ p ≤ 350) (hpN : nodI N p = true) {k : Nat} (hk : k < 12) (it : TSem N mo so va fp np tf k) (ie : ESem N mo so va fp np tf k) {lv : Int} (hlv : lv = 11 - (k : Int))  : mSem yX1_laterAt cX1_laterAt 4 (some .int) (2 * k + 4) 0 0 [.ref 28, iv p, iv lv] 97 h (RetA 33 9 (laI (evI N so va fp np tf mo k true (ptI N fp np p 0)) (va p.toNat)) h) noX := by
  obtain ⟨pN, pso, pva, pv1, pfp, pnp⟩ := id li
  have bE := evI_B (N := N) (so := so) (va := va) (fp := fp) (np := np) (mo := mo) htf k
  have b0 := ptI_B (N := N) pfp pnp p 0
  have b1 := ptI_B (N := N) pfp pnp p 1
  have b2 := ptI_B (N := N) pfp pnp p 2
  have t0 := bE.1 (ptI N fp np p 0)
  have t1 := bE.1 (ptI N fp np p 1)
  have u0 := bE.2 (ptI N fp np p 0)
  refine mSem_of (own := RX1) (name := "laterAt") pn_X1 rfl rfl (Nat.le_of_ble_eq_true rfl) ?_
  have bv := pva p.toNat
  have z := nod_T.mp hpN
  refine r_aload_n dX1_laterAt_0 rfl rfl ?_
  refine r_aload_n dX1_laterAt_1 rfl rfl ?_
  refine r_iload_n dX1_laterAt_2 rfl rfl ?_
  refine r_iconst dX1_laterAt_3 ?_
  refine r_callV 28 [_, _] (s_X1_partAt (n := 0) c28 c29 c30 c31 c32 c33 c65 li htf (by omega) (by decide)) dX1_laterAt_4 cs_X1_65 im_X1_partAt (by decide) c28 rfl (by omega) (by decide) (by decide) rfl rfl (Nat.le_of_ble_eq_true rfl) (fun _ _ _ q => q.elim) (fun v n2 h2 q => ?_)
  obtain ⟨rfl, rfl, hh⟩ := q
  obtain rfl := hh.symm
  refine ⟨rfl, ?_⟩
  dsimp only [Option.toList, List.cons_append, List.nil_append]
  refine r_iload_n dX1_laterAt_7 rfl rfl ?_
  refine r_iconst dX1_laterAt_8 ?_
  refine r_iadd dX1_laterAt_9 ?_
  refine r_callV 28 [_, _] (it _ _ c28 c29 c30 c31 c32 c33 c65 _ (by omega) _ (by omega)) dX1_laterAt_10 cs_X1_41 im_X1_timeAt (by decide) c28 rfl (by omega) (by decide) (by decide) rfl rfl (Nat.le_of_ble_eq_true rfl) (fun _ _ _ q => q.elim) (fun v n2 h2 q => ?_)
  obtain ⟨rfl, rfl, sg1, rfl⟩ := q
  refine ⟨rfl, ?_⟩
  dsimp only [Option.toList, List.cons_append, List.nil_append]
  refine r_istore_n (lv2 := [(0, _), (1, _), (2, _), (3, _)]) dX1_laterAt_13 rfl (by decide) rfl rfl ?_
  refine r_iload_n dX1_laterAt_14 rfl rfl ?_
  refine r_iconst dX1_laterAt_15 ?_
  refine r_icmp_ne (tgt := 23) dX1_laterAt_16 (by decide) ⟨by omega, by omega⟩ ⟨by omega, by omega⟩ (fun g16 => ?_) (fun g16 => ?_)
  · refine r_iload_n dX1_laterAt_23 rfl rfl ?_
    refine r_aload_n dX1_laterAt_24 rfl rfl ?_
    refine r_get (fs := [_, _, _, _, _, _, _, _]) dX1_laterAt_25 fl_X1_19 (by decide) c28 rfl ?_
    refine r_iload_n dX1_laterAt_28 rfl rfl ?_
    refine r_ald dX1_laterAt_29 (by decide) c30 (by omega) (by omega) (by decide) ?_
    refine r_iadd dX1_laterAt_30 ?_
    refine r_sipush dX1_laterAt_31 rfl ?_
    refine r_callS [_, _] (s_J9_floorMod_7cf53 ⟨by omega, by omega⟩ (by omega)) dX1_laterAt_34 cs_X1_68 sm_J9_floorMod_7cf53 (by omega) (by decide) (by decide) rfl rfl (Nat.le_of_ble_eq_true rfl) (fun _ _ _ q => q.elim) (fun v n2 h2 q => ?_)
    obtain ⟨rfl, rfl, hh⟩ := q
    obtain rfl := hh.symm
    refine ⟨rfl, ?_⟩
    dsimp only [Option.toList, List.cons_append, List.nil_append]
    refine r_iret dX1_laterAt_37 ?_
    exact ⟨ivE (by unfold laI; first | rw [if_pos (by omega)] | rw [if_neg (by omega)]), rfl, _, rfl⟩
  · refine r_iconst dX1_laterAt_19 ?_
    refine r_goto (tgt := 37) dX1_laterAt_20 (by decide) ?_
    refine r_iret dX1_laterAt_37 ?_
    exact ⟨ivE (by unfold laI; first | rw [if_pos (by omega)] | rw [if_neg (by omega)]), rfl, _, rfl⟩

theorem s_X1_isBefore {h : aH} {N mo : Int} {so va fp np tf sg : Nat → Int} (c28 : h 28 = L28 N mo) (c29 : h 29 = .inl (0, 350, so)) (c30 : h 30 = .inl (0, 350, va)) (c31 : h 31 = .inl (0, 350, fp)) (c32 : h 32 = .inl (0, 350, np)) (c33 : h 33 = .inl (0, 9, sg)) (c65 : h 65 = .inl (0, 9, tf)) (li : LInv N so va fp np) (htf : ∀ j, -1 ≤ tf j ∧ tf j < 1440) {p : Int} (hp : -1 ≤ p ∧ p ≤ 350) {k : Nat} (hk : k < 12) (it : TSem N mo so va fp np tf k) (ie : ESem N mo so va fp np tf k) {lv : Int} (hlv : lv = 11 - (k : Int))  : mSem yX1_isBefore cX1_isBefore 5 (some .boolean) (2 * k + 4) 0 0 [.ref 28, iv p, iv lv] 97 h (RetA 33 9 (beI (evI N so va fp np tf mo k true (ptI N fp np p 0)) (evI N so va fp np tf mo k true (ptI N fp np p 1))) h) noX := by
  obtain ⟨pN, pso, pva, pv1, pfp, pnp⟩ := id li
  have bE := evI_B (N := N) (so := so) (va := va) (fp := fp) (np := np) (mo := mo) htf k
  have b0 := ptI_B (N := N) pfp pnp p 0
  have b1 := ptI_B (N := N) pfp pnp p 1
  have b2 := ptI_B (N := N) pfp pnp p 2
  have t0 := bE.1 (ptI N fp np p 0)
  have t1 := bE.1 (ptI N fp np p 1)
  have u0 := bE.2 (ptI N fp np p 0)
  refine mSem_of (own := RX1) (name := "isBefore") pn_X1 rfl rfl (Nat.le_of_ble_eq_true rfl) ?_
  refine r_aload_n dX1_isBefore_0 rfl rfl ?_
  refine r_aload_n dX1_isBefore_1 rfl rfl ?_
  refine r_iload_n dX1_isBefore_2 rfl rfl ?_
  refine r_iconst dX1_isBefore_3 ?_
  refine r_callV 28 [_, _] (s_X1_partAt (n := 0) c28 c29 c30 c31 c32 c33 c65 li htf (by omega) (by decide)) dX1_isBefore_4 cs_X1_65 im_X1_partAt (by decide) c28 rfl (by omega) (by decide) (by decide) rfl rfl (Nat.le_of_ble_eq_true rfl) (fun _ _ _ q => q.elim) (fun v n2 h2 q => ?_)
  obtain ⟨rfl, rfl, hh⟩ := q
  obtain rfl := hh.symm
  refine ⟨rfl, ?_⟩
  dsimp only [Option.toList, List.cons_append, List.nil_append]
  refine r_iload_n dX1_isBefore_7 rfl rfl ?_
  refine r_iconst dX1_isBefore_8 ?_
  refine r_iadd dX1_isBefore_9 ?_
  refine r_callV 28 [_, _] (it _ _ c28 c29 c30 c31 c32 c33 c65 _ (by omega) _ (by omega)) dX1_isBefore_10 cs_X1_41 im_X1_timeAt (by decide) c28 rfl (by omega) (by decide) (by decide) rfl rfl (Nat.le_of_ble_eq_true rfl) (fun _ _ _ q => q.elim) (fun v n2 h2 q => ?_)
  obtain ⟨rfl, rfl, sg1, rfl⟩ := q
  refine ⟨rfl, ?_⟩
  dsimp only [Option.toList, List.cons_append, List.nil_append]
  refine r_istore_n (lv2 := [(0, _), (1, _), (2, _), (3, _)]) dX1_isBefore_13 rfl (by decide) rfl rfl ?_
  refine r_aload_n dX1_isBefore_14 rfl rfl ?_
  refine r_aload_n dX1_isBefore_15 rfl rfl ?_
  refine r_iload_n dX1_isBefore_16 rfl rfl ?_
  refine r_iconst dX1_isBefore_17 ?_
  refine r_callV 28 [_, _] (s_X1_partAt (n := 1) (by exact c28) (by exact c29) (by exact c30) (by exact c31) (by exact c32) (by rfl) (by exact c65) li htf (by omega) (by decide)) dX1_isBefore_18 cs_X1_65 im_X1_partAt (by decide) c28 rfl (by omega) (by decide) (by decide) rfl rfl (Nat.le_of_ble_eq_true rfl) (fun _ _ _ q => q.elim) (fun v n2 h2 q => ?_)
  obtain ⟨rfl, rfl, hh⟩ := q
  obtain rfl := hh.symm
  refine ⟨rfl, ?_⟩
  dsimp only [Option.toList, List.cons_append, List.nil_append]
  refine r_iload_n dX1_isBefore_21 rfl rfl ?_
  refine r_iconst dX1_isBefore_22 ?_
  refine r_iadd dX1_isBefore_23 ?_
  refine r_callV 28 [_, _] (it _ _ (by exact c28) (by exact c29) (by exact c30) (by exact c31) (by exact c32) (by rfl) (by exact c65) _ (by omega) _ (by omega)) dX1_isBefore_24 cs_X1_41 im_X1_timeAt (by decide) c28 rfl (by omega) (by decide) (by decide) rfl rfl (Nat.le_of_ble_eq_true rfl) (fun _ _ _ q => q.elim) (fun v n2 h2 q => ?_)
  obtain ⟨rfl, rfl, sg2, rfl⟩ := q
  refine ⟨rfl, ?_⟩
  dsimp only [Option.toList, List.cons_append, List.nil_append]
  refine r_istore (lv2 := [(0, _), (1, _), (2, _), (3, _), (4, _)]) dX1_isBefore_27 (by decide) rfl rfl ?_
  refine r_iload_n dX1_isBefore_29 rfl rfl ?_
  refine r_iconst dX1_isBefore_30 ?_
  refine r_icmp_eq (tgt := 50) dX1_isBefore_31 (by decide) ⟨by omega, by omega⟩ ⟨by omega, by omega⟩ (fun g31 => ?_) (fun g31 => ?_)
  · refine r_iconst dX1_isBefore_50 ?_
    refine r_zret dX1_isBefore_51 (nar_z (by omega)) ?_
    exact ⟨ivE (by unfold beI; first | rw [if_pos (by omega)] | rw [if_neg (by omega)]), rfl, _, bx_uu _ _ _ _⟩
  · refine r_iload dX1_isBefore_34 rfl ?_
    refine r_iconst dX1_isBefore_36 ?_
    refine r_icmp_eq (tgt := 50) dX1_isBefore_37 (by decide) ⟨by omega, by omega⟩ ⟨by omega, by omega⟩ (fun g37 => ?_) (fun g37 => ?_)
    · refine r_iconst dX1_isBefore_50 ?_
      refine r_zret dX1_isBefore_51 (nar_z (by omega)) ?_
      exact ⟨ivE (by unfold beI; first | rw [if_pos (by omega)] | rw [if_neg (by omega)]), rfl, _, bx_uu _ _ _ _⟩
    · refine r_iload_n dX1_isBefore_40 rfl rfl ?_
      refine r_iload dX1_isBefore_41 rfl ?_
      refine r_icmp_ge (tgt := 50) dX1_isBefore_43 (by decide) ⟨by omega, by omega⟩ ⟨by omega, by omega⟩ (fun g43 => ?_) (fun g43 => ?_)
      · refine r_iconst dX1_isBefore_50 ?_
        refine r_zret dX1_isBefore_51 (nar_z (by omega)) ?_
        exact ⟨ivE (by unfold beI; first | rw [if_pos (by omega)] | rw [if_neg (by omega)]), rfl, _, bx_uu _ _ _ _⟩
      · refine r_iconst dX1_isBefore_46 ?_
        refine r_goto (tgt := 51) dX1_isBefore_47 (by decide) ?_
        refine r_zret dX1_isBefore_51 (nar_z (by omega)) ?_
        exact ⟨ivE (by unfold beI; first | rw [if_pos (by omega)] | rw [if_neg (by omega)]), rfl, _, bx_uu _ _ _ _⟩

theorem s_X1_chosenAt {h : aH} {N mo : Int} {so va fp np tf sg : Nat → Int} (c28 : h 28 = L28 N mo) (c29 : h 29 = .inl (0, 350, so)) (c30 : h 30 = .inl (0, 350, va)) (c31 : h 31 = .inl (0, 350, fp)) (c32 : h 32 = .inl (0, 350, np)) (c33 : h 33 = .inl (0, 9, sg)) (c65 : h 65 = .inl (0, 9, tf)) (li : LInv N so va fp np) (htf : ∀ j, -1 ≤ tf j ∧ tf j < 1440) {p : Int} (hp : -1 ≤ p ∧ p ≤ 350) {k : Nat} (hk : k < 12) (it : TSem N mo so va fp np tf k) (ie : ESem N mo so va fp np tf k) {lv : Int} (hlv : lv = 11 - (k : Int))  : mSem yX1_chosenAt cX1_chosenAt 4 (some .int) (2 * k + 4) 0 0 [.ref 28, iv p, iv lv] 97 h (RetA 33 9 (evI N so va fp np tf mo k true (ptI N fp np p (if (evI N so va fp np tf mo k false (ptI N fp np p 0)) = 0 then 2 else 1))) h) noX := by
  obtain ⟨pN, pso, pva, pv1, pfp, pnp⟩ := id li
  have bE := evI_B (N := N) (so := so) (va := va) (fp := fp) (np := np) (mo := mo) htf k
  have b0 := ptI_B (N := N) pfp pnp p 0
  have b1 := ptI_B (N := N) pfp pnp p 1
  have b2 := ptI_B (N := N) pfp pnp p 2
  have t0 := bE.1 (ptI N fp np p 0)
  have t1 := bE.1 (ptI N fp np p 1)
  have u0 := bE.2 (ptI N fp np p 0)
  refine mSem_of (own := RX1) (name := "chosenAt") pn_X1 rfl rfl (Nat.le_of_ble_eq_true rfl) ?_
  have bq := ptI_B (N := N) pfp pnp p (if (evI N so va fp np tf mo k false (ptI N fp np p 0)) = 0 then 2 else 1)
  refine r_aload_n dX1_chosenAt_0 rfl rfl ?_
  refine r_aload_n dX1_chosenAt_1 rfl rfl ?_
  refine r_iload_n dX1_chosenAt_2 rfl rfl ?_
  refine r_iconst dX1_chosenAt_3 ?_
  refine r_callV 28 [_, _] (s_X1_partAt (n := 0) c28 c29 c30 c31 c32 c33 c65 li htf (by omega) (by decide)) dX1_chosenAt_4 cs_X1_65 im_X1_partAt (by decide) c28 rfl (by omega) (by decide) (by decide) rfl rfl (Nat.le_of_ble_eq_true rfl) (fun _ _ _ q => q.elim) (fun v n2 h2 q => ?_)
  obtain ⟨rfl, rfl, hh⟩ := q
  obtain rfl := hh.symm
  refine ⟨rfl, ?_⟩
  dsimp only [Option.toList, List.cons_append, List.nil_append]
  refine r_iload_n dX1_chosenAt_7 rfl rfl ?_
  refine r_iconst dX1_chosenAt_8 ?_
  refine r_iadd dX1_chosenAt_9 ?_
  refine r_callV 28 [_, _] (ie _ _ c28 c29 c30 c31 c32 c33 c65 _ (by omega) _ (by omega)) dX1_chosenAt_10 cs_X1_73 im_X1_testAt (by decide) c28 rfl (by omega) (by decide) (by decide) rfl rfl (Nat.le_of_ble_eq_true rfl) (fun _ _ _ q => q.elim) (fun v n2 h2 q => ?_)
  obtain ⟨rfl, rfl, sg1, rfl⟩ := q
  refine ⟨rfl, ?_⟩
  dsimp only [Option.toList, List.cons_append, List.nil_append]
  refine r_istore_n (lv2 := [(0, _), (1, _), (2, _), (3, _)]) dX1_chosenAt_13 rfl (by decide) rfl rfl ?_
  refine r_aload_n dX1_chosenAt_14 rfl rfl ?_
  refine r_aload_n dX1_chosenAt_15 rfl rfl ?_
  refine r_iload_n dX1_chosenAt_16 rfl rfl ?_
  refine r_iload_n dX1_chosenAt_17 rfl rfl ?_
  refine r_if_eq (tgt := 25) dX1_chosenAt_18 (by decide) ⟨by omega, by omega⟩ (fun g18 => ?_) (fun g18 => ?_)
  · refine r_iconst dX1_chosenAt_25 ?_
    first | rw [show (1 : Int) = ((if (evI N so va fp np tf mo k false (ptI N fp np p 0)) = 0 then 2 else 1 : Nat) : Int) by rw [if_neg g18]; rfl] | rw [show (2 : Int) = ((if (evI N so va fp np tf mo k false (ptI N fp np p 0)) = 0 then 2 else 1 : Nat) : Int) by rw [if_pos g18]; rfl]
    refine r_callV 28 [_, _] (s_X1_partAt (n := if (evI N so va fp np tf mo k false (ptI N fp np p 0)) = 0 then 2 else 1) (by exact c28) (by exact c29) (by exact c30) (by exact c31) (by exact c32) (by rfl) (by exact c65) li htf (by omega) (by split <;> decide)) dX1_chosenAt_26 cs_X1_65 im_X1_partAt (by decide) c28 rfl (by omega) (by decide) (by decide) rfl rfl (Nat.le_of_ble_eq_true rfl) (fun _ _ _ q => q.elim) (fun v n2 h2 q => ?_)
    obtain ⟨rfl, rfl, hh⟩ := q
    obtain rfl := hh.symm
    refine ⟨rfl, ?_⟩
    dsimp only [Option.toList, List.cons_append, List.nil_append]
    refine r_iload_n dX1_chosenAt_29 rfl rfl ?_
    refine r_iconst dX1_chosenAt_30 ?_
    refine r_iadd dX1_chosenAt_31 ?_
    refine r_callV 28 [_, _] (it _ _ (by exact c28) (by exact c29) (by exact c30) (by exact c31) (by exact c32) (by rfl) (by exact c65) _ bq _ (by omega)) dX1_chosenAt_32 cs_X1_41 im_X1_timeAt (by decide) c28 rfl (by omega) (by decide) (by decide) rfl rfl (Nat.le_of_ble_eq_true rfl) (fun _ _ _ q => q.elim) (fun v n2 h2 q => ?_)
    obtain ⟨rfl, rfl, sg2, rfl⟩ := q
    refine ⟨rfl, ?_⟩
    dsimp only [Option.toList, List.cons_append, List.nil_append]
    refine r_iret dX1_chosenAt_35 ?_
    exact ⟨rfl, rfl, _, bx_uu _ _ _ _⟩
  · refine r_iconst dX1_chosenAt_21 ?_
    refine r_goto (tgt := 26) dX1_chosenAt_22 (by decide) ?_
    first | rw [show (1 : Int) = ((if (evI N so va fp np tf mo k false (ptI N fp np p 0)) = 0 then 2 else 1 : Nat) : Int) by rw [if_neg g18]; rfl] | rw [show (2 : Int) = ((if (evI N so va fp np tf mo k false (ptI N fp np p 0)) = 0 then 2 else 1 : Nat) : Int) by rw [if_pos g18]; rfl]
    refine r_callV 28 [_, _] (s_X1_partAt (n := if (evI N so va fp np tf mo k false (ptI N fp np p 0)) = 0 then 2 else 1) (by exact c28) (by exact c29) (by exact c30) (by exact c31) (by exact c32) (by rfl) (by exact c65) li htf (by omega) (by split <;> decide)) dX1_chosenAt_26 cs_X1_65 im_X1_partAt (by decide) c28 rfl (by omega) (by decide) (by decide) rfl rfl (Nat.le_of_ble_eq_true rfl) (fun _ _ _ q => q.elim) (fun v n2 h2 q => ?_)
    obtain ⟨rfl, rfl, hh⟩ := q
    obtain rfl := hh.symm
    refine ⟨rfl, ?_⟩
    dsimp only [Option.toList, List.cons_append, List.nil_append]
    refine r_iload_n dX1_chosenAt_29 rfl rfl ?_
    refine r_iconst dX1_chosenAt_30 ?_
    refine r_iadd dX1_chosenAt_31 ?_
    refine r_callV 28 [_, _] (it _ _ (by exact c28) (by exact c29) (by exact c30) (by exact c31) (by exact c32) (by rfl) (by exact c65) _ bq _ (by omega)) dX1_chosenAt_32 cs_X1_41 im_X1_timeAt (by decide) c28 rfl (by omega) (by decide) (by decide) rfl rfl (Nat.le_of_ble_eq_true rfl) (fun _ _ _ q => q.elim) (fun v n2 h2 q => ?_)
    obtain ⟨rfl, rfl, sg2, rfl⟩ := q
    refine ⟨rfl, ?_⟩
    dsimp only [Option.toList, List.cons_append, List.nil_append]
    refine r_iret dX1_chosenAt_35 ?_
    exact ⟨rfl, rfl, _, bx_uu _ _ _ _⟩

theorem l_X1_firstAt {h : aH} {N mo : Int} {so va fp np tf sg : Nat → Int} (c28 : h 28 = L28 N mo) (c29 : h 29 = .inl (0, 350, so)) (c30 : h 30 = .inl (0, 350, va)) (c31 : h 31 = .inl (0, 350, fp)) (c32 : h 32 = .inl (0, 350, np)) (c33 : h 33 = .inl (0, 9, sg)) (c65 : h 65 = .inl (0, 9, tf)) (li : LInv N so va fp np) (htf : ∀ j, -1 ≤ tf j ∧ tf j < 1440) {p0 : Int} {k : Nat} (hk : k < 12) (it : TSem N mo so va fp np tf k) (ie : ESem N mo so va fp np tf k) {lv : Int} (hlv : lv = 11 - (k : Int)) : ∀ (w i : Nat) (g : Nat → Int) (p : Int), i + w = 350 → (-1 ≤ p ∧ p ≤ 350) → Ev RX1 "firstAt" cX1_firstAt 6 (some .int) (2 * k + 4) 0 0 (RetA 33 9 (fsC (evI N so va fp np tf mo k true) N np w p) h) noX 97 (va_up h 33 (.inl (0, 9, g))) 10 [(0, .ref 28), (1, iv p0), (2, iv lv), (3, iv p), (4, iv i)] [] := by
  obtain ⟨pN, pso, pva, pv1, pfp, pnp⟩ := id li
  have bE := evI_B (N := N) (so := so) (va := va) (fp := fp) (np := np) (mo := mo) htf k
  intro w
  induction w with
  | zero =>
    intro i g p hi hp
    obtain rfl : i = 350 := by omega
    refine r_iload dX1_firstAt_10 rfl ?_
    refine r_sipush dX1_firstAt_12 rfl ?_
    refine r_icmp_ge (tgt := 58) dX1_firstAt_15 (by decide) ⟨by omega, by omega⟩ ⟨by omega, by omega⟩ (fun g15 => ?_) (fun g15 => absurd g15 (by omega))
    refine r_iconst dX1_firstAt_58 ?_
    refine r_iret dX1_firstAt_59 ?_
    exact ⟨rfl, rfl, g, rfl⟩
  | succ w ih =>
    intro i g p hi hp
    have bb := b2i_01 (nodI N p)
    have t0 := bE.1 p
    have e1 : fsC (evI N so va fp np tf mo k true) N np (w + 1) p = if nodI N p = true then (if (evI N so va fp np tf mo k true) p = -1 then fsC (evI N so va fp np tf mo k true) N np w (np p.toNat) else (evI N so va fp np tf mo k true) p) else -1 := rfl
    refine r_iload dX1_firstAt_10 rfl ?_
    refine r_sipush dX1_firstAt_12 rfl ?_
    refine r_icmp_ge (tgt := 58) dX1_firstAt_15 (by decide) ⟨by omega, by omega⟩ ⟨by omega, by omega⟩ (fun g15 => absurd g15 (by omega)) (fun g15 => ?_)
    refine r_aload_n dX1_firstAt_18 rfl rfl ?_
    refine r_iload_n dX1_firstAt_19 rfl rfl ?_
    refine r_callV 28 [_] (s_X1_isNode (by exact c28) (by omega) pN) dX1_firstAt_20 cs_X1_37 im_X1_isNode (by decide) c28 rfl (by omega) (by decide) (by decide) rfl rfl (Nat.le_of_ble_eq_true rfl) (fun _ _ _ q => q.elim) (fun v n2 h2 q => ?_)
    obtain ⟨rfl, rfl, hh⟩ := q
    obtain rfl := hh.symm
    refine ⟨rfl, ?_⟩
    dsimp only [Option.toList, List.cons_append, List.nil_append]
    refine r_if_eq (tgt := 58) dX1_firstAt_23 (by decide) ⟨by omega, by omega⟩ (fun g23 => ?_) (fun g23 => ?_)
    · refine r_iconst dX1_firstAt_58 ?_
      refine r_iret dX1_firstAt_59 ?_
      rw [b2i_0] at g23
      exact ⟨ivE (by rw [e1, if_neg (by rw [g23]; decide)]), rfl, g, rfl⟩
    · rw [b2i_0, Bool.not_eq_false] at g23
      have z := nod_T.mp g23
      refine r_aload_n dX1_firstAt_26 rfl rfl ?_
      refine r_iload_n dX1_firstAt_27 rfl rfl ?_
      refine r_iload_n dX1_firstAt_28 rfl rfl ?_
      refine r_iconst dX1_firstAt_29 ?_
      refine r_iadd dX1_firstAt_30 ?_
      refine r_callV 28 [_, _] (it _ _ (by exact c28) (by exact c29) (by exact c30) (by exact c31) (by exact c32) (by rfl) (by exact c65) _ (by omega) _ (by omega)) dX1_firstAt_31 cs_X1_41 im_X1_timeAt (by decide) c28 rfl (by omega) (by decide) (by decide) rfl rfl (Nat.le_of_ble_eq_true rfl) (fun _ _ _ q => q.elim) (fun v n2 h2 q => ?_)
      obtain ⟨rfl, rfl, sg1, rfl⟩ := q
      refine ⟨rfl, ?_⟩
      dsimp only [Option.toList, List.cons_append, List.nil_append]
      refine r_istore (lv2 := [(0, _), (1, _), (2, _), (3, _), (4, _), (5, _)]) dX1_firstAt_34 (by decide) rfl rfl ?_
      refine r_iload dX1_firstAt_36 rfl ?_
      refine r_iconst dX1_firstAt_38 ?_
      refine r_icmp_eq (tgt := 45) dX1_firstAt_39 (by decide) ⟨by omega, by omega⟩ ⟨by omega, by omega⟩ (fun g39 => ?_) (fun g39 => ?_)
      · refine r_aload_n dX1_firstAt_45 rfl rfl ?_
        refine r_get (fs := [_, _, _, _, _, _, _, _]) dX1_firstAt_46 fl_X1_25 (by decide) c28 rfl ?_
        refine r_iload_n dX1_firstAt_49 rfl rfl ?_
        refine r_ald dX1_firstAt_50 (by decide) c32 (by omega) (by omega) (by decide) ?_
        refine r_istore_n (lv2 := [(0, _), (1, _), (2, _), (3, _), (4, _), (5, _)]) dX1_firstAt_51 rfl (by decide) rfl rfl ?_
        refine r_iinc (lv2 := [(0, _), (1, _), (2, _), (3, _), (4, _), (5, _)]) dX1_firstAt_52 (by decide) rfl rfl rfl ?_
        refine r_goto (tgt := 10) dX1_firstAt_55 (by decide) ?_
        refine r_lv (lv2 := [(0, _), (1, _), (2, _), (3, _), (4, _)]) rfl ?_
        rw [e1, if_pos g23, if_pos g39, bx_uu, show (i : Int) + 1 = ((i + 1 : Nat) : Int) by omega]
        exact ih (i + 1) _ _ (by omega) (pnp _)
      · refine r_iload dX1_firstAt_42 rfl ?_
        refine r_iret dX1_firstAt_44 ?_
        exact ⟨ivE (by rw [e1, if_pos g23, if_neg g39]), rfl, _, bx_uu _ _ _ _⟩

theorem s_X1_firstAt {h : aH} {N mo : Int} {so va fp np tf sg : Nat → Int} (c28 : h 28 = L28 N mo) (c29 : h 29 = .inl (0, 350, so)) (c30 : h 30 = .inl (0, 350, va)) (c31 : h 31 = .inl (0, 350, fp)) (c32 : h 32 = .inl (0, 350, np)) (c33 : h 33 = .inl (0, 9, sg)) (c65 : h 65 = .inl (0, 9, tf)) (li : LInv N so va fp np) (htf : ∀ j, -1 ≤ tf j ∧ tf j < 1440) {p : Int} (hp : -1 ≤ p ∧ p ≤ 350) {k : Nat} (hk : k < 12) (it : TSem N mo so va fp np tf k) (ie : ESem N mo so va fp np tf k) {lv : Int} (hlv : lv = 11 - (k : Int))  : mSem yX1_firstAt cX1_firstAt 6 (some .int) (2 * k + 4) 0 0 [.ref 28, iv p, iv lv] 97 h (RetA 33 9 (fsC (evI N so va fp np tf mo k true) N np 350 (ptI N fp np p 0)) h) noX := by
  obtain ⟨pN, pso, pva, pv1, pfp, pnp⟩ := id li
  have bE := evI_B (N := N) (so := so) (va := va) (fp := fp) (np := np) (mo := mo) htf k
  have b0 := ptI_B (N := N) pfp pnp p 0
  have b1 := ptI_B (N := N) pfp pnp p 1
  have b2 := ptI_B (N := N) pfp pnp p 2
  have t0 := bE.1 (ptI N fp np p 0)
  have t1 := bE.1 (ptI N fp np p 1)
  have u0 := bE.2 (ptI N fp np p 0)
  refine mSem_of (own := RX1) (name := "firstAt") pn_X1 rfl rfl (Nat.le_of_ble_eq_true rfl) ?_
  refine r_aload_n dX1_firstAt_0 rfl rfl ?_
  refine r_iload_n dX1_firstAt_1 rfl rfl ?_
  refine r_iconst dX1_firstAt_2 ?_
  refine r_callV 28 [_, _] (s_X1_partAt (n := 0) c28 c29 c30 c31 c32 c33 c65 li htf (by omega) (by decide)) dX1_firstAt_3 cs_X1_65 im_X1_partAt (by decide) c28 rfl (by omega) (by decide) (by decide) rfl rfl (Nat.le_of_ble_eq_true rfl) (fun _ _ _ q => q.elim) (fun v n2 h2 q => ?_)
  obtain ⟨rfl, rfl, hh⟩ := q
  obtain rfl := hh.symm
  refine ⟨rfl, ?_⟩
  dsimp only [Option.toList, List.cons_append, List.nil_append]
  refine r_istore_n (lv2 := [(0, _), (1, _), (2, _), (3, _)]) dX1_firstAt_6 rfl (by decide) rfl rfl ?_
  refine r_iconst dX1_firstAt_7 ?_
  refine r_istore (lv2 := [(0, _), (1, _), (2, _), (3, _), (4, _)]) dX1_firstAt_8 (by decide) rfl rfl ?_
  refine ev_h (up_same c33) ?_
  exact l_X1_firstAt c28 c29 c30 c31 c32 c33 c65 li htf hk it ie hlv 350 0 sg _ (by omega) b0
