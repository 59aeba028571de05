/-! ===== the scan: signed numbers, its beginning ===== -/
def pNum (t : Nat → Int) (le : Nat) (lo hi : Int) (e : Nat) : (Int × Nat) ⊕ (Int × Nat) := if numF t le e lo hi = 0 then .inr (numAt t le e, tkE t le e) else .inl (numF t le e lo hi, tkS t le e)
def pSgn (t : Nat → Int) (le : Nat) (hi : Int) (e : Nat) : (Int × Nat) ⊕ (Int × Nat) := if signAt t le e 45 = true then (match pNum t le 0 hi (tkE t le e) with
  | .inl x => .inl x
  | .inr y => .inr (-y.1, y.2)) else pNum t le 0 hi e
/-- what a reading method leaves: the number, the place behind it; or the fault -/
def PQ (t : Nat → Int) (fa pl : Int) (le : Nat) (h : aH) (r : (Int × Nat) ⊕ (Int × Nat)) : Option Value → Nat → aH → Prop := fun v n' h' => n' = 97 ∧ ((∃ x e2, r = .inr (x, e2) ∧ e2 ≤ le ∧ v = some (iv 1) ∧ h' = va_up h 3 (SC t fa pl x le e2)) ∨ (∃ f p tk ki st en, r = .inl (f, p) ∧ v = some (iv 0) ∧ h' = va_up h 3 (SCN f p tk le ki st en)))
theorem pNum_ok {t : Nat → Int} {le e : Nat} {lo hi x : Int} {e2 : Nat} (h : pNum t le lo hi e = .inr (x, e2)) : lo ≤ x ∧ x ≤ hi := by
  unfold pNum at h
  split at h
  · next z =>
    simp only [Sum.inr.injEq, Prod.mk.injEq] at h
    unfold numF at z
    split at z
    · exact absurd z (by decide)
    · split at z
      · exact absurd z (by decide)
      · omega
  · cases h
theorem pSgn_ok {t : Nat → Int} {le e : Nat} {hi x : Int} {e2 : Nat} (h : pSgn t le hi e = .inr (x, e2)) : -hi ≤ x ∧ x ≤ hi := by
  unfold pSgn at h
  split at h
  · cases hp : pNum t le 0 hi (tkE t le e) with
    | inl y => rw [hp] at h; cases h
    | inr y =>
      rw [hp] at h
      have := pNum_ok (x := y.1) (e2 := y.2) hp
      simp only [Sum.inr.injEq, Prod.mk.injEq] at h
      omega
  · have := pNum_ok h
    omega

theorem s_X6_takeSigned {h : aH} {t : Nat → Int} (c1 : h 1 = .inl (1, 700, t)) (ht : ∀ j, -128 ≤ t j ∧ t j ≤ 127) {fa pl tk : Int} {le e : Nat} (c3 : h 3 = SC t fa pl tk le e) (hle : le ≤ 700) (hee : e ≤ le) {hi : Int} (hhi : 0 ≤ hi ∧ hi ≤ 10000) : mSem yX6_takeSigned cX6_takeSigned 3 (some .boolean) 3 0 0 [.ref 3, iv hi] 97 h (PQ t fa pl le h (pSgn t le hi e)) noX := by
  have hB := tk_B t hee
  refine mSem_of (own := RX6) (name := "takeSigned") pn_X6 rfl rfl (Nat.le_of_ble_eq_true rfl) ?_
  refine r_aload_n dX6_takeSigned_0 rfl rfl ?_
  refine r_bipush dX6_takeSigned_1 rfl ?_
  refine r_callV 3 [_] (s_X6_isSign c1 ht (by first | rfl | exact c3) hle (by omega) (by omega)) dX6_takeSigned_3 cs_X6_73 im_X6_isSign (by decide) c3 rfl (by decide) (by decide) (by decide) rfl rfl (Nat.le_of_ble_eq_true rfl) (fun _ _ _ q => q.elim) (fun v n2 h2 q => ?_)
  obtain ⟨rfl, rfl, hh⟩ := q
  obtain rfl := hh.symm
  refine ⟨rfl, ?_⟩
  dsimp only [Option.toList, List.cons_append, List.nil_append]
  have bb := b2i_01 (signAt t le e 45)
  have hB2 := tk_B t hB.2.2.2.1
  have eP : pSgn t le hi e = if signAt t le e 45 = true then (match pNum t le 0 hi (tkE t le e) with | .inl x => .inl x | .inr y => .inr (-y.1, y.2)) else pNum t le 0 hi e := rfl
  refine r_istore_n (lv2 := [(0, _), (1, _), (2, _)]) dX6_takeSigned_6 rfl (by decide) rfl rfl ?_
  refine r_iload_n dX6_takeSigned_7 rfl rfl ?_
  refine r_if_eq (tgt := 15) dX6_takeSigned_8 (by decide) ⟨by omega, by omega⟩ (fun g8 => ?_) (fun g8 => ?_)
  · refine r_aload_n dX6_takeSigned_15 rfl rfl ?_
    refine r_iconst dX6_takeSigned_16 ?_
    refine r_iload_n dX6_takeSigned_17 rfl rfl ?_
    refine r_callV 3 [_, _] (s_X6_takeNumber c1 ht (by first | rfl | exact c3) hle (by omega) (by omega) (by omega)) dX6_takeSigned_18 cs_X6_77 im_X6_takeNumber (by decide) c3 rfl (by decide) (by decide) (by decide) rfl rfl (Nat.le_of_ble_eq_true rfl) (fun _ _ _ q => q.elim) (fun v n2 h2 q => ?_)
    obtain ⟨rfl, q⟩ := q
    rcases q with ⟨z0, rfl, hh⟩ | ⟨z0, rfl, hh⟩
    · obtain rfl := hh.symm
      refine ⟨rfl, ?_⟩
      dsimp only [Option.toList, List.cons_append, List.nil_append]
      refine r_if_ne (tgt := 26) dX6_takeSigned_21 (by decide) ⟨by omega, by omega⟩ (fun g21 => ?_) (fun g21 => absurd g21 (by omega))
      skip
      refine r_aload_n dX6_takeSigned_26 rfl rfl ?_
      refine r_iload_n dX6_takeSigned_27 rfl rfl ?_
      refine r_if_eq (tgt := 39) dX6_takeSigned_28 (by decide) ⟨by omega, by omega⟩ (fun g28 => ?_) (fun g28 => ?_)
      · refine r_aload_n dX6_takeSigned_39 rfl rfl ?_
        refine r_get (fs := [_, _, _, _, _, _, _, _]) dX6_takeSigned_40 fl_X6_18 (by decide) rfl rfl ?_
        refine r_put (fs := [_, _, _, _, _, _, _, _]) (fs2 := [_, _, _, _, _, _, _, _]) dX6_takeSigned_43 fp_X6_18 (by decide) rfl (nar_int _) (Nat.le_of_ble_eq_true rfl) rfl ?_
        refine r_iconst dX6_takeSigned_46 ?_
        refine r_zret dX6_takeSigned_47 (nar_z (by omega)) ?_
        first
          | exact absurd g8 g28
          | exact absurd g28 g8
          | (rw [eP, if_neg (fun q => by rw [q] at g8; exact absurd g8 (by decide))]
             exact ⟨rfl, Or.inl ⟨_, _, by unfold pNum; rw [if_pos (of_decide_eq_true z0)], by omega, rfl, by simp only [bx_uu]⟩⟩)
          | (rw [b2i_0, Bool.not_eq_false] at g8
             rw [eP, if_pos g8]
             exact ⟨rfl, Or.inl ⟨_, _, by unfold pNum; rw [if_pos (of_decide_eq_true z0)], by omega, rfl, by simp only [bx_uu]⟩⟩)
      · refine r_aload_n dX6_takeSigned_31 rfl rfl ?_
        refine r_get (fs := [_, _, _, _, _, _, _, _]) dX6_takeSigned_32 fl_X6_18 (by decide) rfl rfl ?_
        refine r_ineg dX6_takeSigned_35 ?_
        refine r_goto (tgt := 43) dX6_takeSigned_36 (by decide) ?_
        refine r_put (fs := [_, _, _, _, _, _, _, _]) (fs2 := [_, _, _, _, _, _, _, _]) dX6_takeSigned_43 fp_X6_18 (by decide) rfl (nar_int _) (Nat.le_of_ble_eq_true rfl) rfl ?_
        refine r_iconst dX6_takeSigned_46 ?_
        refine r_zret dX6_takeSigned_47 (nar_z (by omega)) ?_
        first
          | exact absurd g8 g28
          | exact absurd g28 g8
          | (rw [eP, if_neg (fun q => by rw [q] at g8; exact absurd g8 (by decide))]
             exact ⟨rfl, Or.inl ⟨_, _, by unfold pNum; rw [if_pos (of_decide_eq_true z0)], by omega, rfl, by simp only [bx_uu]⟩⟩)
          | (rw [b2i_0, Bool.not_eq_false] at g8
             rw [eP, if_pos g8]
             exact ⟨rfl, Or.inl ⟨_, _, by unfold pNum; rw [if_pos (of_decide_eq_true z0)], by omega, rfl, by simp only [bx_uu]⟩⟩)
    · obtain rfl := hh.symm
      refine ⟨rfl, ?_⟩
      dsimp only [Option.toList, List.cons_append, List.nil_append]
      refine r_if_ne (tgt := 26) dX6_takeSigned_21 (by decide) ⟨by omega, by omega⟩ (fun g21 => absurd g21 (by omega)) (fun g21 => ?_)
      refine r_iconst dX6_takeSigned_24 ?_
      refine r_zret dX6_takeSigned_25 (nar_z (by omega)) ?_
      rw [eP]
      first
        | (rw [if_neg (fun q => by rw [q] at g8; exact absurd g8 (by decide))]
           exact ⟨rfl, Or.inr ⟨_, _, _, _, _, _, by unfold pNum; rw [if_neg (of_decide_eq_false z0)], rfl, rfl⟩⟩)
        | (rw [b2i_0, Bool.not_eq_false] at g8
           rw [if_pos g8]
           exact ⟨rfl, Or.inr ⟨_, _, _, _, _, _, by unfold pNum; rw [if_neg (of_decide_eq_false z0)], rfl, bx_uu _ _ _ _⟩⟩)
  · refine r_aload_n dX6_takeSigned_11 rfl rfl ?_
    refine r_callV 3 [] (s_X6_advance c1 ht (by first | rfl | exact c3) hle (by omega)) dX6_takeSigned_12 cs_X6_46 im_X6_advance (by decide) c3 rfl (by decide) (by decide) (by decide) rfl rfl (Nat.le_of_ble_eq_true rfl) (fun _ _ _ q => q.elim) (fun v n2 h2 q => ?_)
    obtain ⟨rfl, rfl, hh⟩ := q
    obtain rfl := hh.symm
    refine ⟨rfl, ?_⟩
    dsimp only [Option.toList, List.cons_append, List.nil_append]
    refine r_aload_n dX6_takeSigned_15 rfl rfl ?_
    refine r_iconst dX6_takeSigned_16 ?_
    refine r_iload_n dX6_takeSigned_17 rfl rfl ?_
    refine r_callV 3 [_, _] (s_X6_takeNumber (by exact c1) ht (by first | rfl | exact c3) hle (by omega) (by omega) (by omega)) dX6_takeSigned_18 cs_X6_77 im_X6_takeNumber (by decide) rfl rfl (by decide) (by decide) (by decide) rfl rfl (Nat.le_of_ble_eq_true rfl) (fun _ _ _ q => q.elim) (fun v n2 h2 q => ?_)
    obtain ⟨rfl, q⟩ := q
    rcases q with ⟨z0, rfl, hh⟩ | ⟨z0, rfl, hh⟩
    · obtain rfl := hh.symm
      refine ⟨rfl, ?_⟩
      dsimp only [Option.toList, List.cons_append, List.nil_append]
      refine r_if_ne (tgt := 26) dX6_takeSigned_21 (by decide) ⟨by omega, by omega⟩ (fun g21 => ?_) (fun g21 => absurd g21 (by omega))
      skip
      refine r_aload_n dX6_takeSigned_26 rfl rfl ?_
      refine r_iload_n dX6_takeSigned_27 rfl rfl ?_
      refine r_if_eq (tgt := 39) dX6_takeSigned_28 (by decide) ⟨by omega, by omega⟩ (fun g28 => ?_) (fun g28 => ?_)
      · refine r_aload_n dX6_takeSigned_39 rfl rfl ?_
        refine r_get (fs := [_, _, _, _, _, _, _, _]) dX6_takeSigned_40 fl_X6_18 (by decide) rfl rfl ?_
        refine r_put (fs := [_, _, _, _, _, _, _, _]) (fs2 := [_, _, _, _, _, _, _, _]) dX6_takeSigned_43 fp_X6_18 (by decide) rfl (nar_int _) (Nat.le_of_ble_eq_true rfl) rfl ?_
        refine r_iconst dX6_takeSigned_46 ?_
        refine r_zret dX6_takeSigned_47 (nar_z (by omega)) ?_
        first
          | exact absurd g8 g28
          | exact absurd g28 g8
          | (rw [eP, if_neg (fun q => by rw [q] at g8; exact absurd g8 (by decide))]
             exact ⟨rfl, Or.inl ⟨_, _, by unfold pNum; rw [if_pos (of_decide_eq_true z0)], by omega, rfl, by simp only [bx_uu]⟩⟩)
          | (rw [b2i_0, Bool.not_eq_false] at g8
             rw [eP, if_pos g8]
             exact ⟨rfl, Or.inl ⟨_, _, by unfold pNum; rw [if_pos (of_decide_eq_true z0)], by omega, rfl, by simp only [bx_uu]⟩⟩)
      · refine r_aload_n dX6_takeSigned_31 rfl rfl ?_
        refine r_get (fs := [_, _, _, _, _, _, _, _]) dX6_takeSigned_32 fl_X6_18 (by decide) rfl rfl ?_
        refine r_ineg dX6_takeSigned_35 ?_
        refine r_goto (tgt := 43) dX6_takeSigned_36 (by decide) ?_
        refine r_put (fs := [_, _, _, _, _, _, _, _]) (fs2 := [_, _, _, _, _, _, _, _]) dX6_takeSigned_43 fp_X6_18 (by decide) rfl (nar_int _) (Nat.le_of_ble_eq_true rfl) rfl ?_
        refine r_iconst dX6_takeSigned_46 ?_
        refine r_zret dX6_takeSigned_47 (nar_z (by omega)) ?_
        first
          | exact absurd g8 g28
          | exact absurd g28 g8
          | (rw [eP, if_neg (fun q => by rw [q] at g8; exact absurd g8 (by decide))]
             exact ⟨rfl, Or.inl ⟨_, _, by unfold pNum; rw [if_pos (of_decide_eq_true z0)], by omega, rfl, by simp only [bx_uu]⟩⟩)
          | (rw [b2i_0, Bool.not_eq_false] at g8
             rw [eP, if_pos g8]
             exact ⟨rfl, Or.inl ⟨_, _, by unfold pNum; rw [if_pos (of_decide_eq_true z0)], by omega, rfl, by simp only [bx_uu]⟩⟩)
    · obtain rfl := hh.symm
      refine ⟨rfl, ?_⟩
      dsimp only [Option.toList, List.cons_append, List.nil_append]
      refine r_if_ne (tgt := 26) dX6_takeSigned_21 (by decide) ⟨by omega, by omega⟩ (fun g21 => absurd g21 (by omega)) (fun g21 => ?_)
      refine r_iconst dX6_takeSigned_24 ?_
      refine r_zret dX6_takeSigned_25 (nar_z (by omega)) ?_
      rw [eP]
      first
        | (rw [if_neg (fun q => by rw [q] at g8; exact absurd g8 (by decide))]
           exact ⟨rfl, Or.inr ⟨_, _, _, _, _, _, by unfold pNum; rw [if_neg (of_decide_eq_false z0)], rfl, rfl⟩⟩)
        | (rw [b2i_0, Bool.not_eq_false] at g8
           rw [if_pos g8]
           exact ⟨rfl, Or.inr ⟨_, _, _, _, _, _, by unfold pNum; rw [if_neg (of_decide_eq_false z0)], rfl, bx_uu _ _ _ _⟩⟩)

theorem s_X6_begin {h : aH} {t : Nat → Int} (c1 : h 1 = .inl (1, 700, t)) (ht : ∀ j, -128 ≤ t j ∧ t j ≤ 127) {fa pl tk l0 ki en : Int} {st : Nat} {tx : Value} (c3 : h 3 = .inr (6, [iv fa, iv pl, iv tk, tx, iv l0, iv ki, iv st, iv en])) {n : Nat} (hn : n ≤ 700) : mSem yX6_begin cX6_begin 3 none 2 0 0 [.ref 3, .ref 1, iv n] 97 h (RetV (va_up h 3 (SC t 0 (-1) tk n 0))) noX := by
  refine mSem_of (own := RX6) (name := "begin") pn_X6 rfl rfl (Nat.le_of_ble_eq_true rfl) ?_
  refine r_aload_n dX6_begin_0 rfl rfl ?_
  refine r_aload_n dX6_begin_1 rfl rfl ?_
  refine r_put (fs := [_, _, _, _, _, _, _, _]) (fs2 := [_, _, _, _, _, _, _, _]) dX6_begin_2 fp_X6_21 (by decide) c3 (nar_arr _ _) (Nat.le_of_ble_eq_true rfl) rfl ?_
  refine r_aload_n dX6_begin_5 rfl rfl ?_
  refine r_aload_n dX6_begin_6 rfl rfl ?_
  refine r_ifnonnull_r (tgt := 14) dX6_begin_7 (by decide) ?_
  refine r_iconst dX6_begin_14 ?_
  refine r_iload_n dX6_begin_15 rfl rfl ?_
  refine r_aload_n dX6_begin_16 rfl rfl ?_
  refine r_alen dX6_begin_17 (by decide) c1 (by decide) ?_
  refine r_callS [_, _] (s_J9_min_7cf53 ⟨by omega, by omega⟩ ⟨by omega, by omega⟩) dX6_begin_18 cs_X6_37 sm_J9_min_7cf53 (by decide) (by decide) (by decide) rfl rfl (Nat.le_of_ble_eq_true rfl) (fun _ _ _ q => q.elim) (fun v n2 h2 q => ?_)
  obtain ⟨rfl, rfl, hh⟩ := q
  obtain rfl := hh.symm
  refine ⟨rfl, ?_⟩
  dsimp only [Option.toList, List.cons_append, List.nil_append]
  refine r_callS [_, _] (s_J9_max_7cf53 ⟨by omega, by omega⟩ ⟨by omega, by omega⟩) dX6_begin_21 cs_X6_43 sm_J9_max_7cf53 (by decide) (by decide) (by decide) rfl rfl (Nat.le_of_ble_eq_true rfl) (fun _ _ _ q => q.elim) (fun v n2 h2 q => ?_)
  obtain ⟨rfl, rfl, hh⟩ := q
  obtain rfl := hh.symm
  refine ⟨rfl, ?_⟩
  dsimp only [Option.toList, List.cons_append, List.nil_append]
  rw [show max 0 (min (n : Int) ((700 : Nat) : Int)) = (n : Int) by omega]
  refine r_put (fs := [_, _, _, _, _, _, _, _]) (fs2 := [_, _, _, _, _, _, _, _]) dX6_begin_24 fp_X6_25 (by decide) rfl (nar_int _) (Nat.le_of_ble_eq_true rfl) rfl ?_
  refine r_aload_n dX6_begin_27 rfl rfl ?_
  refine r_iconst dX6_begin_28 ?_
  refine r_put (fs := [_, _, _, _, _, _, _, _]) (fs2 := [_, _, _, _, _, _, _, _]) dX6_begin_29 fp_X6_9 (by decide) rfl (nar_int _) (Nat.le_of_ble_eq_true rfl) rfl ?_
  refine r_aload_n dX6_begin_32 rfl rfl ?_
  refine r_iconst dX6_begin_33 ?_
  refine r_put (fs := [_, _, _, _, _, _, _, _]) (fs2 := [_, _, _, _, _, _, _, _]) dX6_begin_34 fp_X6_15 (by decide) rfl (nar_int _) (Nat.le_of_ble_eq_true rfl) rfl ?_
  refine r_aload_n dX6_begin_37 rfl rfl ?_
  refine r_iconst dX6_begin_38 ?_
  refine r_put (fs := [_, _, _, _, _, _, _, _]) (fs2 := [_, _, _, _, _, _, _, _]) dX6_begin_39 fp_X6_34 (by decide) rfl (nar_int _) (Nat.le_of_ble_eq_true rfl) rfl ?_
  refine r_aload_n dX6_begin_42 rfl rfl ?_
  refine r_callV 3 [] (s_X6_advance (ki := ki) (en := 0) (st := st) (by exact c1) ht (by rfl) hn (by omega)) dX6_begin_43 cs_X6_46 im_X6_advance (by decide) rfl rfl (by decide) (by decide) (by decide) rfl rfl (Nat.le_of_ble_eq_true rfl) (fun _ _ _ q => q.elim) (fun v n2 h2 q => ?_)
  obtain ⟨rfl, rfl, hh⟩ := q
  obtain rfl := hh.symm
  refine ⟨rfl, ?_⟩
  dsimp only [Option.toList, List.cons_append, List.nil_append]
  refine r_vret dX6_begin_46 ?_
  exact ⟨rfl, rfl, by simp only [bx_uu]⟩
