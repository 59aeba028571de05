/-! ===== the law's nodes, written ===== -/
abbrev L34 (N : Int) (tv : Value) (m0 : Int) : aE := .inr (1, [iv N, .ref 35, .ref 36, .ref 37, .ref 38, .ref 39, tv, iv m0])
abbrev opD (D : LDt) (s : Int) : LDt := (D.1 + 1, va_up D.2.1 D.1 s, va_up D.2.2.1 D.1 0, va_up D.2.2.2.1 D.1 (-1), va_up D.2.2.2.2 D.1 (-1))
abbrev svD (D : LDt) (p : Nat) (v : Int) : LDt := (D.1, D.2.1, va_up D.2.2.1 p v, D.2.2.2.1, D.2.2.2.2)
abbrev fpD (D : LDt) (p : Nat) (x : Int) : LDt := (D.1, D.2.1, D.2.2.1, va_up D.2.2.2.1 p x, D.2.2.2.2)
abbrev npD (D : LDt) (p : Nat) (x : Int) : LDt := (D.1, D.2.1, D.2.2.1, D.2.2.2.1, va_up D.2.2.2.2 p x)
def LOK (D : LDt) : Prop := LInv (D.1 : Int) D.2.1 D.2.2.1 D.2.2.2.1 D.2.2.2.2
def LW (h0 h : aH) (t : Nat → Int) (nd : Int) (c : aE) (tv : Value) (m0 : Int) (D : LDt) : Prop := h 1 = .inl (1, 700, t) ∧ h 3 = c ∧ h 5 = .inr (2, [.ref 3, .ref 34, iv nd]) ∧ h 34 = L34 (D.1 : Int) tv m0 ∧ h 35 = .inl (0, 350, D.2.1) ∧ h 36 = .inl (0, 350, D.2.2.1) ∧ h 37 = .inl (0, 350, D.2.2.2.1) ∧ h 38 = .inl (0, 350, D.2.2.2.2) ∧ ∀ j, (j ≠ 3 ∧ j ≠ 5 ∧ (j < 34 ∨ 38 < j)) → h j = h0 j
/-- what stood below stays -/
def Kp (D D2 : LDt) : Prop := D.1 ≤ D2.1 ∧ ∀ j, j < D.1 → D2.2.1 j = D.2.1 j ∧ D2.2.2.1 j = D.2.2.1 j ∧ D2.2.2.2.1 j = D.2.2.2.1 j ∧ D2.2.2.2.2 j = D.2.2.2.2 j
def LQ (h0 : aH) (t : Nat → Int) (nd fa pl : Int) (le : Nat) (tv : Value) (m0 : Int) (D : LDt) (k : Nat) (b : Bool) (r : PRs) : Option Value → Nat → aH → Prop := fun v n' h' => n' = 97 ∧ ((∃ s e2 D2 tk2, r = .inr (s, e2) ∧ e2 ≤ le ∧ v = some (iv (D.1 : Int)) ∧ LW h0 h' t nd (SC t fa pl tk2 le e2) tv m0 D2 ∧ LOK D2 ∧ Kp D D2 ∧ DenL D2 D.1 D2.1 k b s ∧ D2.2.2.2.2 D.1 = -1 ∧ 2 * D2.1 ≤ e2) ∨ (∃ f p D2 tk2 ki st en, r = .inl (f, p) ∧ v = some (iv (-1)) ∧ LW h0 h' t nd (SCN f p tk2 le ki st en) tv m0 D2 ∧ LOK D2))
theorem kp_rfl (D : LDt) : Kp D D := ⟨Nat.le_refl _, fun j _ => ⟨rfl, rfl, rfl, rfl⟩⟩
theorem Kp.trans {a b c : LDt} (h1 : Kp a b) (h2 : Kp b c) : Kp a c := by
  refine ⟨Nat.le_trans h1.1 h2.1, fun j hj => ?_⟩
  obtain ⟨x1, x2, x3, x4⟩ := h1.2 j hj
  obtain ⟨y1, y2, y3, y4⟩ := h2.2 j (Nat.lt_of_lt_of_le hj h1.1)
  exact ⟨y1.trans x1, y2.trans x2, y3.trans x3, y4.trans x4⟩
theorem kp_op (D : LDt) (s : Int) : Kp D (opD D s) := by
  refine ⟨Nat.le_succ _, fun j hj => ?_⟩
  have hn : j ≠ D.1 := by omega
  exact ⟨va_up_ne _ _ hn, va_up_ne _ _ hn, va_up_ne _ _ hn, va_up_ne _ _ hn⟩
theorem kp_sv {D D1 : LDt} {p : Nat} {v : Int} (h : Kp D D1) (hp : D.1 ≤ p) : Kp D (svD D1 p v) := by
  refine ⟨h.1, fun j hj => ?_⟩
  obtain ⟨x1, x2, x3, x4⟩ := h.2 j hj
  exact ⟨x1, (va_up_ne _ _ (by omega)).trans x2, x3, x4⟩
theorem kp_fp {D D1 : LDt} {p : Nat} {v : Int} (h : Kp D D1) (hp : D.1 ≤ p) : Kp D (fpD D1 p v) := by
  refine ⟨h.1, fun j hj => ?_⟩
  obtain ⟨x1, x2, x3, x4⟩ := h.2 j hj
  exact ⟨x1, x2, (va_up_ne _ _ (by omega)).trans x3, x4⟩
theorem kp_np {D D1 : LDt} {p : Nat} {v : Int} (h : Kp D D1) (hp : D.1 ≤ p) : Kp D (npD D1 p v) := by
  refine ⟨h.1, fun j hj => ?_⟩
  obtain ⟨x1, x2, x3, x4⟩ := h.2 j hj
  exact ⟨x1, x2, x3, (va_up_ne _ _ (by omega)).trans x4⟩
theorem lok_op {D : LDt} {s : Int} (h : LOK D) (hN : D.1 < 350) (hs : 0 ≤ s ∧ s ≤ 9) : LOK (opD D s) := by
  obtain ⟨a1, a2, a3, a4, a5, a6⟩ := h
  refine ⟨⟨by dsimp only; omega, by dsimp only; omega⟩, up_R a2 hs, up_R a3 (by omega), fun j hj => ?_, up_R a5 (by omega), up_R a6 (by omega)⟩
  by_cases q : j = D.1
  · subst q; dsimp only [opD]; rw [va_up_self]; omega
  · dsimp only [opD] at hj ⊢; rw [va_up_ne _ _ q] at hj ⊢; exact a4 j hj
theorem lok_sv {D : LDt} {p : Nat} {v : Int} (h : LOK D) (hv : -720 ≤ v ∧ v ≤ 720) (h1 : D.2.1 p = 1 → 0 ≤ v ∧ v < 512) : LOK (svD D p v) := by
  obtain ⟨a1, a2, a3, a4, a5, a6⟩ := h
  refine ⟨a1, a2, up_R a3 hv, fun j hj => ?_, a5, a6⟩
  by_cases q : j = p
  · subst q; dsimp only [svD]; rw [va_up_self]; exact h1 hj
  · dsimp only [svD]; rw [va_up_ne _ _ q]; exact a4 j hj
theorem lok_fp {D : LDt} {p : Nat} {v : Int} (h : LOK D) (hv : -1 ≤ v ∧ v ≤ 350) : LOK (fpD D p v) := by
  obtain ⟨a1, a2, a3, a4, a5, a6⟩ := h
  exact ⟨a1, a2, a3, a4, up_R a5 hv, a6⟩
theorem lok_np {D : LDt} {p : Nat} {v : Int} (h : LOK D) (hv : -1 ≤ v ∧ v ≤ 350) : LOK (npD D p v) := by
  obtain ⟨a1, a2, a3, a4, a5, a6⟩ := h
  exact ⟨a1, a2, a3, a4, a5, up_R a6 hv⟩
theorem kp_den {D D2 : LDt} {lo k : Nat} {b : Bool} {s : LSm} (h : DenL D lo D.1 k b s) (g : Kp D D2) : DenL D2 lo D.1 k b s := h.move (fun j _ j2 => by
  obtain ⟨x1, x2, x3, x4⟩ := g.2 j j2
  exact ⟨x1, x2, x3, Or.inr x4⟩)
theorem fp_den {D : LDt} {lo hi k p : Nat} {b : Bool} {s : LSm} {x : Int} (h : DenL D lo hi k b s) (hp : p < lo) : DenL (fpD D p x) lo hi k b s := h.move (fun j j1 _ => ⟨rfl, rfl, va_up_ne _ _ (by omega), Or.inr rfl⟩)
theorem np_den {D : LDt} {lo hi k p : Nat} {b : Bool} {s : LSm} {x : Int} (h : DenL D lo hi k b s) (hp : p ≤ lo) : DenL (npD D p x) lo hi k b s := h.move (fun j j1 _ => ⟨rfl, rfl, rfl, by
  by_cases q : j = lo
  · exact Or.inl q
  · exact Or.inr (va_up_ne _ _ (by omega))⟩)
section
variable {D D1 D2 D3 : LDt} {k : Nat} {s s0 s1 s2 : LSm} {v : Int}
/-- the node that was opened, as it stands behind its parts -/
theorem kp_at {so : Int} (h : Kp (opD D so) D1) : D1.2.1 D.1 = so ∧ D1.2.2.1 D.1 = 0 ∧ D1.2.2.2.1 D.1 = -1 ∧ D1.2.2.2.2 D.1 = -1 := by
  obtain ⟨x1, x2, x3, x4⟩ := h.2 D.1 (Nat.lt_succ_self _)
  exact ⟨x1.trans (va_up_self _ _ _), x2.trans (va_up_self _ _ _), x3.trans (va_up_self _ _ _), x4.trans (va_up_self _ _ _)⟩
theorem mk_un {so : Int} (h : Kp (opD D so) D1) : (fpD D1 D.1 ((D.1 + 1 : Nat) : Int)).2.1 D.1 = so ∧ (fpD D1 D.1 ((D.1 + 1 : Nat) : Int)).2.2.2.1 D.1 = ((D.1 + 1 : Nat) : Int) ∧ (fpD D1 D.1 ((D.1 + 1 : Nat) : Int)).2.2.2.2 D.1 = -1 ∧ Kp D (fpD D1 D.1 ((D.1 + 1 : Nat) : Int)) := by
  obtain ⟨x1, x2, x3, x4⟩ := kp_at h
  exact ⟨x1, va_up_self _ _ _, x4, kp_fp ((kp_op D so).trans h) (Nat.le_refl _)⟩
theorem mk_not (h : Kp (opD D 6) D1) (h1 : DenL D1 (D.1 + 1) D1.1 k false s) : DenL (fpD D1 D.1 ((D.1 + 1 : Nat) : Int)) D.1 D1.1 (k + 1) false (fun tf mo => ntI (s tf mo)) := by
  obtain ⟨y1, y2, y3, y4⟩ := mk_un h
  exact den_not y1 y2 (fp_den h1 (Nat.lt_succ_self _))
theorem mk_dark (h : Kp (opD D 7) D1) (h1 : DenL D1 (D.1 + 1) D1.1 k true s) : DenL (fpD D1 D.1 ((D.1 + 1 : Nat) : Int)) D.1 D1.1 (k + 1) false (fun tf mo => dkI (s tf mo)) := by
  obtain ⟨y1, y2, y3, y4⟩ := mk_un h
  exact den_dark y1 y2 (fp_den h1 (Nat.lt_succ_self _))
theorem mk_late (h : Kp (svD (opD D 4) D.1 v) D1) (h1 : DenL D1 (D.1 + 1) D1.1 k true s) : DenL (fpD D1 D.1 ((D.1 + 1 : Nat) : Int)) D.1 D1.1 (k + 1) true (fun tf mo => laI (s tf mo) v) ∧ (fpD D1 D.1 ((D.1 + 1 : Nat) : Int)).2.2.2.2 D.1 = -1 ∧ Kp D (fpD D1 D.1 ((D.1 + 1 : Nat) : Int)) := by
  obtain ⟨x1, x2, x3, x4⟩ := h.2 D.1 (Nat.lt_succ_self _)
  refine ⟨den_late (x1.trans (va_up_self _ _ _)) (x2.trans (va_up_self _ _ _)) (va_up_self _ _ _) (fp_den h1 (Nat.lt_succ_self _)), x4.trans (va_up_self _ _ _), kp_fp ((kp_sv (kp_op D 4) (Nat.le_refl _)).trans h) (Nat.le_refl _)⟩
/-- two parts read -/
theorem mk_two {so : Int} {b : Bool} (h : Kp (opD D so) D1) (hM : D.1 + 1 < D1.1) (h1 : DenL D1 (D.1 + 1) D1.1 k b s1) (g : Kp (fpD D1 D.1 ((D.1 + 1 : Nat) : Int)) D2) (h2 : DenL D2 D1.1 D2.1 k true s2) :
    (npD D2 (D.1 + 1) (D1.1 : Int)).2.1 D.1 = so ∧ (npD D2 (D.1 + 1) (D1.1 : Int)).2.2.2.1 D.1 = ((D.1 + 1 : Nat) : Int) ∧ (npD D2 (D.1 + 1) (D1.1 : Int)).2.2.2.2 (D.1 + 1) = (D1.1 : Int) ∧ (npD D2 (D.1 + 1) (D1.1 : Int)).2.2.2.2 D.1 = -1 ∧ Kp D (npD D2 (D.1 + 1) (D1.1 : Int)) ∧ DenL (npD D2 (D.1 + 1) (D1.1 : Int)) (D.1 + 1) D1.1 k b s1 ∧ DenL (npD D2 (D.1 + 1) (D1.1 : Int)) D1.1 D2.1 k true s2 := by
  obtain ⟨y1, y2, y3, y4⟩ := mk_un h
  obtain ⟨z1, z2, z3, z4⟩ := g.2 D.1 (by show D.1 < D1.1; omega)
  refine ⟨z1.trans y1, z3.trans y2, va_up_self _ _ _, (va_up_ne _ _ (by omega)).trans (z4.trans y3), kp_np (y4.trans g) (by omega), np_den (kp_den (D := fpD D1 D.1 ((D.1 + 1 : Nat) : Int)) (fp_den h1 (Nat.lt_succ_self _)) g) (Nat.le_refl _), np_den h2 (by omega)⟩
theorem mk_three {so : Int} (h : Kp (opD D so) D1) (hM : D.1 + 1 < D1.1) (h0 : DenL D1 (D.1 + 1) D1.1 k false s0) (g : Kp (fpD D1 D.1 ((D.1 + 1 : Nat) : Int)) D2) (hM2 : D1.1 < D2.1) (h1 : DenL D2 D1.1 D2.1 k true s1) (g2 : Kp (npD D2 (D.1 + 1) (D1.1 : Int)) D3) (h2 : DenL D3 D2.1 D3.1 k true s2) :
    (npD D3 D1.1 (D2.1 : Int)).2.1 D.1 = so ∧ (npD D3 D1.1 (D2.1 : Int)).2.2.2.1 D.1 = ((D.1 + 1 : Nat) : Int) ∧ (npD D3 D1.1 (D2.1 : Int)).2.2.2.2 (D.1 + 1) = (D1.1 : Int) ∧ (npD D3 D1.1 (D2.1 : Int)).2.2.2.2 D1.1 = (D2.1 : Int) ∧ (npD D3 D1.1 (D2.1 : Int)).2.2.2.2 D.1 = -1 ∧ Kp D (npD D3 D1.1 (D2.1 : Int)) ∧ DenL (npD D3 D1.1 (D2.1 : Int)) (D.1 + 1) D1.1 k false s0 ∧ DenL (npD D3 D1.1 (D2.1 : Int)) D1.1 D2.1 k true s1 ∧ DenL (npD D3 D1.1 (D2.1 : Int)) D2.1 D3.1 k true s2 := by
  obtain ⟨y1, y2, y3, y4, y5, y6, y7⟩ := mk_two h hM h0 g h1
  obtain ⟨z1, z2, z3, z4⟩ := g2.2 D.1 (by show D.1 < D2.1; omega)
  obtain ⟨w1, w2, w3, w4⟩ := g2.2 (D.1 + 1) (by show D.1 + 1 < D2.1; omega)
  refine ⟨z1.trans y1, z3.trans y2, (va_up_ne _ _ (by omega)).trans (w4.trans y3), va_up_self _ _ _, (va_up_ne _ _ (by omega)).trans (z4.trans y4), kp_np (y5.trans g2) (by omega), ?_, np_den (kp_den (D := npD D2 (D.1 + 1) (D1.1 : Int)) y7 g2) (Nat.le_refl _), np_den h2 (by omega)⟩
  have y8 : DenL D3 (D.1 + 1) D1.1 k false s0 := y6.move (fun j _ j2 => by
    obtain ⟨x1, x2, x3, x4⟩ := g2.2 j (by show j < D2.1; omega)
    exact ⟨x1, x2, x3, Or.inr x4⟩)
  exact y8.move (fun j j1 j2 => ⟨rfl, rfl, rfl, Or.inr (va_up_ne _ _ (by omega))⟩)
end
theorem word_E {t : Nat → Int} {le e i : Nat} (he : e ≤ le) (h : wordAt t le e i = true) (h2 : 2 ≤ sLen i) : e + 2 ≤ tkE t le e := by
  have hB := tk_B t he
  unfold wordAt at h
  simp only [Bool.and_eq_true, decide_eq_true_eq] at h
  omega

theorem s_X1_clear {h : aH} {N : Nat} {m0 : Int} {tv : Value} (c34 : h 34 = L34 (N : Int) tv m0)  : mSem yX1_clear cX1_clear 1 none 0 0 0 [.ref 34] 97 h (RetV (va_up h 34 (L34 0 tv m0))) noX := by
  refine mSem_of (own := RX1) (name := "clear") pn_X1 rfl rfl (Nat.le_of_ble_eq_true rfl) ?_
  refine r_aload_n dX1_clear_0 rfl rfl ?_
  refine r_iconst dX1_clear_1 ?_
  refine r_put (fs := [_, _, _, _, _, _, _, _]) (fs2 := [_, _, _, _, _, _, _, _]) dX1_clear_2 fp_X1_9 (by decide) c34 (nar_int _) (Nat.le_of_ble_eq_true rfl) rfl ?_
  refine r_vret dX1_clear_5 ?_
  exact ⟨rfl, rfl, rfl⟩

theorem s_X1_addNode {h : aH} {N : Nat} {m0 : Int} {tv : Value} (c34 : h 34 = L34 (N : Int) tv m0) {so va fp np : Nat → Int} (c35 : h 35 = .inl (0, 350, so)) (c36 : h 36 = .inl (0, 350, va)) (c37 : h 37 = .inl (0, 350, fp)) (c38 : h 38 = .inl (0, 350, np)) {s : Int} (hN : N < 350) : mSem yX1_addNode cX1_addNode 3 (some .int) 0 0 0 [.ref 34, iv s] 97 h (Ret (N : Int) (va_up (va_up (va_up (va_up (va_up h 35 (.inl (0, 350, va_up so N s))) 36 (.inl (0, 350, va_up va N 0))) 37 (.inl (0, 350, va_up fp N (-1)))) 38 (.inl (0, 350, va_up np N (-1)))) 34 (L34 ((N + 1 : Nat) : Int) tv m0))) noX := by
  refine mSem_of (own := RX1) (name := "addNode") pn_X1 rfl rfl (Nat.le_of_ble_eq_true rfl) ?_
  refine r_aload_n dX1_addNode_0 rfl rfl ?_
  refine r_get (fs := [_, _, _, _, _, _, _, _]) dX1_addNode_1 fl_X1_9 (by decide) c34 rfl ?_
  refine r_sipush dX1_addNode_4 rfl ?_
  refine r_icmp_lt (tgt := 12) dX1_addNode_7 (by decide) ⟨by omega, by omega⟩ ⟨by omega, by omega⟩ (fun g7 => ?_) (fun g7 => absurd g7 (by omega))
  refine r_aload_n dX1_addNode_12 rfl rfl ?_
  refine r_get (fs := [_, _, _, _, _, _, _, _]) dX1_addNode_13 fl_X1_9 (by decide) c34 rfl ?_
  refine r_istore_n (lv2 := [(0, _), (1, _), (2, _)]) dX1_addNode_16 rfl (by decide) rfl rfl ?_
  refine r_aload_n dX1_addNode_17 rfl rfl ?_
  refine r_get (fs := [_, _, _, _, _, _, _, _]) dX1_addNode_18 fl_X1_15 (by decide) c34 rfl ?_
  refine r_iload_n dX1_addNode_21 rfl rfl ?_
  refine r_iload_n dX1_addNode_22 rfl rfl ?_
  refine r_ast dX1_addNode_23 (by decide) c35 (by omega) (by omega) (by decide) ?_
  refine r_aload_n dX1_addNode_24 rfl rfl ?_
  refine r_get (fs := [_, _, _, _, _, _, _, _]) dX1_addNode_25 fl_X1_19 (by decide) c34 rfl ?_
  refine r_iload_n dX1_addNode_28 rfl rfl ?_
  refine r_iconst dX1_addNode_29 ?_
  refine r_ast dX1_addNode_30 (by decide) c36 (by omega) (by omega) (by decide) ?_
  refine r_aload_n dX1_addNode_31 rfl rfl ?_
  refine r_get (fs := [_, _, _, _, _, _, _, _]) dX1_addNode_32 fl_X1_22 (by decide) c34 rfl ?_
  refine r_iload_n dX1_addNode_35 rfl rfl ?_
  refine r_iconst dX1_addNode_36 ?_
  refine r_ast dX1_addNode_37 (by decide) c37 (by omega) (by omega) (by decide) ?_
  refine r_aload_n dX1_addNode_38 rfl rfl ?_
  refine r_get (fs := [_, _, _, _, _, _, _, _]) dX1_addNode_39 fl_X1_25 (by decide) c34 rfl ?_
  refine r_iload_n dX1_addNode_42 rfl rfl ?_
  refine r_iconst dX1_addNode_43 ?_
  refine r_ast dX1_addNode_44 (by decide) c38 (by omega) (by omega) (by decide) ?_
  refine r_aload_n dX1_addNode_45 rfl rfl ?_
  refine r_dup dX1_addNode_46 rfl ?_
  refine r_get (fs := [_, _, _, _, _, _, _, _]) dX1_addNode_47 fl_X1_9 (by decide) c34 rfl ?_
  refine r_iconst dX1_addNode_50 ?_
  refine r_iadd dX1_addNode_51 ?_
  refine r_put (fs := [_, _, _, _, _, _, _, _]) (fs2 := [_, _, _, _, _, _, _, _]) dX1_addNode_52 fp_X1_9 (by decide) c34 (nar_int _) (Nat.le_of_ble_eq_true rfl) rfl ?_
  refine r_iload_n dX1_addNode_55 rfl rfl ?_
  refine r_iret dX1_addNode_56 ?_
  exact ⟨rfl, rfl, by rw [show ((N + 1 : Nat) : Int) = (N : Int) + 1 by omega, Int.toNat_natCast]⟩

theorem s_X1_isNode_34 {h : aH} {N : Nat} {m0 : Int} {tv : Value} (c34 : h 34 = L34 (N : Int) tv m0) {p : Int} (hp : -1 ≤ p ∧ p ≤ 350) (hN : N ≤ 350) : mSem yX1_isNode cX1_isNode 2 (some .boolean) 0 0 0 [.ref 34, iv p] 97 h (Ret (b2i (nodI (N : Int) p)) h) noX := by
  refine mSem_of (own := RX1) (name := "isNode") pn_X1 rfl rfl (Nat.le_of_ble_eq_true rfl) ?_
  refine r_iload_n dX1_isNode_0 rfl rfl ?_
  refine r_if_lt (tgt := 16) dX1_isNode_1 (by decide) ⟨by omega, by omega⟩ (fun g1 => ?_) (fun g1 => ?_)
  · refine r_iconst dX1_isNode_16 ?_
    refine r_zret dX1_isNode_17 (nar_z (by omega)) ?_
    exact ⟨ivE (by simp only [nodI, b2i]; simp; omega), rfl, rfl⟩
  · refine r_iload_n dX1_isNode_4 rfl rfl ?_
    refine r_aload_n dX1_isNode_5 rfl rfl ?_
    refine r_get (fs := [_, _, _, _, _, _, _, _]) dX1_isNode_6 fl_X1_9 (by decide) c34 rfl ?_
    refine r_icmp_ge (tgt := 16) dX1_isNode_9 (by decide) ⟨by omega, by omega⟩ ⟨by omega, by omega⟩ (fun g9 => ?_) (fun g9 => ?_)
    · refine r_iconst dX1_isNode_16 ?_
      refine r_zret dX1_isNode_17 (nar_z (by omega)) ?_
      exact ⟨ivE (by simp only [nodI, b2i]; simp; omega), rfl, rfl⟩
    · refine r_iconst dX1_isNode_12 ?_
      refine r_goto (tgt := 17) dX1_isNode_13 (by decide) ?_
      refine r_zret dX1_isNode_17 (nar_z (by omega)) ?_
      exact ⟨ivE (by simp only [nodI, b2i]; simp; omega), rfl, rfl⟩

theorem s_X1_setValue {h : aH} {N : Nat} {m0 : Int} {tv : Value} (c34 : h 34 = L34 (N : Int) tv m0) {va : Nat → Int} (c36 : h 36 = .inl (0, 350, va)) {p : Nat} {v : Int} (hp : p < N) (hN : N ≤ 350) : mSem yX1_setValue cX1_setValue 3 none 1 0 0 [.ref 34, iv p, iv v] 97 h (RetV (va_up h 36 (.inl (0, 350, va_up va p v)))) noX := by
  refine mSem_of (own := RX1) (name := "setValue") pn_X1 rfl rfl (Nat.le_of_ble_eq_true rfl) ?_
  refine r_aload_n dX1_setValue_0 rfl rfl ?_
  refine r_iload_n dX1_setValue_1 rfl rfl ?_
  refine r_callV 34 [_] (s_X1_isNode_34 c34 (by omega) hN) dX1_setValue_2 cs_X1_37 im_X1_isNode (by decide) c34 rfl (by decide) (by decide) (by decide) rfl rfl (Nat.le_of_ble_eq_true rfl) (fun _ _ _ q => q.elim) (fun v n2 h2 q => ?_)
  obtain ⟨rfl, rfl, hh⟩ := q
  obtain rfl := hh.symm
  refine ⟨rfl, ?_⟩
  dsimp only [Option.toList, List.cons_append, List.nil_append]
  have bb5 := b2i_01 (nodI (N : Int) (p : Int))
  rw [nod_T.mpr (show 0 ≤ (p : Int) ∧ (p : Int) < (N : Int) by omega)]
  have b1 : b2i true = 1 := rfl
  refine r_if_eq (tgt := 15) dX1_setValue_5 (by decide) ⟨by omega, by omega⟩ (fun g5 => absurd g5 (by omega)) (fun g5 => ?_)
  refine r_aload_n dX1_setValue_8 rfl rfl ?_
  refine r_get (fs := [_, _, _, _, _, _, _, _]) dX1_setValue_9 fl_X1_19 (by decide) c34 rfl ?_
  refine r_iload_n dX1_setValue_12 rfl rfl ?_
  refine r_iload_n dX1_setValue_13 rfl rfl ?_
  refine r_ast dX1_setValue_14 (by decide) c36 (by omega) (by omega) (by decide) ?_
  refine r_vret dX1_setValue_15 ?_
  exact ⟨rfl, rfl, by rw [Int.toNat_natCast]⟩

theorem s_X1_addPart_f {h : aH} {N : Nat} {m0 : Int} {tv : Value} (c34 : h 34 = L34 (N : Int) tv m0) {fp : Nat → Int} (c37 : h 37 = .inl (0, 350, fp)) {p : Nat} {x : Int} (hp : p < N) (hN : N ≤ 350) : mSem yX1_addPart cX1_addPart 4 none 1 0 0 [.ref 34, iv p, iv (-1), iv x] 97 h (RetV (va_up h 37 (.inl (0, 350, va_up fp p x)))) noX := by
  refine mSem_of (own := RX1) (name := "addPart") pn_X1 rfl rfl (Nat.le_of_ble_eq_true rfl) ?_
  refine r_aload_n dX1_addPart_0 rfl rfl ?_
  refine r_iload_n dX1_addPart_1 rfl rfl ?_
  refine r_callV 34 [_] (s_X1_isNode_34 c34 (by omega) hN) dX1_addPart_2 cs_X1_37 im_X1_isNode (by decide) c34 rfl (by decide) (by decide) (by decide) rfl rfl (Nat.le_of_ble_eq_true rfl) (fun _ _ _ q => q.elim) (fun v n2 h2 q => ?_)
  obtain ⟨rfl, rfl, hh⟩ := q
  obtain rfl := hh.symm
  refine ⟨rfl, ?_⟩
  dsimp only [Option.toList, List.cons_append, List.nil_append]
  rw [nod_F.mpr (show ¬ (0 ≤ (-1 : Int) ∧ (-1 : Int) < (N : Int)) by omega)]
  have b0 : b2i false = 0 := rfl
  refine r_if_eq (tgt := 18) dX1_addPart_5 (by decide) ⟨by omega, by omega⟩ (fun g5 => ?_) (fun g5 => absurd g5 (by omega))
  refine r_aload_n dX1_addPart_18 rfl rfl ?_
  refine r_iload_n dX1_addPart_19 rfl rfl ?_
  refine r_callV 34 [_] (s_X1_isNode_34 c34 (by omega) hN) dX1_addPart_20 cs_X1_37 im_X1_isNode (by decide) c34 rfl (by decide) (by decide) (by decide) rfl rfl (Nat.le_of_ble_eq_true rfl) (fun _ _ _ q => q.elim) (fun v n2 h2 q => ?_)
  obtain ⟨rfl, rfl, hh⟩ := q
  obtain rfl := hh.symm
  refine ⟨rfl, ?_⟩
  dsimp only [Option.toList, List.cons_append, List.nil_append]
  have bb23 := b2i_01 (nodI (N : Int) (p : Int))
  rw [nod_T.mpr (show 0 ≤ (p : Int) ∧ (p : Int) < (N : Int) by omega)]
  have b1 : b2i true = 1 := rfl
  refine r_if_eq (tgt := 33) dX1_addPart_23 (by decide) ⟨by omega, by omega⟩ (fun g23 => absurd g23 (by omega)) (fun g23 => ?_)
  refine r_aload_n dX1_addPart_26 rfl rfl ?_
  refine r_get (fs := [_, _, _, _, _, _, _, _]) dX1_addPart_27 fl_X1_22 (by decide) c34 rfl ?_
  refine r_iload_n dX1_addPart_30 rfl rfl ?_
  refine r_iload_n dX1_addPart_31 rfl rfl ?_
  refine r_ast dX1_addPart_32 (by decide) c37 (by omega) (by omega) (by decide) ?_
  refine r_vret dX1_addPart_33 ?_
  exact ⟨rfl, rfl, by rw [Int.toNat_natCast]⟩

theorem s_X1_addPart_n {h : aH} {N : Nat} {m0 : Int} {tv : Value} (c34 : h 34 = L34 (N : Int) tv m0) {np : Nat → Int} (c38 : h 38 = .inl (0, 350, np)) {q : Int} {p : Nat} {x : Int} (hp : p < N) (hN : N ≤ 350) : mSem yX1_addPart cX1_addPart 4 none 1 0 0 [.ref 34, iv q, iv p, iv x] 97 h (RetV (va_up h 38 (.inl (0, 350, va_up np p x)))) noX := by
  refine mSem_of (own := RX1) (name := "addPart") pn_X1 rfl rfl (Nat.le_of_ble_eq_true rfl) ?_
  refine r_aload_n dX1_addPart_0 rfl rfl ?_
  refine r_iload_n dX1_addPart_1 rfl rfl ?_
  refine r_callV 34 [_] (s_X1_isNode_34 c34 (by omega) hN) dX1_addPart_2 cs_X1_37 im_X1_isNode (by decide) c34 rfl (by decide) (by decide) (by decide) rfl rfl (Nat.le_of_ble_eq_true rfl) (fun _ _ _ q => q.elim) (fun v n2 h2 q => ?_)
  obtain ⟨rfl, rfl, hh⟩ := q
  obtain rfl := hh.symm
  refine ⟨rfl, ?_⟩
  dsimp only [Option.toList, List.cons_append, List.nil_append]
  have bb5 := b2i_01 (nodI (N : Int) (p : Int))
  rw [nod_T.mpr (show 0 ≤ (p : Int) ∧ (p : Int) < (N : Int) by omega)]
  have b1 : b2i true = 1 := rfl
  refine r_if_eq (tgt := 18) dX1_addPart_5 (by decide) ⟨by omega, by omega⟩ (fun g5 => absurd g5 (by omega)) (fun g5 => ?_)
  refine r_aload_n dX1_addPart_8 rfl rfl ?_
  refine r_get (fs := [_, _, _, _, _, _, _, _]) dX1_addPart_9 fl_X1_25 (by decide) c34 rfl ?_
  refine r_iload_n dX1_addPart_12 rfl rfl ?_
  refine r_iload_n dX1_addPart_13 rfl rfl ?_
  refine r_ast dX1_addPart_14 (by decide) c38 (by omega) (by omega) (by decide) ?_
  refine r_goto (tgt := 33) dX1_addPart_15 (by decide) ?_
  refine r_vret dX1_addPart_33 ?_
  exact ⟨rfl, rfl, by rw [Int.toNat_natCast]⟩

theorem s_X2_open {h0 h : aH} {t : Nat → Int} {nd fa pl tk m0 : Int} {le e : Nat} {tv : Value} {D : LDt} (pw : LW h0 h t nd (SC t fa pl tk le e) tv m0 D) (lo : LOK D) (hnd : 0 ≤ nd ∧ nd ≤ 9) (ht : ∀ j, -128 ≤ t j ∧ t j ≤ 127) (hle : le ≤ 700) (hee : e ≤ le) (h2N : 2 * D.1 ≤ e) (hw : e + 2 ≤ tkE t le e) {s : Int} : mSem yX2_open cX2_open 2 (some .int) 2 0 0 [.ref 5, iv s] 97 h (fun v n' h' => n' = 97 ∧ v = some (iv (D.1 : Int)) ∧ LW h0 h' t nd (SC t fa pl tk le (tkE t le e)) tv m0 (opD D s)) noX := by
  obtain ⟨c1, c3, c5, c34, c35, c36, c37, c38, fr⟩ := id pw
  have hB := tk_B t hee
  refine mSem_of (own := RX2) (name := "open") pn_X2 rfl rfl (Nat.le_of_ble_eq_true rfl) ?_
  refine r_aload_n dX2_open_0 rfl rfl ?_
  refine r_get (fs := [_, _, _]) dX2_open_1 fl_X2_9 (by decide) c5 rfl ?_
  refine r_callV 3 [] (s_X6_advance c1 ht (by first | rfl | exact c3) hle (by omega)) dX2_open_4 cs_X2_101 im_X6_advance (by decide) c3 rfl (by decide) (by decide) (by decide) rfl rfl (Nat.le_of_ble_eq_true rfl) (fun _ _ _ q => q.elim) (fun v n2 h2 q => ?_)
  obtain ⟨rfl, rfl, hh⟩ := q
  obtain rfl := hh.symm
  refine ⟨rfl, ?_⟩
  dsimp only [Option.toList, List.cons_append, List.nil_append]
  refine r_aload_n dX2_open_7 rfl rfl ?_
  refine r_get (fs := [_, _, _]) dX2_open_8 fl_X2_15 (by decide) c5 rfl ?_
  refine r_iload_n dX2_open_11 rfl rfl ?_
  refine r_callV 34 [_] (s_X1_addNode (by exact c34) (by exact c35) (by exact c36) (by exact c37) (by exact c38) (by omega)) dX2_open_12 cs_X2_104 im_X1_addNode (by decide) c34 rfl (by decide) (by decide) (by decide) rfl rfl (Nat.le_of_ble_eq_true rfl) (fun _ _ _ q => q.elim) (fun v n2 h2 q => ?_)
  obtain ⟨rfl, rfl, hh⟩ := q
  obtain rfl := hh.symm
  refine ⟨rfl, ?_⟩
  dsimp only [Option.toList, List.cons_append, List.nil_append]
  refine r_iret dX2_open_15 ?_
  exact ⟨rfl, rfl, ⟨(by first | rfl | exact c1), (by first | rfl | exact c3), (by first | rfl | exact c5), (by first | rfl | exact c34), (by first | rfl | exact c35), (by first | rfl | exact c36), (by first | rfl | exact c37), (by first | rfl | exact c38), (fun j hj => by obtain ⟨a1, a2, a3⟩ := hj; try simp only [va_up]; (repeat rw [if_neg (by omega)]); exact fr j ⟨a1, a2, a3⟩)⟩⟩

theorem s_X2_addPart_o {h0 h : aH} {t : Nat → Int} {nd m0 : Int} {tv : Value} {D : LDt} {c : aE} (pw : LW h0 h t nd c tv m0 D) {a b : Int} : mSem yX2_addPart cX2_addPart 4 (some .boolean) 2 0 0 [.ref 5, iv a, iv b, iv (-1)] 97 h (Ret 0 h) noX := by
  obtain ⟨c1, c3, c5, c34, c35, c36, c37, c38, fr⟩ := id pw
  refine mSem_of (own := RX2) (name := "addPart") pn_X2 rfl rfl (Nat.le_of_ble_eq_true rfl) ?_
  refine r_iload_n dX2_addPart_0 rfl rfl ?_
  refine r_iconst dX2_addPart_1 ?_
  refine r_icmp_ne (tgt := 7) dX2_addPart_2 (by decide) ⟨by omega, by omega⟩ ⟨by omega, by omega⟩ (fun g2 => absurd g2 (by omega)) (fun g2 => ?_)
  refine r_iconst dX2_addPart_5 ?_
  refine r_zret dX2_addPart_6 (nar_z (by omega)) ?_
  exact ⟨rfl, rfl, rfl⟩

theorem s_X2_addPart_f {h0 h : aH} {t : Nat → Int} {nd m0 : Int} {tv : Value} {D : LDt} {c : aE} (pw : LW h0 h t nd c tv m0 D) {x : Int} {p : Nat} (hp : p < D.1) (hN : D.1 ≤ 350) (hx : 0 ≤ x ∧ x ≤ 350) : mSem yX2_addPart cX2_addPart 4 (some .boolean) 2 0 0 [.ref 5, iv p, iv (-1), iv x] 97 h (fun v n' h' => n' = 97 ∧ v = some (iv 1) ∧ LW h0 h' t nd c tv m0 (fpD D p x)) noX := by
  obtain ⟨c1, c3, c5, c34, c35, c36, c37, c38, fr⟩ := id pw
  refine mSem_of (own := RX2) (name := "addPart") pn_X2 rfl rfl (Nat.le_of_ble_eq_true rfl) ?_
  refine r_iload_n dX2_addPart_0 rfl rfl ?_
  refine r_iconst dX2_addPart_1 ?_
  refine r_icmp_ne (tgt := 7) dX2_addPart_2 (by decide) ⟨by omega, by omega⟩ ⟨by omega, by omega⟩ (fun g2 => ?_) (fun g2 => absurd g2 (by omega))
  refine r_aload_n dX2_addPart_7 rfl rfl ?_
  refine r_get (fs := [_, _, _]) dX2_addPart_8 fl_X2_15 (by decide) c5 rfl ?_
  refine r_iload_n dX2_addPart_11 rfl rfl ?_
  refine r_iload_n dX2_addPart_12 rfl rfl ?_
  refine r_iload_n dX2_addPart_13 rfl rfl ?_
  refine r_callV 34 [_, _, _] (s_X1_addPart_f c34 c37 hp hN) dX2_addPart_14 cs_X2_107 im_X1_addPart (by decide) c34 rfl (by decide) (by decide) (by decide) rfl rfl (Nat.le_of_ble_eq_true rfl) (fun _ _ _ q => q.elim) (fun v n2 h2 q => ?_)
  obtain ⟨rfl, rfl, hh⟩ := q
  obtain rfl := hh.symm
  refine ⟨rfl, ?_⟩
  dsimp only [Option.toList, List.cons_append, List.nil_append]
  refine r_iconst dX2_addPart_17 ?_
  refine r_zret dX2_addPart_18 (nar_z (by omega)) ?_
  exact ⟨rfl, rfl, ⟨(by first | rfl | exact c1), (by first | rfl | exact c3), (by first | rfl | exact c5), (by first | rfl | exact c34), (by first | rfl | exact c35), (by first | rfl | exact c36), (by first | rfl | exact c37), (by first | rfl | exact c38), (fun j hj => by obtain ⟨a1, a2, a3⟩ := hj; try simp only [va_up]; (repeat rw [if_neg (by omega)]); exact fr j ⟨a1, a2, a3⟩)⟩⟩

theorem s_X2_addPart_n {h0 h : aH} {t : Nat → Int} {nd m0 : Int} {tv : Value} {D : LDt} {c : aE} (pw : LW h0 h t nd c tv m0 D) {r x : Int} {p : Nat} (hp : p < D.1) (hN : D.1 ≤ 350) (hx : 0 ≤ x ∧ x ≤ 350) : mSem yX2_addPart cX2_addPart 4 (some .boolean) 2 0 0 [.ref 5, iv r, iv p, iv x] 97 h (fun v n' h' => n' = 97 ∧ v = some (iv 1) ∧ LW h0 h' t nd c tv m0 (npD D p x)) noX := by
  obtain ⟨c1, c3, c5, c34, c35, c36, c37, c38, fr⟩ := id pw
  refine mSem_of (own := RX2) (name := "addPart") pn_X2 rfl rfl (Nat.le_of_ble_eq_true rfl) ?_
  refine r_iload_n dX2_addPart_0 rfl rfl ?_
  refine r_iconst dX2_addPart_1 ?_
  refine r_icmp_ne (tgt := 7) dX2_addPart_2 (by decide) ⟨by omega, by omega⟩ ⟨by omega, by omega⟩ (fun g2 => ?_) (fun g2 => absurd g2 (by omega))
  refine r_aload_n dX2_addPart_7 rfl rfl ?_
  refine r_get (fs := [_, _, _]) dX2_addPart_8 fl_X2_15 (by decide) c5 rfl ?_
  refine r_iload_n dX2_addPart_11 rfl rfl ?_
  refine r_iload_n dX2_addPart_12 rfl rfl ?_
  refine r_iload_n dX2_addPart_13 rfl rfl ?_
  refine r_callV 34 [_, _, _] (s_X1_addPart_n c34 c38 hp hN) dX2_addPart_14 cs_X2_107 im_X1_addPart (by decide) c34 rfl (by decide) (by decide) (by decide) rfl rfl (Nat.le_of_ble_eq_true rfl) (fun _ _ _ q => q.elim) (fun v n2 h2 q => ?_)
  obtain ⟨rfl, rfl, hh⟩ := q
  obtain rfl := hh.symm
  refine ⟨rfl, ?_⟩
  dsimp only [Option.toList, List.cons_append, List.nil_append]
  refine r_iconst dX2_addPart_17 ?_
  refine r_zret dX2_addPart_18 (nar_z (by omega)) ?_
  exact ⟨rfl, rfl, ⟨(by first | rfl | exact c1), (by first | rfl | exact c3), (by first | rfl | exact c5), (by first | rfl | exact c34), (by first | rfl | exact c35), (by first | rfl | exact c36), (by first | rfl | exact c37), (by first | rfl | exact c38), (fun j hj => by obtain ⟨a1, a2, a3⟩ := hj; try simp only [va_up]; (repeat rw [if_neg (by omega)]); exact fr j ⟨a1, a2, a3⟩)⟩⟩

theorem s_X2_canBegin {h0 h : aH} {t : Nat → Int} {nd fa pl tk m0 : Int} {le e : Nat} {tv : Value} {D : LDt} (pw : LW h0 h t nd (SC t fa pl tk le e) tv m0 D) (lo : LOK D) (hnd : 0 ≤ nd ∧ nd ≤ 9) (ht : ∀ j, -128 ≤ t j ∧ t j ≤ 127) (hle : le ≤ 700) (hee : e ≤ le) (h2N : 2 * D.1 ≤ e) {lv : Int} (hlv : 0 ≤ lv ∧ lv ≤ 12) : mSem yX2_canBegin cX2_canBegin 2 (some .boolean) 1 0 0 [.ref 5, iv lv] 97 h (fun v n' h' => n' = 97 ∧ ((tkK t le e = 1 ∧ lv < 12 ∧ v = some (iv 1) ∧ h' = h) ∨ (¬ (tkK t le e = 1 ∧ lv < 12) ∧ v = some (iv 0) ∧ h' = va_up h 3 (SCN (if tkK t le e = 1 then 2 else 1) (tkS t le e) tk le (tkK t le e) (tkS t le e) (tkE t le e))))) noX := by
  obtain ⟨c1, c3, c5, c34, c35, c36, c37, c38, fr⟩ := id pw
  have hB := tk_B t hee
  refine mSem_of (own := RX2) (name := "canBegin") pn_X2 rfl rfl (Nat.le_of_ble_eq_true rfl) ?_
  refine r_aload_n dX2_canBegin_0 rfl rfl ?_
  refine r_get (fs := [_, _, _]) dX2_canBegin_1 fl_X2_9 (by decide) c5 rfl ?_
  refine r_callV 3 [] (s_X6_isAnyWord c1 ht (by first | rfl | exact c3) hle (by omega)) dX2_canBegin_4 cs_X2_42 im_X6_isAnyWord (by decide) c3 rfl (by decide) (by decide) (by decide) rfl rfl (Nat.le_of_ble_eq_true rfl) (fun _ _ _ q => q.elim) (fun v n2 h2 q => ?_)
  obtain ⟨rfl, rfl, hh⟩ := q
  obtain rfl := hh.symm
  refine ⟨rfl, ?_⟩
  dsimp only [Option.toList, List.cons_append, List.nil_append]
  have kb := b2i_01 (decide (tkK t le e = 1))
  refine r_if_ne (tgt := 19) dX2_canBegin_7 (by decide) ⟨by omega, by omega⟩ (fun g7 => ?_) (fun g7 => ?_)
  · rw [b2i_0, decide_eq_false_iff_not, Decidable.not_not] at g7
    refine r_iload_n dX2_canBegin_19 rfl rfl ?_
    refine r_bipush dX2_canBegin_20 rfl ?_
    refine r_icmp_lt (tgt := 36) dX2_canBegin_22 (by decide) ⟨by omega, by omega⟩ ⟨by omega, by omega⟩ (fun g22 => ?_) (fun g22 => ?_)
    · refine r_iconst dX2_canBegin_36 ?_
      refine r_goto (tgt := 41) dX2_canBegin_37 (by decide) ?_
      refine r_zret dX2_canBegin_41 (nar_z (by omega)) ?_
      first
        | exact ⟨rfl, Or.inl ⟨g7, g22, rfl, rfl⟩⟩
        | exact ⟨rfl, Or.inr ⟨fun z => g22 z.2, rfl, by rw [if_pos g7]⟩⟩
    · refine r_aload_n dX2_canBegin_25 rfl rfl ?_
      refine r_get (fs := [_, _, _]) dX2_canBegin_26 fl_X2_9 (by decide) c5 rfl ?_
      refine r_iconst dX2_canBegin_29 ?_
      refine r_callV 3 [_] (s_X6_refuse c3) dX2_canBegin_30 cs_X2_38 im_X6_refuse (by decide) c3 rfl (by decide) (by decide) (by decide) rfl rfl (Nat.le_of_ble_eq_true rfl) (fun _ _ _ q => q.elim) (fun v n2 h2 q => ?_)
      obtain ⟨rfl, rfl, hh⟩ := q
      obtain rfl := hh.symm
      refine ⟨rfl, ?_⟩
      dsimp only [Option.toList, List.cons_append, List.nil_append]
      refine r_if_eq (tgt := 40) dX2_canBegin_33 (by decide) ⟨by omega, by omega⟩ (fun g33 => ?_) (fun g33 => absurd g33 (by omega))
      refine r_iconst dX2_canBegin_40 ?_
      refine r_zret dX2_canBegin_41 (nar_z (by omega)) ?_
      first
        | exact ⟨rfl, Or.inl ⟨g7, g22, rfl, rfl⟩⟩
        | exact ⟨rfl, Or.inr ⟨fun z => g22 z.2, rfl, by rw [if_pos g7]⟩⟩
  · rw [b2i_0, decide_eq_false_iff_not] at g7
    refine r_aload_n dX2_canBegin_10 rfl rfl ?_
    refine r_get (fs := [_, _, _]) dX2_canBegin_11 fl_X2_9 (by decide) c5 rfl ?_
    refine r_iconst dX2_canBegin_14 ?_
    refine r_callV 3 [_] (s_X6_refuse c3) dX2_canBegin_15 cs_X2_38 im_X6_refuse (by decide) c3 rfl (by decide) (by decide) (by decide) rfl rfl (Nat.le_of_ble_eq_true rfl) (fun _ _ _ q => q.elim) (fun v n2 h2 q => ?_)
    obtain ⟨rfl, rfl, hh⟩ := q
    obtain rfl := hh.symm
    refine ⟨rfl, ?_⟩
    dsimp only [Option.toList, List.cons_append, List.nil_append]
    refine r_zret dX2_canBegin_18 (nar_z (by omega)) ?_
    exact ⟨rfl, Or.inr ⟨fun z => g7 z.1, rfl, by rw [if_neg g7]⟩⟩
