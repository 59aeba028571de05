/-! ===== the public methods: what is asked and noted ===== -/
theorem fr_up {h0 h : aH} {k : Nat} {e : aE} (f : FrC h0 h) (hk : k < 68) : FrC h0 (va_up h k e) := by
  intro j hj
  rw [va_up_ne _ _ (by omega)]
  exact f j hj
theorem snc_up {se : Nat → Int} {di to : Int} (h0 : 0 ≤ di) (hs : se di.toNat = -1) (ht : ¬ to = -1) : ∀ k, snc (va_up se di.toNat to) k = snc se k + (if di < (k : Nat) then 1 else 0) := by
  intro k
  induction k with
  | zero => simp [snc]; omega
  | succ k ih =>
    unfold snc
    rw [ih]
    by_cases c : k = di.toNat
    · subst c
      rw [va_up_self, if_neg ht, hs]
      simp only [if_true]
      split <;> split <;> omega
    · rw [va_up_ne _ _ c]
      split <;> split <;> split <;> omega
theorem snc_B (se : Nat → Int) : ∀ k : Nat, 0 ≤ snc se k ∧ snc se k ≤ k := by
  intro k
  induction k with
  | zero => exact ⟨Int.le_refl _, Int.le_refl _⟩
  | succ k ih => unfold snc; split <;> omega
theorem snc_fill (se : Nat → Int) : ∀ k, k ≤ 9 → snc (fillF se (-1) 9) k = 0 := by
  intro k
  induction k with
  | zero => intro _; rfl
  | succ k ih =>
    intro hk
    unfold snc
    rw [ih (by omega)]
    simp [fillF, show k < 9 by omega]
theorem snc_cpy (a b : Nat → Int) : ∀ k, k ≤ 9 → snc (cpyF a b 9) k = snc a k := by
  intro k
  induction k with
  | zero => intro _; rfl
  | succ k ih =>
    intro hk
    unfold snc
    rw [ih (by omega)]
    simp [cpyF, show k < 9 by omega]
theorem cpy_R {a b : Nat → Int} {n : Nat} {lo hi : Int} (h1 : ∀ j, lo ≤ a j ∧ a j ≤ hi) (h2 : ∀ j, lo ≤ b j ∧ b j ≤ hi) : ∀ j, lo ≤ cpyF a b n j ∧ cpyF a b n j ≤ hi := by
  intro j
  unfold cpyF
  split
  · exact h1 j
  · exact h2 j
theorem cpy_L {a b : Nat → Int} {n : Nat} {lo hi : Int} (h1 : ∀ j, lo ≤ a j ∧ a j < hi) (h2 : ∀ j, lo ≤ b j ∧ b j < hi) : ∀ j, lo ≤ cpyF a b n j ∧ cpyF a b n j < hi := by
  intro j
  unfold cpyF
  split
  · exact h1 j
  · exact h2 j
theorem fill_L {f : Nat → Int} {lo hi v : Int} {n : Nat} (h : ∀ j, lo ≤ f j ∧ f j < hi) (hv : lo ≤ v ∧ v < hi) : ∀ j, lo ≤ fillF f v n j ∧ fillF f v n j < hi := by
  intro j
  unfold fillF
  split
  · exact hv
  · exact h j
def cntB (w : Int) : Bool := decide ((0 ≤ w ∧ w ≤ 10) ∨ (20 ≤ w ∧ w < 32))
def cntV (nd sw nc nr ns nm : Int) (tp : Nat) (L rf : Nat → Int) (w : Int) : Int := if 20 ≤ w ∧ w < 32 then L (w - 20).toNat else if 7 ≤ w ∧ w ≤ 10 then rf (w - 7).toNat else if w = 0 then nd else if w = 1 then sw else if w = 2 then nc else if w = 3 then nr else if w = 4 then ns else if w = 5 then nm else tp
def diaV (K U I O G : Nat → Int) (di w : Int) : Int := if w = 0 then K di.toNat else if w = 1 then U di.toNat else if w = 2 then I di.toNat else if w = 3 then O di.toNat else G di.toNat
def cpyN (a b : ND) : ND := (a.1, cpyF a.2.1 b.2.1 12, cpyF a.2.2.1 b.2.2.1 12, cpyF a.2.2.2.1 b.2.2.2.1 12, cpyF a.2.2.2.2.1 b.2.2.2.2.1 12, cpyF a.2.2.2.2.2.1 b.2.2.2.2.2.1 9, cpyF a.2.2.2.2.2.2.1 b.2.2.2.2.2.2.1 40, cpyF a.2.2.2.2.2.2.2.1 b.2.2.2.2.2.2.2.1 40, cpyF a.2.2.2.2.2.2.2.2 b.2.2.2.2.2.2.2.2 40)

theorem s_X8_fault {h : aH} {t : Nat → Int} {tp : Nat} {fpl hlaw himg : Int} {rf : Nat → Int} {nd sw nc hl hs : Int} {K U I O G L cf ct fc nx cd : Nat → Int} {nr ns nm : Int} {rd ry rm rt se md my mt : Nat → Int} {M : ND} {ls : LSm} (cc : CanC h (t, tp, fpl, rf, hlaw, himg, ((nd, sw, nc), (hl, hs), K, U, I, O, G, L, cf, ct, fc, nx, cd), ((nr, ns, nm), rd, ry, rm, rt, se, md, my, mt), M, ls))  : mSem yX8_fault cX8_fault 1 (some .int) 6 0 0 [.ref 0] 97 h (PubQ (ocL []) (some (iv fpl)) h (t, tp, fpl, rf, hlaw, himg, ((nd, sw, nc), (hl, hs), K, U, I, O, G, L, cf, ct, fc, nx, cd), ((nr, ns, nm), rd, ry, rm, rt, se, md, my, mt), M, ls)) (PubX (ocL []) h (t, tp, fpl, rf, hlaw, himg, ((nd, sw, nc), (hl, hs), K, U, I, O, G, L, cf, ct, fc, nx, cd), ((nr, ns, nm), rd, ry, rm, rt, se, md, my, mt), M, ls)) := by
  obtain ⟨c0, c1, c2, ⟨ht, htp, phl, phi⟩, pC, nC, mC, lC, s3, s4, s5, s17, s34, s58, s62, s65, s66, s67⟩ := id cc
  obtain ⟨c6, c7, c8, c9, c10, c11, c12, c13, c14, c15, c16, pi⟩ := id pC
  obtain ⟨c40, c41, c42, c43, c44, c45, c46, c47, c48, ni, nsn⟩ := id nC
  obtain ⟨pnd, psw, pnc, pK, pU, pI, pO, pG, pL, pcf, pct, pfc, pnx⟩ := id pi
  obtain ⟨pnr, pns, pnm, prd, pry, prm, prt, pse, pmd, pmy, pmt⟩ := id ni
  refine mSem_of (own := RX8) (name := "fault") pn_X8 rfl rfl (Nat.le_of_ble_eq_true rfl) ?_
  refine r_aload_n dX8_fault_0 rfl rfl ?_
  refine r_get (fs := [_, _, _, _, _, _, _, _, _, _, _, _, _, _, _, _, _, _, _, _]) dX8_fault_1 fl_X8_17 (by decide) c0 rfl ?_
  refine r_iret dX8_fault_4 ?_
  exact ⟨(by simp [ocL]), rfl, rfl, cls_of cc, (fun _ _ => rfl)⟩

theorem s_X8_count {h : aH} {t : Nat → Int} {tp : Nat} {fpl hlaw himg : Int} {rf : Nat → Int} {nd sw nc hl hs : Int} {K U I O G L cf ct fc nx cd : Nat → Int} {nr ns nm : Int} {rd ry rm rt se md my mt : Nat → Int} {M : ND} {ls : LSm} (cc : CanC h (t, tp, fpl, rf, hlaw, himg, ((nd, sw, nc), (hl, hs), K, U, I, O, G, L, cf, ct, fc, nx, cd), ((nr, ns, nm), rd, ry, rm, rt, se, md, my, mt), M, ls)) {w : Int} (iw : inR w)  : mSem yX8_count cX8_count 2 (some .int) 7 1 6 [.ref 0, iv w] 97 h (PubQ (ocL [(cntB w, 1)]) (some (iv (cntV nd sw nc nr ns nm tp L rf w))) h (t, tp, fpl, rf, hlaw, himg, ((nd, sw, nc), (hl, hs), K, U, I, O, G, L, cf, ct, fc, nx, cd), ((nr, ns, nm), rd, ry, rm, rt, se, md, my, mt), M, ls)) (PubX (ocL [(cntB w, 1)]) h (t, tp, fpl, rf, hlaw, himg, ((nd, sw, nc), (hl, hs), K, U, I, O, G, L, cf, ct, fc, nx, cd), ((nr, ns, nm), rd, ry, rm, rt, se, md, my, mt), M, ls)) := by
  obtain ⟨c0, c1, c2, ⟨ht, htp, phl, phi⟩, pC, nC, mC, lC, s3, s4, s5, s17, s34, s58, s62, s65, s66, s67⟩ := id cc
  obtain ⟨c6, c7, c8, c9, c10, c11, c12, c13, c14, c15, c16, pi⟩ := id pC
  obtain ⟨c40, c41, c42, c43, c44, c45, c46, c47, c48, ni, nsn⟩ := id nC
  obtain ⟨pnd, psw, pnc, pK, pU, pI, pO, pG, pL, pcf, pct, pfc, pnx⟩ := id pi
  obtain ⟨pnr, pns, pnm, prd, pry, prm, prt, pse, pmd, pmy, pmt⟩ := id ni
  unfold inR at iw
  refine mSem_of (own := RX8) (name := "count") pn_X8 rfl rfl (Nat.le_of_ble_eq_true rfl) ?_
  refine r_iload_n dX8_count_0 rfl rfl ?_
  refine r_bipush dX8_count_1 rfl ?_
  refine r_icmp_lt (tgt := 25) dX8_count_3 (by decide) ⟨by omega, by omega⟩ ⟨by omega, by omega⟩ (fun g3 => ?_) (fun g3 => ?_)
  · refine r_iload_n dX8_count_25 rfl rfl ?_
    refine r_bipush dX8_count_26 rfl ?_
    refine r_icmp_lt (tgt := 47) dX8_count_28 (by decide) ⟨by omega, by omega⟩ ⟨by omega, by omega⟩ (fun g28 => ?_) (fun g28 => ?_)
    · refine r_iload_n dX8_count_47 rfl rfl ?_
      refine r_tsw7 (td := 145) (t0 := 92) (t1 := 100) (t2 := 108) (t3 := 116) (t4 := 124) (t5 := 132) (t6 := 140) dX8_count_48 rfl ⟨by omega, by omega⟩ (by decide) (by decide) (by decide) (by decide) (by decide) (by decide) (by decide) (by decide) (fun g48 => ?_) (fun g48 => ?_) (fun g48 => ?_) (fun g48 => ?_) (fun g48 => ?_) (fun g48 => ?_) (fun g48 => ?_) (fun g48 => ?_)
      · refine r_throwN (is := 204) (i := 28) (k := 2) (tx := "no such count") (by decide +kernel) dX8_count_145 dX8_count_148 (Or.inl ⟨dX8_count_149, rfl⟩) dX8_count_151 dX8_count_154 (by decide) (by decide) (by decide) (Nat.le_of_ble_eq_true rfl) ?_
        exact ⟨Or.inl ⟨by simp [ocL, cntB]; omega, rfl⟩, rfl, cls_of cc, fun _ _ => rfl⟩
      · refine r_aload_n dX8_count_92 rfl rfl ?_
        refine r_get (fs := [_, _, _, _, _, _, _, _, _, _, _, _, _, _, _, _, _, _, _, _]) dX8_count_93 fl_X8_48 (by decide) c0 rfl ?_
        refine r_get (fs := [_, _, _, _, _, _, _, _, _, _, _, _, _]) dX8_count_96 fl_X8_127 (by decide) c6 rfl ?_
        refine r_iret dX8_count_99 ?_
        exact ⟨by simp [ocL, cntB]; omega, (ivE (by unfold cntV; rw [if_neg (by omega), if_neg (by omega), if_pos (by omega)])), rfl, cls_of cc, fun _ _ => rfl⟩
      · refine r_aload_n dX8_count_100 rfl rfl ?_
        refine r_get (fs := [_, _, _, _, _, _, _, _, _, _, _, _, _, _, _, _, _, _, _, _]) dX8_count_101 fl_X8_48 (by decide) c0 rfl ?_
        refine r_get (fs := [_, _, _, _, _, _, _, _, _, _, _, _, _]) dX8_count_104 fl_X8_187 (by decide) c6 rfl ?_
        refine r_iret dX8_count_107 ?_
        exact ⟨by simp [ocL, cntB]; omega, (ivE (by unfold cntV; rw [if_neg (by omega), if_neg (by omega), if_neg (by omega), if_pos (by omega)])), rfl, cls_of cc, fun _ _ => rfl⟩
      · refine r_aload_n dX8_count_108 rfl rfl ?_
        refine r_get (fs := [_, _, _, _, _, _, _, _, _, _, _, _, _, _, _, _, _, _, _, _]) dX8_count_109 fl_X8_48 (by decide) c0 rfl ?_
        refine r_get (fs := [_, _, _, _, _, _, _, _, _, _, _, _, _]) dX8_count_112 fl_X8_190 (by decide) c6 rfl ?_
        refine r_iret dX8_count_115 ?_
        exact ⟨by simp [ocL, cntB]; omega, (ivE (by unfold cntV; rw [if_neg (by omega), if_neg (by omega), if_neg (by omega), if_neg (by omega), if_pos (by omega)])), rfl, cls_of cc, fun _ _ => rfl⟩
      · refine r_aload_n dX8_count_116 rfl rfl ?_
        refine r_get (fs := [_, _, _, _, _, _, _, _, _, _, _, _, _, _, _, _, _, _, _, _]) dX8_count_117 fl_X8_72 (by decide) c0 rfl ?_
        refine r_get (fs := [_, _, _, _, _, _, _, _, _, _, _]) dX8_count_120 fl_X8_193 (by decide) c40 rfl ?_
        refine r_iret dX8_count_123 ?_
        exact ⟨by simp [ocL, cntB]; omega, (ivE (by unfold cntV; rw [if_neg (by omega), if_neg (by omega), if_neg (by omega), if_neg (by omega), if_neg (by omega), if_pos (by omega)])), rfl, cls_of cc, fun _ _ => rfl⟩
      · refine r_aload_n dX8_count_124 rfl rfl ?_
        refine r_get (fs := [_, _, _, _, _, _, _, _, _, _, _, _, _, _, _, _, _, _, _, _]) dX8_count_125 fl_X8_72 (by decide) c0 rfl ?_
        refine r_get (fs := [_, _, _, _, _, _, _, _, _, _, _]) dX8_count_128 fl_X8_196 (by decide) c40 rfl ?_
        refine r_iret dX8_count_131 ?_
        exact ⟨by simp [ocL, cntB]; omega, (ivE (by unfold cntV; rw [if_neg (by omega), if_neg (by omega), if_neg (by omega), if_neg (by omega), if_neg (by omega), if_neg (by omega), if_pos (by omega)])), rfl, cls_of cc, fun _ _ => rfl⟩
      · refine r_aload_n dX8_count_132 rfl rfl ?_
        refine r_get (fs := [_, _, _, _, _, _, _, _, _, _, _, _, _, _, _, _, _, _, _, _]) dX8_count_133 fl_X8_72 (by decide) c0 rfl ?_
        refine r_get (fs := [_, _, _, _, _, _, _, _, _, _, _]) dX8_count_136 fl_X8_199 (by decide) c40 rfl ?_
        refine r_iret dX8_count_139 ?_
        exact ⟨by simp [ocL, cntB]; omega, (ivE (by unfold cntV; rw [if_neg (by omega), if_neg (by omega), if_neg (by omega), if_neg (by omega), if_neg (by omega), if_neg (by omega), if_neg (by omega), if_pos (by omega)])), rfl, cls_of cc, fun _ _ => rfl⟩
      · refine r_aload_n dX8_count_140 rfl rfl ?_
        refine r_get (fs := [_, _, _, _, _, _, _, _, _, _, _, _, _, _, _, _, _, _, _, _]) dX8_count_141 fl_X8_13 (by decide) c0 rfl ?_
        refine r_iret dX8_count_144 ?_
        exact ⟨by simp [ocL, cntB]; omega, (ivE (by unfold cntV; rw [if_neg (by omega), if_neg (by omega), if_neg (by omega), if_neg (by omega), if_neg (by omega), if_neg (by omega), if_neg (by omega), if_neg (by omega)])), rfl, cls_of cc, fun _ _ => rfl⟩
    · refine r_iload_n dX8_count_31 rfl rfl ?_
      refine r_bipush dX8_count_32 rfl ?_
      refine r_icmp_gt (tgt := 47) dX8_count_34 (by decide) ⟨by omega, by omega⟩ ⟨by omega, by omega⟩ (fun g34 => ?_) (fun g34 => ?_)
      · refine r_iload_n dX8_count_47 rfl rfl ?_
        refine r_tsw7 (td := 145) (t0 := 92) (t1 := 100) (t2 := 108) (t3 := 116) (t4 := 124) (t5 := 132) (t6 := 140) dX8_count_48 rfl ⟨by omega, by omega⟩ (by decide) (by decide) (by decide) (by decide) (by decide) (by decide) (by decide) (by decide) (fun g48 => ?_) (fun g48 => ?_) (fun g48 => ?_) (fun g48 => ?_) (fun g48 => ?_) (fun g48 => ?_) (fun g48 => ?_) (fun g48 => ?_)
        · refine r_throwN (is := 204) (i := 28) (k := 2) (tx := "no such count") (by decide +kernel) dX8_count_145 dX8_count_148 (Or.inl ⟨dX8_count_149, rfl⟩) dX8_count_151 dX8_count_154 (by decide) (by decide) (by decide) (Nat.le_of_ble_eq_true rfl) ?_
          exact ⟨Or.inl ⟨by simp [ocL, cntB]; omega, rfl⟩, rfl, cls_of cc, fun _ _ => rfl⟩
        · refine r_aload_n dX8_count_92 rfl rfl ?_
          refine r_get (fs := [_, _, _, _, _, _, _, _, _, _, _, _, _, _, _, _, _, _, _, _]) dX8_count_93 fl_X8_48 (by decide) c0 rfl ?_
          refine r_get (fs := [_, _, _, _, _, _, _, _, _, _, _, _, _]) dX8_count_96 fl_X8_127 (by decide) c6 rfl ?_
          refine r_iret dX8_count_99 ?_
          exact ⟨by simp [ocL, cntB]; omega, (ivE (by unfold cntV; rw [if_neg (by omega), if_neg (by omega), if_pos (by omega)])), rfl, cls_of cc, fun _ _ => rfl⟩
        · refine r_aload_n dX8_count_100 rfl rfl ?_
          refine r_get (fs := [_, _, _, _, _, _, _, _, _, _, _, _, _, _, _, _, _, _, _, _]) dX8_count_101 fl_X8_48 (by decide) c0 rfl ?_
          refine r_get (fs := [_, _, _, _, _, _, _, _, _, _, _, _, _]) dX8_count_104 fl_X8_187 (by decide) c6 rfl ?_
          refine r_iret dX8_count_107 ?_
          exact ⟨by simp [ocL, cntB]; omega, (ivE (by unfold cntV; rw [if_neg (by omega), if_neg (by omega), if_neg (by omega), if_pos (by omega)])), rfl, cls_of cc, fun _ _ => rfl⟩
        · refine r_aload_n dX8_count_108 rfl rfl ?_
          refine r_get (fs := [_, _, _, _, _, _, _, _, _, _, _, _, _, _, _, _, _, _, _, _]) dX8_count_109 fl_X8_48 (by decide) c0 rfl ?_
          refine r_get (fs := [_, _, _, _, _, _, _, _, _, _, _, _, _]) dX8_count_112 fl_X8_190 (by decide) c6 rfl ?_
          refine r_iret dX8_count_115 ?_
          exact ⟨by simp [ocL, cntB]; omega, (ivE (by unfold cntV; rw [if_neg (by omega), if_neg (by omega), if_neg (by omega), if_neg (by omega), if_pos (by omega)])), rfl, cls_of cc, fun _ _ => rfl⟩
        · refine r_aload_n dX8_count_116 rfl rfl ?_
          refine r_get (fs := [_, _, _, _, _, _, _, _, _, _, _, _, _, _, _, _, _, _, _, _]) dX8_count_117 fl_X8_72 (by decide) c0 rfl ?_
          refine r_get (fs := [_, _, _, _, _, _, _, _, _, _, _]) dX8_count_120 fl_X8_193 (by decide) c40 rfl ?_
          refine r_iret dX8_count_123 ?_
          exact ⟨by simp [ocL, cntB]; omega, (ivE (by unfold cntV; rw [if_neg (by omega), if_neg (by omega), if_neg (by omega), if_neg (by omega), if_neg (by omega), if_pos (by omega)])), rfl, cls_of cc, fun _ _ => rfl⟩
        · refine r_aload_n dX8_count_124 rfl rfl ?_
          refine r_get (fs := [_, _, _, _, _, _, _, _, _, _, _, _, _, _, _, _, _, _, _, _]) dX8_count_125 fl_X8_72 (by decide) c0 rfl ?_
          refine r_get (fs := [_, _, _, _, _, _, _, _, _, _, _]) dX8_count_128 fl_X8_196 (by decide) c40 rfl ?_
          refine r_iret dX8_count_131 ?_
          exact ⟨by simp [ocL, cntB]; omega, (ivE (by unfold cntV; rw [if_neg (by omega), if_neg (by omega), if_neg (by omega), if_neg (by omega), if_neg (by omega), if_neg (by omega), if_pos (by omega)])), rfl, cls_of cc, fun _ _ => rfl⟩
        · refine r_aload_n dX8_count_132 rfl rfl ?_
          refine r_get (fs := [_, _, _, _, _, _, _, _, _, _, _, _, _, _, _, _, _, _, _, _]) dX8_count_133 fl_X8_72 (by decide) c0 rfl ?_
          refine r_get (fs := [_, _, _, _, _, _, _, _, _, _, _]) dX8_count_136 fl_X8_199 (by decide) c40 rfl ?_
          refine r_iret dX8_count_139 ?_
          exact ⟨by simp [ocL, cntB]; omega, (ivE (by unfold cntV; rw [if_neg (by omega), if_neg (by omega), if_neg (by omega), if_neg (by omega), if_neg (by omega), if_neg (by omega), if_neg (by omega), if_pos (by omega)])), rfl, cls_of cc, fun _ _ => rfl⟩
        · refine r_aload_n dX8_count_140 rfl rfl ?_
          refine r_get (fs := [_, _, _, _, _, _, _, _, _, _, _, _, _, _, _, _, _, _, _, _]) dX8_count_141 fl_X8_13 (by decide) c0 rfl ?_
          refine r_iret dX8_count_144 ?_
          exact ⟨by simp [ocL, cntB]; omega, (ivE (by unfold cntV; rw [if_neg (by omega), if_neg (by omega), if_neg (by omega), if_neg (by omega), if_neg (by omega), if_neg (by omega), if_neg (by omega), if_neg (by omega)])), rfl, cls_of cc, fun _ _ => rfl⟩
      · refine r_aload_n dX8_count_37 rfl rfl ?_
        refine r_get (fs := [_, _, _, _, _, _, _, _, _, _, _, _, _, _, _, _, _, _, _, _]) dX8_count_38 fl_X8_20 (by decide) c0 rfl ?_
        refine r_iload_n dX8_count_41 rfl rfl ?_
        refine r_bipush dX8_count_42 rfl ?_
        refine r_isub dX8_count_44 ?_
        refine r_ald dX8_count_45 (by decide) c2 (by omega) (by omega) (by decide) ?_
        refine r_iret dX8_count_46 ?_
        exact ⟨by simp [ocL, cntB]; omega, (ivE (by unfold cntV; rw [if_neg (by omega), if_pos (by omega)])), rfl, cls_of cc, fun _ _ => rfl⟩
  · refine r_iload_n dX8_count_6 rfl rfl ?_
    refine r_bipush dX8_count_7 rfl ?_
    refine r_icmp_ge (tgt := 25) dX8_count_9 (by decide) ⟨by omega, by omega⟩ ⟨by omega, by omega⟩ (fun g9 => ?_) (fun g9 => ?_)
    · refine r_iload_n dX8_count_25 rfl rfl ?_
      refine r_bipush dX8_count_26 rfl ?_
      refine r_icmp_lt (tgt := 47) dX8_count_28 (by decide) ⟨by omega, by omega⟩ ⟨by omega, by omega⟩ (fun g28 => ?_) (fun g28 => ?_)
      · refine r_iload_n dX8_count_47 rfl rfl ?_
        refine r_tsw7 (td := 145) (t0 := 92) (t1 := 100) (t2 := 108) (t3 := 116) (t4 := 124) (t5 := 132) (t6 := 140) dX8_count_48 rfl ⟨by omega, by omega⟩ (by decide) (by decide) (by decide) (by decide) (by decide) (by decide) (by decide) (by decide) (fun g48 => ?_) (fun g48 => ?_) (fun g48 => ?_) (fun g48 => ?_) (fun g48 => ?_) (fun g48 => ?_) (fun g48 => ?_) (fun g48 => ?_)
        · refine r_throwN (is := 204) (i := 28) (k := 2) (tx := "no such count") (by decide +kernel) dX8_count_145 dX8_count_148 (Or.inl ⟨dX8_count_149, rfl⟩) dX8_count_151 dX8_count_154 (by decide) (by decide) (by decide) (Nat.le_of_ble_eq_true rfl) ?_
          exact ⟨Or.inl ⟨by simp [ocL, cntB]; omega, rfl⟩, rfl, cls_of cc, fun _ _ => rfl⟩
        · refine r_aload_n dX8_count_92 rfl rfl ?_
          refine r_get (fs := [_, _, _, _, _, _, _, _, _, _, _, _, _, _, _, _, _, _, _, _]) dX8_count_93 fl_X8_48 (by decide) c0 rfl ?_
          refine r_get (fs := [_, _, _, _, _, _, _, _, _, _, _, _, _]) dX8_count_96 fl_X8_127 (by decide) c6 rfl ?_
          refine r_iret dX8_count_99 ?_
          exact ⟨by simp [ocL, cntB]; omega, (ivE (by unfold cntV; rw [if_neg (by omega), if_neg (by omega), if_pos (by omega)])), rfl, cls_of cc, fun _ _ => rfl⟩
        · refine r_aload_n dX8_count_100 rfl rfl ?_
          refine r_get (fs := [_, _, _, _, _, _, _, _, _, _, _, _, _, _, _, _, _, _, _, _]) dX8_count_101 fl_X8_48 (by decide) c0 rfl ?_
          refine r_get (fs := [_, _, _, _, _, _, _, _, _, _, _, _, _]) dX8_count_104 fl_X8_187 (by decide) c6 rfl ?_
          refine r_iret dX8_count_107 ?_
          exact ⟨by simp [ocL, cntB]; omega, (ivE (by unfold cntV; rw [if_neg (by omega), if_neg (by omega), if_neg (by omega), if_pos (by omega)])), rfl, cls_of cc, fun _ _ => rfl⟩
        · refine r_aload_n dX8_count_108 rfl rfl ?_
          refine r_get (fs := [_, _, _, _, _, _, _, _, _, _, _, _, _, _, _, _, _, _, _, _]) dX8_count_109 fl_X8_48 (by decide) c0 rfl ?_
          refine r_get (fs := [_, _, _, _, _, _, _, _, _, _, _, _, _]) dX8_count_112 fl_X8_190 (by decide) c6 rfl ?_
          refine r_iret dX8_count_115 ?_
          exact ⟨by simp [ocL, cntB]; omega, (ivE (by unfold cntV; rw [if_neg (by omega), if_neg (by omega), if_neg (by omega), if_neg (by omega), if_pos (by omega)])), rfl, cls_of cc, fun _ _ => rfl⟩
        · refine r_aload_n dX8_count_116 rfl rfl ?_
          refine r_get (fs := [_, _, _, _, _, _, _, _, _, _, _, _, _, _, _, _, _, _, _, _]) dX8_count_117 fl_X8_72 (by decide) c0 rfl ?_
          refine r_get (fs := [_, _, _, _, _, _, _, _, _, _, _]) dX8_count_120 fl_X8_193 (by decide) c40 rfl ?_
          refine r_iret dX8_count_123 ?_
          exact ⟨by simp [ocL, cntB]; omega, (ivE (by unfold cntV; rw [if_neg (by omega), if_neg (by omega), if_neg (by omega), if_neg (by omega), if_neg (by omega), if_pos (by omega)])), rfl, cls_of cc, fun _ _ => rfl⟩
        · refine r_aload_n dX8_count_124 rfl rfl ?_
          refine r_get (fs := [_, _, _, _, _, _, _, _, _, _, _, _, _, _, _, _, _, _, _, _]) dX8_count_125 fl_X8_72 (by decide) c0 rfl ?_
          refine r_get (fs := [_, _, _, _, _, _, _, _, _, _, _]) dX8_count_128 fl_X8_196 (by decide) c40 rfl ?_
          refine r_iret dX8_count_131 ?_
          exact ⟨by simp [ocL, cntB]; omega, (ivE (by unfold cntV; rw [if_neg (by omega), if_neg (by omega), if_neg (by omega), if_neg (by omega), if_neg (by omega), if_neg (by omega), if_pos (by omega)])), rfl, cls_of cc, fun _ _ => rfl⟩
        · refine r_aload_n dX8_count_132 rfl rfl ?_
          refine r_get (fs := [_, _, _, _, _, _, _, _, _, _, _, _, _, _, _, _, _, _, _, _]) dX8_count_133 fl_X8_72 (by decide) c0 rfl ?_
          refine r_get (fs := [_, _, _, _, _, _, _, _, _, _, _]) dX8_count_136 fl_X8_199 (by decide) c40 rfl ?_
          refine r_iret dX8_count_139 ?_
          exact ⟨by simp [ocL, cntB]; omega, (ivE (by unfold cntV; rw [if_neg (by omega), if_neg (by omega), if_neg (by omega), if_neg (by omega), if_neg (by omega), if_neg (by omega), if_neg (by omega), if_pos (by omega)])), rfl, cls_of cc, fun _ _ => rfl⟩
        · refine r_aload_n dX8_count_140 rfl rfl ?_
          refine r_get (fs := [_, _, _, _, _, _, _, _, _, _, _, _, _, _, _, _, _, _, _, _]) dX8_count_141 fl_X8_13 (by decide) c0 rfl ?_
          refine r_iret dX8_count_144 ?_
          exact ⟨by simp [ocL, cntB]; omega, (ivE (by unfold cntV; rw [if_neg (by omega), if_neg (by omega), if_neg (by omega), if_neg (by omega), if_neg (by omega), if_neg (by omega), if_neg (by omega), if_neg (by omega)])), rfl, cls_of cc, fun _ _ => rfl⟩
      · refine r_iload_n dX8_count_31 rfl rfl ?_
        refine r_bipush dX8_count_32 rfl ?_
        refine r_icmp_gt (tgt := 47) dX8_count_34 (by decide) ⟨by omega, by omega⟩ ⟨by omega, by omega⟩ (fun g34 => ?_) (fun g34 => ?_)
        · refine r_iload_n dX8_count_47 rfl rfl ?_
          refine r_tsw7 (td := 145) (t0 := 92) (t1 := 100) (t2 := 108) (t3 := 116) (t4 := 124) (t5 := 132) (t6 := 140) dX8_count_48 rfl ⟨by omega, by omega⟩ (by decide) (by decide) (by decide) (by decide) (by decide) (by decide) (by decide) (by decide) (fun g48 => ?_) (fun g48 => ?_) (fun g48 => ?_) (fun g48 => ?_) (fun g48 => ?_) (fun g48 => ?_) (fun g48 => ?_) (fun g48 => ?_)
          · refine r_throwN (is := 204) (i := 28) (k := 2) (tx := "no such count") (by decide +kernel) dX8_count_145 dX8_count_148 (Or.inl ⟨dX8_count_149, rfl⟩) dX8_count_151 dX8_count_154 (by decide) (by decide) (by decide) (Nat.le_of_ble_eq_true rfl) ?_
            exact ⟨Or.inl ⟨by simp [ocL, cntB]; omega, rfl⟩, rfl, cls_of cc, fun _ _ => rfl⟩
          · refine r_aload_n dX8_count_92 rfl rfl ?_
            refine r_get (fs := [_, _, _, _, _, _, _, _, _, _, _, _, _, _, _, _, _, _, _, _]) dX8_count_93 fl_X8_48 (by decide) c0 rfl ?_
            refine r_get (fs := [_, _, _, _, _, _, _, _, _, _, _, _, _]) dX8_count_96 fl_X8_127 (by decide) c6 rfl ?_
            refine r_iret dX8_count_99 ?_
            exact ⟨by simp [ocL, cntB]; omega, (ivE (by unfold cntV; rw [if_neg (by omega), if_neg (by omega), if_pos (by omega)])), rfl, cls_of cc, fun _ _ => rfl⟩
          · refine r_aload_n dX8_count_100 rfl rfl ?_
            refine r_get (fs := [_, _, _, _, _, _, _, _, _, _, _, _, _, _, _, _, _, _, _, _]) dX8_count_101 fl_X8_48 (by decide) c0 rfl ?_
            refine r_get (fs := [_, _, _, _, _, _, _, _, _, _, _, _, _]) dX8_count_104 fl_X8_187 (by decide) c6 rfl ?_
            refine r_iret dX8_count_107 ?_
            exact ⟨by simp [ocL, cntB]; omega, (ivE (by unfold cntV; rw [if_neg (by omega), if_neg (by omega), if_neg (by omega), if_pos (by omega)])), rfl, cls_of cc, fun _ _ => rfl⟩
          · refine r_aload_n dX8_count_108 rfl rfl ?_
            refine r_get (fs := [_, _, _, _, _, _, _, _, _, _, _, _, _, _, _, _, _, _, _, _]) dX8_count_109 fl_X8_48 (by decide) c0 rfl ?_
            refine r_get (fs := [_, _, _, _, _, _, _, _, _, _, _, _, _]) dX8_count_112 fl_X8_190 (by decide) c6 rfl ?_
            refine r_iret dX8_count_115 ?_
            exact ⟨by simp [ocL, cntB]; omega, (ivE (by unfold cntV; rw [if_neg (by omega), if_neg (by omega), if_neg (by omega), if_neg (by omega), if_pos (by omega)])), rfl, cls_of cc, fun _ _ => rfl⟩
          · refine r_aload_n dX8_count_116 rfl rfl ?_
            refine r_get (fs := [_, _, _, _, _, _, _, _, _, _, _, _, _, _, _, _, _, _, _, _]) dX8_count_117 fl_X8_72 (by decide) c0 rfl ?_
            refine r_get (fs := [_, _, _, _, _, _, _, _, _, _, _]) dX8_count_120 fl_X8_193 (by decide) c40 rfl ?_
            refine r_iret dX8_count_123 ?_
            exact ⟨by simp [ocL, cntB]; omega, (ivE (by unfold cntV; rw [if_neg (by omega), if_neg (by omega), if_neg (by omega), if_neg (by omega), if_neg (by omega), if_pos (by omega)])), rfl, cls_of cc, fun _ _ => rfl⟩
          · refine r_aload_n dX8_count_124 rfl rfl ?_
            refine r_get (fs := [_, _, _, _, _, _, _, _, _, _, _, _, _, _, _, _, _, _, _, _]) dX8_count_125 fl_X8_72 (by decide) c0 rfl ?_
            refine r_get (fs := [_, _, _, _, _, _, _, _, _, _, _]) dX8_count_128 fl_X8_196 (by decide) c40 rfl ?_
            refine r_iret dX8_count_131 ?_
            exact ⟨by simp [ocL, cntB]; omega, (ivE (by unfold cntV; rw [if_neg (by omega), if_neg (by omega), if_neg (by omega), if_neg (by omega), if_neg (by omega), if_neg (by omega), if_pos (by omega)])), rfl, cls_of cc, fun _ _ => rfl⟩
          · refine r_aload_n dX8_count_132 rfl rfl ?_
            refine r_get (fs := [_, _, _, _, _, _, _, _, _, _, _, _, _, _, _, _, _, _, _, _]) dX8_count_133 fl_X8_72 (by decide) c0 rfl ?_
            refine r_get (fs := [_, _, _, _, _, _, _, _, _, _, _]) dX8_count_136 fl_X8_199 (by decide) c40 rfl ?_
            refine r_iret dX8_count_139 ?_
            exact ⟨by simp [ocL, cntB]; omega, (ivE (by unfold cntV; rw [if_neg (by omega), if_neg (by omega), if_neg (by omega), if_neg (by omega), if_neg (by omega), if_neg (by omega), if_neg (by omega), if_pos (by omega)])), rfl, cls_of cc, fun _ _ => rfl⟩
          · refine r_aload_n dX8_count_140 rfl rfl ?_
            refine r_get (fs := [_, _, _, _, _, _, _, _, _, _, _, _, _, _, _, _, _, _, _, _]) dX8_count_141 fl_X8_13 (by decide) c0 rfl ?_
            refine r_iret dX8_count_144 ?_
            exact ⟨by simp [ocL, cntB]; omega, (ivE (by unfold cntV; rw [if_neg (by omega), if_neg (by omega), if_neg (by omega), if_neg (by omega), if_neg (by omega), if_neg (by omega), if_neg (by omega), if_neg (by omega)])), rfl, cls_of cc, fun _ _ => rfl⟩
        · refine r_aload_n dX8_count_37 rfl rfl ?_
          refine r_get (fs := [_, _, _, _, _, _, _, _, _, _, _, _, _, _, _, _, _, _, _, _]) dX8_count_38 fl_X8_20 (by decide) c0 rfl ?_
          refine r_iload_n dX8_count_41 rfl rfl ?_
          refine r_bipush dX8_count_42 rfl ?_
          refine r_isub dX8_count_44 ?_
          refine r_ald dX8_count_45 (by decide) c2 (by omega) (by omega) (by decide) ?_
          refine r_iret dX8_count_46 ?_
          exact ⟨by simp [ocL, cntB]; omega, (ivE (by unfold cntV; rw [if_neg (by omega), if_pos (by omega)])), rfl, cls_of cc, fun _ _ => rfl⟩
    · refine r_aload_n dX8_count_12 rfl rfl ?_
      refine r_get (fs := [_, _, _, _, _, _, _, _, _, _, _, _, _, _, _, _, _, _, _, _]) dX8_count_13 fl_X8_48 (by decide) c0 rfl ?_
      refine r_get (fs := [_, _, _, _, _, _, _, _, _, _, _, _, _]) dX8_count_16 fl_X8_184 (by decide) c6 rfl ?_
      refine r_iload_n dX8_count_19 rfl rfl ?_
      refine r_bipush dX8_count_20 rfl ?_
      refine r_isub dX8_count_22 ?_
      refine r_ald dX8_count_23 (by decide) c12 (by omega) (by omega) (by decide) ?_
      refine r_iret dX8_count_24 ?_
      exact ⟨by simp [ocL, cntB]; omega, (ivE (by unfold cntV; rw [if_pos (by omega)])), rfl, cls_of cc, fun _ _ => rfl⟩

theorem s_X8_dial {h : aH} {t : Nat → Int} {tp : Nat} {fpl hlaw himg : Int} {rf : Nat → Int} {nd sw nc hl hs : Int} {K U I O G L cf ct fc nx cd : Nat → Int} {nr ns nm : Int} {rd ry rm rt se md my mt : Nat → Int} {M : ND} {ls : LSm} (cc : CanC h (t, tp, fpl, rf, hlaw, himg, ((nd, sw, nc), (hl, hs), K, U, I, O, G, L, cf, ct, fc, nx, cd), ((nr, ns, nm), rd, ry, rm, rt, se, md, my, mt), M, ls)) {di w : Int} (idi : inR di) (iw : inR w)  : mSem yX8_dial cX8_dial 3 (some .int) 7 2 12 [.ref 0, iv di, iv w] 97 h (PubQ (ocL [(diaB nd di, 1), (whaB w 4, 1)]) (some (iv (diaV K U I O G di w))) h (t, tp, fpl, rf, hlaw, himg, ((nd, sw, nc), (hl, hs), K, U, I, O, G, L, cf, ct, fc, nx, cd), ((nr, ns, nm), rd, ry, rm, rt, se, md, my, mt), M, ls)) (PubX (ocL [(diaB nd di, 1), (whaB w 4, 1)]) h (t, tp, fpl, rf, hlaw, himg, ((nd, sw, nc), (hl, hs), K, U, I, O, G, L, cf, ct, fc, nx, cd), ((nr, ns, nm), rd, ry, rm, rt, se, md, my, mt), M, ls)) := by
  obtain ⟨c0, c1, c2, ⟨ht, htp, phl, phi⟩, pC, nC, mC, lC, s3, s4, s5, s17, s34, s58, s62, s65, s66, s67⟩ := id cc
  obtain ⟨c6, c7, c8, c9, c10, c11, c12, c13, c14, c15, c16, pi⟩ := id pC
  obtain ⟨c40, c41, c42, c43, c44, c45, c46, c47, c48, ni, nsn⟩ := id nC
  obtain ⟨pnd, psw, pnc, pK, pU, pI, pO, pG, pL, pcf, pct, pfc, pnx⟩ := id pi
  obtain ⟨pnr, pns, pnm, prd, pry, prm, prt, pse, pmd, pmy, pmt⟩ := id ni
  unfold inR at idi iw
  refine mSem_of (own := RX8) (name := "dial") pn_X8 rfl rfl (Nat.le_of_ble_eq_true rfl) ?_
  refine r_aload_n dX8_dial_0 rfl rfl ?_
  refine r_iload_n dX8_dial_1 rfl rfl ?_
  refine r_callV 0 [_] (s_X8_needDial c0 c6 pnd idi) dX8_dial_2 cs_X8_209 im_X8_needDial (by decide) c0 rfl (by decide) (by decide) (by decide) rfl rfl (Nat.le_of_ble_eq_true rfl) (fun E n2 h2 q => by
    obtain ⟨rfl, nk, rfl, rfl⟩ := q
    exact ⟨rfl, Or.inl ⟨by simp [ocL, nk], rfl⟩, rfl, cls_of cc, fun _ _ => rfl⟩) (fun v n2 h2 q => ?_)
  obtain ⟨k1, rfl, rfl, hh⟩ := q
  obtain rfl := hh.symm
  have bdi := of_decide_eq_true k1
  refine ⟨rfl, ?_⟩
  dsimp only [Option.toList, List.cons_append, List.nil_append]
  refine r_iload_n dX8_dial_5 rfl rfl ?_
  refine r_iconst dX8_dial_6 ?_
  refine r_callS [_, _] (s_X8_needWhat iw ⟨by decide, by decide⟩) dX8_dial_7 cs_X8_160 sm_X8_needWhat (by decide) (by decide) (by decide) rfl rfl (Nat.le_of_ble_eq_true rfl) (fun E n2 h2 q => by
    obtain ⟨rfl, nk, rfl, rfl⟩ := q
    exact ⟨rfl, Or.inl ⟨by simp [ocL, k1, nk], rfl⟩, rfl, cls_of cc, fun _ _ => rfl⟩) (fun v n2 h2 q => ?_)
  obtain ⟨k2, rfl, rfl, hh⟩ := q
  obtain rfl := hh.symm
  have bw := of_decide_eq_true k2
  refine ⟨rfl, ?_⟩
  dsimp only [Option.toList, List.cons_append, List.nil_append]
  refine r_iload_n dX8_dial_10 rfl rfl ?_
  refine r_tsw4 (td := 80) (t0 := 40) (t1 := 50) (t2 := 60) (t3 := 70) dX8_dial_11 rfl ⟨by omega, by omega⟩ (by decide) (by decide) (by decide) (by decide) (by decide) (fun g11 => ?_) (fun g11 => ?_) (fun g11 => ?_) (fun g11 => ?_) (fun g11 => ?_)
  · refine r_aload_n dX8_dial_80 rfl rfl ?_
    refine r_get (fs := [_, _, _, _, _, _, _, _, _, _, _, _, _, _, _, _, _, _, _, _]) dX8_dial_81 fl_X8_48 (by decide) c0 rfl ?_
    refine r_get (fs := [_, _, _, _, _, _, _, _, _, _, _, _, _]) dX8_dial_84 fl_X8_224 (by decide) c6 rfl ?_
    refine r_iload_n dX8_dial_87 rfl rfl ?_
    refine r_ald dX8_dial_88 (by decide) c11 (by omega) (by omega) (by decide) ?_
    refine r_iret dX8_dial_89 ?_
    exact ⟨(by simp [ocL, k1, k2]), (ivE (by unfold diaV; rw [if_neg (by omega), if_neg (by omega), if_neg (by omega), if_neg (by omega)])), rfl, cls_of cc, (fun _ _ => rfl)⟩
  · refine r_aload_n dX8_dial_40 rfl rfl ?_
    refine r_get (fs := [_, _, _, _, _, _, _, _, _, _, _, _, _, _, _, _, _, _, _, _]) dX8_dial_41 fl_X8_48 (by decide) c0 rfl ?_
    refine r_get (fs := [_, _, _, _, _, _, _, _, _, _, _, _, _]) dX8_dial_44 fl_X8_212 (by decide) c6 rfl ?_
    refine r_iload_n dX8_dial_47 rfl rfl ?_
    refine r_ald dX8_dial_48 (by decide) c7 (by omega) (by omega) (by decide) ?_
    refine r_iret dX8_dial_49 ?_
    exact ⟨(by simp [ocL, k1, k2]), (ivE (by unfold diaV; rw [if_pos (by omega)])), rfl, cls_of cc, (fun _ _ => rfl)⟩
  · refine r_aload_n dX8_dial_50 rfl rfl ?_
    refine r_get (fs := [_, _, _, _, _, _, _, _, _, _, _, _, _, _, _, _, _, _, _, _]) dX8_dial_51 fl_X8_48 (by decide) c0 rfl ?_
    refine r_get (fs := [_, _, _, _, _, _, _, _, _, _, _, _, _]) dX8_dial_54 fl_X8_215 (by decide) c6 rfl ?_
    refine r_iload_n dX8_dial_57 rfl rfl ?_
    refine r_ald dX8_dial_58 (by decide) c8 (by omega) (by omega) (by decide) ?_
    refine r_iret dX8_dial_59 ?_
    exact ⟨(by simp [ocL, k1, k2]), (ivE (by unfold diaV; rw [if_neg (by omega), if_pos (by omega)])), rfl, cls_of cc, (fun _ _ => rfl)⟩
  · refine r_aload_n dX8_dial_60 rfl rfl ?_
    refine r_get (fs := [_, _, _, _, _, _, _, _, _, _, _, _, _, _, _, _, _, _, _, _]) dX8_dial_61 fl_X8_48 (by decide) c0 rfl ?_
    refine r_get (fs := [_, _, _, _, _, _, _, _, _, _, _, _, _]) dX8_dial_64 fl_X8_218 (by decide) c6 rfl ?_
    refine r_iload_n dX8_dial_67 rfl rfl ?_
    refine r_ald dX8_dial_68 (by decide) c9 (by omega) (by omega) (by decide) ?_
    refine r_iret dX8_dial_69 ?_
    exact ⟨(by simp [ocL, k1, k2]), (ivE (by unfold diaV; rw [if_neg (by omega), if_neg (by omega), if_pos (by omega)])), rfl, cls_of cc, (fun _ _ => rfl)⟩
  · refine r_aload_n dX8_dial_70 rfl rfl ?_
    refine r_get (fs := [_, _, _, _, _, _, _, _, _, _, _, _, _, _, _, _, _, _, _, _]) dX8_dial_71 fl_X8_48 (by decide) c0 rfl ?_
    refine r_get (fs := [_, _, _, _, _, _, _, _, _, _, _, _, _]) dX8_dial_74 fl_X8_221 (by decide) c6 rfl ?_
    refine r_iload_n dX8_dial_77 rfl rfl ?_
    refine r_ald dX8_dial_78 (by decide) c10 (by omega) (by omega) (by decide) ?_
    refine r_iret dX8_dial_79 ?_
    exact ⟨(by simp [ocL, k1, k2]), (ivE (by unfold diaV; rw [if_neg (by omega), if_neg (by omega), if_neg (by omega), if_pos (by omega)])), rfl, cls_of cc, (fun _ _ => rfl)⟩

theorem s_X8_day {h : aH} {t : Nat → Int} {tp : Nat} {fpl hlaw himg : Int} {rf : Nat → Int} {nd sw nc hl hs : Int} {K U I O G L cf ct fc nx cd : Nat → Int} {nr ns nm : Int} {rd ry rm rt se md my mt : Nat → Int} {M : ND} {ls : LSm} (cc : CanC h (t, tp, fpl, rf, hlaw, himg, ((nd, sw, nc), (hl, hs), K, U, I, O, G, L, cf, ct, fc, nx, cd), ((nr, ns, nm), rd, ry, rm, rt, se, md, my, mt), M, ls)) {day w : Int} (iday : inR day) (iw : inR w)  : mSem yX8_day cX8_day 3 (some .int) 7 2 12 [.ref 0, iv day, iv w] 97 h (PubQ (ocL [(dayB day, 1), (whaB w 1, 1)]) (some (iv (if w = 0 then noonI L day else halfI sw day))) h (t, tp, fpl, rf, hlaw, himg, ((nd, sw, nc), (hl, hs), K, U, I, O, G, L, cf, ct, fc, nx, cd), ((nr, ns, nm), rd, ry, rm, rt, se, md, my, mt), M, ls)) (PubX (ocL [(dayB day, 1), (whaB w 1, 1)]) h (t, tp, fpl, rf, hlaw, himg, ((nd, sw, nc), (hl, hs), K, U, I, O, G, L, cf, ct, fc, nx, cd), ((nr, ns, nm), rd, ry, rm, rt, se, md, my, mt), M, ls)) := by
  obtain ⟨c0, c1, c2, ⟨ht, htp, phl, phi⟩, pC, nC, mC, lC, s3, s4, s5, s17, s34, s58, s62, s65, s66, s67⟩ := id cc
  obtain ⟨c6, c7, c8, c9, c10, c11, c12, c13, c14, c15, c16, pi⟩ := id pC
  obtain ⟨c40, c41, c42, c43, c44, c45, c46, c47, c48, ni, nsn⟩ := id nC
  obtain ⟨pnd, psw, pnc, pK, pU, pI, pO, pG, pL, pcf, pct, pfc, pnx⟩ := id pi
  obtain ⟨pnr, pns, pnm, prd, pry, prm, prt, pse, pmd, pmy, pmt⟩ := id ni
  unfold inR at iday iw
  refine mSem_of (own := RX8) (name := "day") pn_X8 rfl rfl (Nat.le_of_ble_eq_true rfl) ?_
  refine r_iload_n dX8_day_0 rfl rfl ?_
  refine r_callS [_] (s_X8_needDay iday) dX8_day_1 cs_X8_139 sm_X8_needDay (by decide) (by decide) (by decide) rfl rfl (Nat.le_of_ble_eq_true rfl) (fun E n2 h2 q => by
    obtain ⟨rfl, nk, rfl, rfl⟩ := q
    exact ⟨rfl, Or.inl ⟨by simp [ocL, nk], rfl⟩, rfl, cls_of cc, fun _ _ => rfl⟩) (fun v n2 h2 q => ?_)
  obtain ⟨k1, rfl, rfl, hh⟩ := q
  obtain rfl := hh.symm
  have bday := of_decide_eq_true k1
  refine ⟨rfl, ?_⟩
  dsimp only [Option.toList, List.cons_append, List.nil_append]
  refine r_iload_n dX8_day_4 rfl rfl ?_
  refine r_iconst dX8_day_5 ?_
  refine r_callS [_, _] (s_X8_needWhat iw ⟨by decide, by decide⟩) dX8_day_6 cs_X8_160 sm_X8_needWhat (by decide) (by decide) (by decide) rfl rfl (Nat.le_of_ble_eq_true rfl) (fun E n2 h2 q => by
    obtain ⟨rfl, nk, rfl, rfl⟩ := q
    exact ⟨rfl, Or.inl ⟨by simp [ocL, k1, nk], rfl⟩, rfl, cls_of cc, fun _ _ => rfl⟩) (fun v n2 h2 q => ?_)
  obtain ⟨k2, rfl, rfl, hh⟩ := q
  obtain rfl := hh.symm
  have bw := of_decide_eq_true k2
  refine ⟨rfl, ?_⟩
  dsimp only [Option.toList, List.cons_append, List.nil_append]
  refine r_iload_n dX8_day_9 rfl rfl ?_
  refine r_if_ne (tgt := 24) dX8_day_10 (by decide) ⟨by omega, by omega⟩ (fun g10 => ?_) (fun g10 => ?_)
  · refine r_aload_n dX8_day_24 rfl rfl ?_
    refine r_get (fs := [_, _, _, _, _, _, _, _, _, _, _, _, _, _, _, _, _, _, _, _]) dX8_day_25 fl_X8_48 (by decide) c0 rfl ?_
    refine r_iload_n dX8_day_28 rfl rfl ?_
    refine r_callV 6 [_] (s_X4_halfOf c6 c7 c8 c9 c10 c11 c12 c13 c14 c15 c16 pi bday) dX8_day_29 cs_X8_231 im_X4_halfOf (by decide) c6 rfl (by decide) (by decide) (by decide) rfl rfl (Nat.le_of_ble_eq_true rfl) (fun _ _ _ q => q.elim) (fun v n2 h2 q => ?_)
    obtain ⟨rfl, rfl, hh⟩ := q
    obtain rfl := hh.symm
    refine ⟨rfl, ?_⟩
    dsimp only [Option.toList, List.cons_append, List.nil_append]
    refine r_iret dX8_day_32 ?_
    exact ⟨(by simp [ocL, k1, k2]), (ivE (by first | rw [if_pos g10] | rw [if_neg g10])), rfl, cls_of cc, (fun _ _ => rfl)⟩
  · refine r_aload_n dX8_day_13 rfl rfl ?_
    refine r_get (fs := [_, _, _, _, _, _, _, _, _, _, _, _, _, _, _, _, _, _, _, _]) dX8_day_14 fl_X8_48 (by decide) c0 rfl ?_
    refine r_iload_n dX8_day_17 rfl rfl ?_
    refine r_callV 6 [_] (s_X4_noonOf c6 c7 c8 c9 c10 c11 c12 c13 c14 c15 c16 pi bday) dX8_day_18 cs_X8_227 im_X4_noonOf (by decide) c6 rfl (by decide) (by decide) (by decide) rfl rfl (Nat.le_of_ble_eq_true rfl) (fun _ _ _ q => q.elim) (fun v n2 h2 q => ?_)
    obtain ⟨rfl, rfl, hh⟩ := q
    obtain rfl := hh.symm
    refine ⟨rfl, ?_⟩
    dsimp only [Option.toList, List.cons_append, List.nil_append]
    refine r_goto (tgt := 32) dX8_day_21 (by decide) ?_
    refine r_iret dX8_day_32 ?_
    exact ⟨(by simp [ocL, k1, k2]), (ivE (by first | rw [if_pos g10] | rw [if_neg g10])), rfl, cls_of cc, (fun _ _ => rfl)⟩

theorem s_X8_tells {h : aH} {t : Nat → Int} {tp : Nat} {fpl hlaw himg : Int} {rf : Nat → Int} {nd sw nc hl hs : Int} {K U I O G L cf ct fc nx cd : Nat → Int} {nr ns nm : Int} {rd ry rm rt se md my mt : Nat → Int} {M : ND} {ls : LSm} (cc : CanC h (t, tp, fpl, rf, hlaw, himg, ((nd, sw, nc), (hl, hs), K, U, I, O, G, L, cf, ct, fc, nx, cd), ((nr, ns, nm), rd, ry, rm, rt, se, md, my, mt), M, ls)) {di day m : Int} (idi : inR di) (iday : inR day) (im : inR m)  : mSem yX8_tells cX8_tells 4 (some .int) 7 3 18 [.ref 0, iv di, iv day, iv m] 97 h (PubQ (ocL [(diaB nd di, 1), (dayB day, 1), (minB m, 1)]) (some (iv (nowI sw nc nm K U I O G L cf ct cd md my mt di day m))) h (t, tp, fpl, rf, hlaw, himg, ((nd, sw, nc), (hl, hs), K, U, I, O, G, L, cf, ct, fc, nx, cd), ((nr, ns, nm), rd, ry, rm, rt, se, md, my, mt), M, ls)) (PubX (ocL [(diaB nd di, 1), (dayB day, 1), (minB m, 1)]) h (t, tp, fpl, rf, hlaw, himg, ((nd, sw, nc), (hl, hs), K, U, I, O, G, L, cf, ct, fc, nx, cd), ((nr, ns, nm), rd, ry, rm, rt, se, md, my, mt), M, ls)) := by
  obtain ⟨c0, c1, c2, ⟨ht, htp, phl, phi⟩, pC, nC, mC, lC, s3, s4, s5, s17, s34, s58, s62, s65, s66, s67⟩ := id cc
  obtain ⟨c6, c7, c8, c9, c10, c11, c12, c13, c14, c15, c16, pi⟩ := id pC
  obtain ⟨c40, c41, c42, c43, c44, c45, c46, c47, c48, ni, nsn⟩ := id nC
  obtain ⟨pnd, psw, pnc, pK, pU, pI, pO, pG, pL, pcf, pct, pfc, pnx⟩ := id pi
  obtain ⟨pnr, pns, pnm, prd, pry, prm, prt, pse, pmd, pmy, pmt⟩ := id ni
  unfold inR at idi iday im
  refine mSem_of (own := RX8) (name := "tells") pn_X8 rfl rfl (Nat.le_of_ble_eq_true rfl) ?_
  refine r_aload_n dX8_tells_0 rfl rfl ?_
  refine r_iload_n dX8_tells_1 rfl rfl ?_
  refine r_callV 0 [_] (s_X8_needDial c0 c6 pnd idi) dX8_tells_2 cs_X8_209 im_X8_needDial (by decide) c0 rfl (by decide) (by decide) (by decide) rfl rfl (Nat.le_of_ble_eq_true rfl) (fun E n2 h2 q => by
    obtain ⟨rfl, nk, rfl, rfl⟩ := q
    exact ⟨rfl, Or.inl ⟨by simp [ocL, nk], rfl⟩, rfl, cls_of cc, fun _ _ => rfl⟩) (fun v n2 h2 q => ?_)
  obtain ⟨k1, rfl, rfl, hh⟩ := q
  obtain rfl := hh.symm
  have bdi := of_decide_eq_true k1
  refine ⟨rfl, ?_⟩
  dsimp only [Option.toList, List.cons_append, List.nil_append]
  refine r_iload_n dX8_tells_5 rfl rfl ?_
  refine r_callS [_] (s_X8_needDay iday) dX8_tells_6 cs_X8_139 sm_X8_needDay (by decide) (by decide) (by decide) rfl rfl (Nat.le_of_ble_eq_true rfl) (fun E n2 h2 q => by
    obtain ⟨rfl, nk, rfl, rfl⟩ := q
    exact ⟨rfl, Or.inl ⟨by simp [ocL, k1, nk], rfl⟩, rfl, cls_of cc, fun _ _ => rfl⟩) (fun v n2 h2 q => ?_)
  obtain ⟨k2, rfl, rfl, hh⟩ := q
  obtain rfl := hh.symm
  have bday := of_decide_eq_true k2
  refine ⟨rfl, ?_⟩
  dsimp only [Option.toList, List.cons_append, List.nil_append]
  refine r_iload_n dX8_tells_9 rfl rfl ?_
  refine r_callS [_] (s_X8_needMinute im) dX8_tells_10 cs_X8_142 sm_X8_needMinute (by decide) (by decide) (by decide) rfl rfl (Nat.le_of_ble_eq_true rfl) (fun E n2 h2 q => by
    obtain ⟨rfl, nk, rfl, rfl⟩ := q
    exact ⟨rfl, Or.inl ⟨by simp [ocL, k1, k2, nk], rfl⟩, rfl, cls_of cc, fun _ _ => rfl⟩) (fun v n2 h2 q => ?_)
  obtain ⟨k3, rfl, rfl, hh⟩ := q
  obtain rfl := hh.symm
  have bm := of_decide_eq_true k3
  refine ⟨rfl, ?_⟩
  dsimp only [Option.toList, List.cons_append, List.nil_append]
  refine r_aload_n dX8_tells_13 rfl rfl ?_
  refine r_iload_n dX8_tells_14 rfl rfl ?_
  refine r_iload_n dX8_tells_15 rfl rfl ?_
  refine r_iload_n dX8_tells_16 rfl rfl ?_
  refine r_callV 0 [_, _, _] (s_X8_toldNow c6 c7 c8 c9 c10 c11 c12 c13 c14 c15 c16 c40 c41 c42 c43 c44 c45 c46 c47 c48 c0 pi ni (by omega) (by omega) (by omega)) dX8_tells_17 cs_X8_234 im_X8_toldNow (by decide) c0 rfl (by decide) (by decide) (by decide) rfl rfl (Nat.le_of_ble_eq_true rfl) (fun _ _ _ q => q.elim) (fun v n2 h2 q => ?_)
  obtain ⟨rfl, rfl, hh⟩ := q
  obtain rfl := hh.symm
  refine ⟨rfl, ?_⟩
  dsimp only [Option.toList, List.cons_append, List.nil_append]
  refine r_iret dX8_tells_20 ?_
  exact ⟨(by simp [ocL, k1, k2, k3]), rfl, rfl, cls_of cc, (fun _ _ => rfl)⟩

theorem s_X8_turn {h : aH} {t : Nat → Int} {tp : Nat} {fpl hlaw himg : Int} {rf : Nat → Int} {nd sw nc hl hs : Int} {K U I O G L cf ct fc nx cd : Nat → Int} {nr ns nm : Int} {rd ry rm rt se md my mt : Nat → Int} {M : ND} {ls : LSm} (cc : CanC h (t, tp, fpl, rf, hlaw, himg, ((nd, sw, nc), (hl, hs), K, U, I, O, G, L, cf, ct, fc, nx, cd), ((nr, ns, nm), rd, ry, rm, rt, se, md, my, mt), M, ls)) {di day : Int} (idi : inR di) (iday : inR day)  : mSem yX8_turn cX8_turn 3 (some .int) 7 2 12 [.ref 0, iv di, iv day] 97 h (PubQ (ocL [(diaB nd di, 1), (dayB day, 1)]) (some (iv (turnI md my mt di day (U di.toNat) nm.toNat))) h (t, tp, fpl, rf, hlaw, himg, ((nd, sw, nc), (hl, hs), K, U, I, O, G, L, cf, ct, fc, nx, cd), ((nr, ns, nm), rd, ry, rm, rt, se, md, my, mt), M, ls)) (PubX (ocL [(diaB nd di, 1), (dayB day, 1)]) h (t, tp, fpl, rf, hlaw, himg, ((nd, sw, nc), (hl, hs), K, U, I, O, G, L, cf, ct, fc, nx, cd), ((nr, ns, nm), rd, ry, rm, rt, se, md, my, mt), M, ls)) := by
  obtain ⟨c0, c1, c2, ⟨ht, htp, phl, phi⟩, pC, nC, mC, lC, s3, s4, s5, s17, s34, s58, s62, s65, s66, s67⟩ := id cc
  obtain ⟨c6, c7, c8, c9, c10, c11, c12, c13, c14, c15, c16, pi⟩ := id pC
  obtain ⟨c40, c41, c42, c43, c44, c45, c46, c47, c48, ni, nsn⟩ := id nC
  obtain ⟨pnd, psw, pnc, pK, pU, pI, pO, pG, pL, pcf, pct, pfc, pnx⟩ := id pi
  obtain ⟨pnr, pns, pnm, prd, pry, prm, prt, pse, pmd, pmy, pmt⟩ := id ni
  unfold inR at idi iday
  refine mSem_of (own := RX8) (name := "turn") pn_X8 rfl rfl (Nat.le_of_ble_eq_true rfl) ?_
  refine r_aload_n dX8_turn_0 rfl rfl ?_
  refine r_iload_n dX8_turn_1 rfl rfl ?_
  refine r_callV 0 [_] (s_X8_needDial c0 c6 pnd idi) dX8_turn_2 cs_X8_209 im_X8_needDial (by decide) c0 rfl (by decide) (by decide) (by decide) rfl rfl (Nat.le_of_ble_eq_true rfl) (fun E n2 h2 q => by
    obtain ⟨rfl, nk, rfl, rfl⟩ := q
    exact ⟨rfl, Or.inl ⟨by simp [ocL, nk], rfl⟩, rfl, cls_of cc, fun _ _ => rfl⟩) (fun v n2 h2 q => ?_)
  obtain ⟨k1, rfl, rfl, hh⟩ := q
  obtain rfl := hh.symm
  have bdi := of_decide_eq_true k1
  refine ⟨rfl, ?_⟩
  dsimp only [Option.toList, List.cons_append, List.nil_append]
  refine r_iload_n dX8_turn_5 rfl rfl ?_
  refine r_callS [_] (s_X8_needDay iday) dX8_turn_6 cs_X8_139 sm_X8_needDay (by decide) (by decide) (by decide) rfl rfl (Nat.le_of_ble_eq_true rfl) (fun E n2 h2 q => by
    obtain ⟨rfl, nk, rfl, rfl⟩ := q
    exact ⟨rfl, Or.inl ⟨by simp [ocL, k1, nk], rfl⟩, rfl, cls_of cc, fun _ _ => rfl⟩) (fun v n2 h2 q => ?_)
  obtain ⟨k2, rfl, rfl, hh⟩ := q
  obtain rfl := hh.symm
  have bday := of_decide_eq_true k2
  refine ⟨rfl, ?_⟩
  dsimp only [Option.toList, List.cons_append, List.nil_append]
  refine r_aload_n dX8_turn_9 rfl rfl ?_
  refine r_iload_n dX8_turn_10 rfl rfl ?_
  refine r_iload_n dX8_turn_11 rfl rfl ?_
  refine r_callV 0 [_, _] (s_X8_turnOn c6 c7 c8 c9 c10 c11 c12 c13 c14 c15 c16 c40 c41 c42 c43 c44 c45 c46 c47 c48 c0 pi ni (by omega) (by omega)) dX8_turn_12 cs_X8_238 im_X8_turnOn (by decide) c0 rfl (by decide) (by decide) (by decide) rfl rfl (Nat.le_of_ble_eq_true rfl) (fun _ _ _ q => q.elim) (fun v n2 h2 q => ?_)
  obtain ⟨rfl, rfl, hh⟩ := q
  obtain rfl := hh.symm
  refine ⟨rfl, ?_⟩
  dsimp only [Option.toList, List.cons_append, List.nil_append]
  refine r_iret dX8_turn_15 ?_
  exact ⟨(by simp [ocL, k1, k2]), rfl, rfl, cls_of cc, (fun _ _ => rfl)⟩

def readS (S : CSt) (di day m to : Int) : Int × CSt := match S with
  | (t, tp, fpl, rf, hlaw, himg, ((nd, sw, nc), (hl, hs), K, U, I, O, G, L, cf, ct, fc, nx, cd), ((nr, ns, nm), rd, ry, rm, rt, se, md, my, mt), M, ls) => if nr < 12 then (nr + 1, (t, tp, fpl, rf, hlaw, himg, ((nd, sw, nc), (hl, hs), K, U, I, O, G, L, cf, ct, fc, nx, cd), ((nr + 1, ns, nm), va_up rd nr.toNat di, va_up ry nr.toNat day, va_up rm nr.toNat m, va_up rt nr.toNat to, se, md, my, mt), M, ls)) else (-1, (t, tp, fpl, (va_up rf 1 (rf 1 + 1)), hlaw, himg, ((nd, sw, nc), (hl, hs), K, U, I, O, G, L, cf, ct, fc, nx, cd), ((nr, ns, nm), rd, ry, rm, rt, se, md, my, mt), M, ls))
theorem s_X8_read {h : aH} {t : Nat → Int} {tp : Nat} {fpl hlaw himg : Int} {rf : Nat → Int} {nd sw nc hl hs : Int} {K U I O G L cf ct fc nx cd : Nat → Int} {nr ns nm : Int} {rd ry rm rt se md my mt : Nat → Int} {M : ND} {ls : LSm} (cc : CanC h (t, tp, fpl, rf, hlaw, himg, ((nd, sw, nc), (hl, hs), K, U, I, O, G, L, cf, ct, fc, nx, cd), ((nr, ns, nm), rd, ry, rm, rt, se, md, my, mt), M, ls)) {di day m to : Int} (idi : inR di) (iday : inR day) (im : inR m) (ito : inR to)  : mSem yX8_read cX8_read 5 (some .int) 7 4 24 [.ref 0, iv di, iv day, iv m, iv to] 97 h (PubQ (ocL [(diaB nd di, 1), (dayB day, 1), (minB m, 1), (minB to, 1)]) (some (iv (readS (t, tp, fpl, rf, hlaw, himg, ((nd, sw, nc), (hl, hs), K, U, I, O, G, L, cf, ct, fc, nx, cd), ((nr, ns, nm), rd, ry, rm, rt, se, md, my, mt), M, ls) di day m to).1)) h (readS (t, tp, fpl, rf, hlaw, himg, ((nd, sw, nc), (hl, hs), K, U, I, O, G, L, cf, ct, fc, nx, cd), ((nr, ns, nm), rd, ry, rm, rt, se, md, my, mt), M, ls) di day m to).2) (PubX (ocL [(diaB nd di, 1), (dayB day, 1), (minB m, 1), (minB to, 1)]) h (t, tp, fpl, rf, hlaw, himg, ((nd, sw, nc), (hl, hs), K, U, I, O, G, L, cf, ct, fc, nx, cd), ((nr, ns, nm), rd, ry, rm, rt, se, md, my, mt), M, ls)) := by
  obtain ⟨c0, c1, c2, ⟨ht, htp, phl, phi⟩, pC, nC, mC, lC, s3, s4, s5, s17, s34, s58, s62, s65, s66, s67⟩ := id cc
  obtain ⟨c6, c7, c8, c9, c10, c11, c12, c13, c14, c15, c16, pi⟩ := id pC
  obtain ⟨c40, c41, c42, c43, c44, c45, c46, c47, c48, ni, nsn⟩ := id nC
  obtain ⟨pnd, psw, pnc, pK, pU, pI, pO, pG, pL, pcf, pct, pfc, pnx⟩ := id pi
  obtain ⟨pnr, pns, pnm, prd, pry, prm, prt, pse, pmd, pmy, pmt⟩ := id ni
  unfold inR at idi iday im ito
  have e0 : readS (t, tp, fpl, rf, hlaw, himg, ((nd, sw, nc), (hl, hs), K, U, I, O, G, L, cf, ct, fc, nx, cd), ((nr, ns, nm), rd, ry, rm, rt, se, md, my, mt), M, ls) di day m to = if nr < 12 then (nr + 1, (t, tp, fpl, rf, hlaw, himg, ((nd, sw, nc), (hl, hs), K, U, I, O, G, L, cf, ct, fc, nx, cd), ((nr + 1, ns, nm), va_up rd nr.toNat di, va_up ry nr.toNat day, va_up rm nr.toNat m, va_up rt nr.toNat to, se, md, my, mt), M, ls)) else (-1, (t, tp, fpl, (va_up rf 1 (rf 1 + 1)), hlaw, himg, ((nd, sw, nc), (hl, hs), K, U, I, O, G, L, cf, ct, fc, nx, cd), ((nr, ns, nm), rd, ry, rm, rt, se, md, my, mt), M, ls)) := rfl
  refine mSem_of (own := RX8) (name := "read") pn_X8 rfl rfl (Nat.le_of_ble_eq_true rfl) ?_
  refine r_aload_n dX8_read_0 rfl rfl ?_
  refine r_iload_n dX8_read_1 rfl rfl ?_
  refine r_callV 0 [_] (s_X8_needDial c0 c6 pnd idi) dX8_read_2 cs_X8_209 im_X8_needDial (by decide) c0 rfl (by decide) (by decide) (by decide) rfl rfl (Nat.le_of_ble_eq_true rfl) (fun E n2 h2 q => by
    obtain ⟨rfl, nk, rfl, rfl⟩ := q
    exact ⟨rfl, Or.inl ⟨by simp [ocL, nk], rfl⟩, rfl, cls_of cc, fun _ _ => rfl⟩) (fun v n2 h2 q => ?_)
  obtain ⟨k1, rfl, rfl, hh⟩ := q
  obtain rfl := hh.symm
  have bdi := of_decide_eq_true k1
  refine ⟨rfl, ?_⟩
  dsimp only [Option.toList, List.cons_append, List.nil_append]
  refine r_iload_n dX8_read_5 rfl rfl ?_
  refine r_callS [_] (s_X8_needDay iday) dX8_read_6 cs_X8_139 sm_X8_needDay (by decide) (by decide) (by decide) rfl rfl (Nat.le_of_ble_eq_true rfl) (fun E n2 h2 q => by
    obtain ⟨rfl, nk, rfl, rfl⟩ := q
    exact ⟨rfl, Or.inl ⟨by simp [ocL, k1, nk], rfl⟩, rfl, cls_of cc, fun _ _ => rfl⟩) (fun v n2 h2 q => ?_)
  obtain ⟨k2, rfl, rfl, hh⟩ := q
  obtain rfl := hh.symm
  have bday := of_decide_eq_true k2
  refine ⟨rfl, ?_⟩
  dsimp only [Option.toList, List.cons_append, List.nil_append]
  refine r_iload_n dX8_read_9 rfl rfl ?_
  refine r_callS [_] (s_X8_needMinute im) dX8_read_10 cs_X8_142 sm_X8_needMinute (by decide) (by decide) (by decide) rfl rfl (Nat.le_of_ble_eq_true rfl) (fun E n2 h2 q => by
    obtain ⟨rfl, nk, rfl, rfl⟩ := q
    exact ⟨rfl, Or.inl ⟨by simp [ocL, k1, k2, nk], rfl⟩, rfl, cls_of cc, fun _ _ => rfl⟩) (fun v n2 h2 q => ?_)
  obtain ⟨k3, rfl, rfl, hh⟩ := q
  obtain rfl := hh.symm
  have bm := of_decide_eq_true k3
  refine ⟨rfl, ?_⟩
  dsimp only [Option.toList, List.cons_append, List.nil_append]
  refine r_iload dX8_read_13 rfl ?_
  refine r_callS [_] (s_X8_needMinute ito) dX8_read_15 cs_X8_142 sm_X8_needMinute (by decide) (by decide) (by decide) rfl rfl (Nat.le_of_ble_eq_true rfl) (fun E n2 h2 q => by
    obtain ⟨rfl, nk, rfl, rfl⟩ := q
    exact ⟨rfl, Or.inl ⟨by simp [ocL, k1, k2, k3, nk], rfl⟩, rfl, cls_of cc, fun _ _ => rfl⟩) (fun v n2 h2 q => ?_)
  obtain ⟨k4, rfl, rfl, hh⟩ := q
  obtain rfl := hh.symm
  have bto := of_decide_eq_true k4
  refine ⟨rfl, ?_⟩
  dsimp only [Option.toList, List.cons_append, List.nil_append]
  refine r_aload_n dX8_read_18 rfl rfl ?_
  refine r_get (fs := [_, _, _, _, _, _, _, _, _, _, _, _, _, _, _, _, _, _, _, _]) dX8_read_19 fl_X8_72 (by decide) c0 rfl ?_
  refine r_get (fs := [_, _, _, _, _, _, _, _, _, _, _]) dX8_read_22 fl_X8_193 (by decide) c40 rfl ?_
  refine r_bipush dX8_read_25 rfl ?_
  refine r_icmp_lt (tgt := 42) dX8_read_27 (by decide) ⟨by omega, by omega⟩ ⟨by omega, by omega⟩ (fun g27 => ?_) (fun g27 => ?_)
  · refine r_aload_n dX8_read_42 rfl rfl ?_
    refine r_get (fs := [_, _, _, _, _, _, _, _, _, _, _, _, _, _, _, _, _, _, _, _]) dX8_read_43 fl_X8_72 (by decide) c0 rfl ?_
    refine r_iload_n dX8_read_46 rfl rfl ?_
    refine r_iload_n dX8_read_47 rfl rfl ?_
    refine r_iload_n dX8_read_48 rfl rfl ?_
    refine r_iload dX8_read_49 rfl ?_
    refine r_callV 40 [_, _, _, _] (s_X3_addReading c40 c41 c42 c43 c44 c45 c46 c47 c48 ni (by omega)) dX8_read_51 cs_X8_248 im_X3_addReading (by decide) c40 rfl (by decide) (by decide) (by decide) rfl rfl (Nat.le_of_ble_eq_true rfl) (fun _ _ _ q => q.elim) (fun v n2 h2 q => ?_)
    obtain ⟨rfl, rfl, hh⟩ := q
    obtain rfl := hh.symm
    refine ⟨rfl, ?_⟩
    dsimp only [Option.toList, List.cons_append, List.nil_append]
    refine r_iret dX8_read_54 ?_
    rw [if_pos (by omega)] at e0
    rw [e0]
    exact ⟨(by simp [ocL, k1, k2, k3, k4]), rfl, rfl, cls_of ⟨(by first | rfl | exact c0), (by first | rfl | exact c1), (by first | rfl | exact c2), ⟨ht, htp, phl, phi⟩, (by exact pC), ⟨(by first | rfl | exact c40), (by first | rfl | exact c41), (by first | rfl | exact c42), (by first | rfl | exact c43), (by first | rfl | exact c44), (by first | rfl | exact c45), (by first | rfl | exact c46), (by first | rfl | exact c47), (by first | rfl | exact c48), ⟨⟨by omega, by omega⟩, pns, pnm, (up_L prd (by omega)), (up_L pry (by omega)), (up_L prm (by omega)), (up_L prt (by omega)), pse, pmd, pmy, pmt⟩, nsn⟩, (by exact mC), (by exact lC), (by exact s3), (by exact s4), (by exact s5), (by exact s17), (by exact s34), (by exact s58), (by exact s62), (by exact s65), (by exact s66), (by exact s67)⟩, (by repeat (first | exact fun _ _ => rfl | refine fr_up ?_ (by decide)))⟩
  · refine r_aload_n dX8_read_30 rfl rfl ?_
    refine r_get (fs := [_, _, _, _, _, _, _, _, _, _, _, _, _, _, _, _, _, _, _, _]) dX8_read_31 fl_X8_20 (by decide) c0 rfl ?_
    refine r_iconst dX8_read_34 ?_
    refine r_dup2 dX8_read_35 rfl rfl ?_
    refine r_ald dX8_read_36 (by decide) c2 (by omega) (by omega) (by decide) ?_
    refine r_iconst dX8_read_37 ?_
    refine r_iadd dX8_read_38 ?_
    refine r_ast dX8_read_39 (by decide) c2 (by omega) (by omega) (by decide) ?_
    refine r_iconst dX8_read_40 ?_
    refine r_iret dX8_read_41 ?_
    rw [if_neg (by omega)] at e0
    rw [e0]
    exact ⟨(by simp [ocL, k1, k2, k3, k4]), rfl, rfl, cls_of ⟨(by first | rfl | exact c0), (by first | rfl | exact c1), (by first | rfl | exact c2), ⟨ht, htp, phl, phi⟩, (by exact pC), (by exact nC), (by exact mC), (by exact lC), (by exact s3), (by exact s4), (by exact s5), (by exact s17), (by exact s34), (by exact s58), (by exact s62), (by exact s65), (by exact s66), (by exact s67)⟩, (by repeat (first | exact fun _ _ => rfl | refine fr_up ?_ (by decide)))⟩

def unreadS (S : CSt) : Int × CSt := match S with
  | (t, tp, fpl, rf, hlaw, himg, ((nd, sw, nc), (hl, hs), K, U, I, O, G, L, cf, ct, fc, nx, cd), ((nr, ns, nm), rd, ry, rm, rt, se, md, my, mt), M, ls) => if 0 < nr then (nr - 1, (t, tp, fpl, rf, hlaw, himg, ((nd, sw, nc), (hl, hs), K, U, I, O, G, L, cf, ct, fc, nx, cd), ((nr - 1, ns, nm), rd, ry, rm, rt, se, md, my, mt), M, ls)) else (-1, (t, tp, fpl, rf, hlaw, himg, ((nd, sw, nc), (hl, hs), K, U, I, O, G, L, cf, ct, fc, nx, cd), ((nr, ns, nm), rd, ry, rm, rt, se, md, my, mt), M, ls))
theorem s_X8_unread {h : aH} {t : Nat → Int} {tp : Nat} {fpl hlaw himg : Int} {rf : Nat → Int} {nd sw nc hl hs : Int} {K U I O G L cf ct fc nx cd : Nat → Int} {nr ns nm : Int} {rd ry rm rt se md my mt : Nat → Int} {M : ND} {ls : LSm} (cc : CanC h (t, tp, fpl, rf, hlaw, himg, ((nd, sw, nc), (hl, hs), K, U, I, O, G, L, cf, ct, fc, nx, cd), ((nr, ns, nm), rd, ry, rm, rt, se, md, my, mt), M, ls))  : mSem yX8_unread cX8_unread 1 (some .int) 6 0 0 [.ref 0] 97 h (PubQ (ocL []) (some (iv (unreadS (t, tp, fpl, rf, hlaw, himg, ((nd, sw, nc), (hl, hs), K, U, I, O, G, L, cf, ct, fc, nx, cd), ((nr, ns, nm), rd, ry, rm, rt, se, md, my, mt), M, ls) ).1)) h (unreadS (t, tp, fpl, rf, hlaw, himg, ((nd, sw, nc), (hl, hs), K, U, I, O, G, L, cf, ct, fc, nx, cd), ((nr, ns, nm), rd, ry, rm, rt, se, md, my, mt), M, ls) ).2) (PubX (ocL []) h (t, tp, fpl, rf, hlaw, himg, ((nd, sw, nc), (hl, hs), K, U, I, O, G, L, cf, ct, fc, nx, cd), ((nr, ns, nm), rd, ry, rm, rt, se, md, my, mt), M, ls)) := by
  obtain ⟨c0, c1, c2, ⟨ht, htp, phl, phi⟩, pC, nC, mC, lC, s3, s4, s5, s17, s34, s58, s62, s65, s66, s67⟩ := id cc
  obtain ⟨c6, c7, c8, c9, c10, c11, c12, c13, c14, c15, c16, pi⟩ := id pC
  obtain ⟨c40, c41, c42, c43, c44, c45, c46, c47, c48, ni, nsn⟩ := id nC
  obtain ⟨pnd, psw, pnc, pK, pU, pI, pO, pG, pL, pcf, pct, pfc, pnx⟩ := id pi
  obtain ⟨pnr, pns, pnm, prd, pry, prm, prt, pse, pmd, pmy, pmt⟩ := id ni
  have e0 : unreadS (t, tp, fpl, rf, hlaw, himg, ((nd, sw, nc), (hl, hs), K, U, I, O, G, L, cf, ct, fc, nx, cd), ((nr, ns, nm), rd, ry, rm, rt, se, md, my, mt), M, ls)  = if 0 < nr then (nr - 1, (t, tp, fpl, rf, hlaw, himg, ((nd, sw, nc), (hl, hs), K, U, I, O, G, L, cf, ct, fc, nx, cd), ((nr - 1, ns, nm), rd, ry, rm, rt, se, md, my, mt), M, ls)) else (-1, (t, tp, fpl, rf, hlaw, himg, ((nd, sw, nc), (hl, hs), K, U, I, O, G, L, cf, ct, fc, nx, cd), ((nr, ns, nm), rd, ry, rm, rt, se, md, my, mt), M, ls)) := rfl
  refine mSem_of (own := RX8) (name := "unread") pn_X8 rfl rfl (Nat.le_of_ble_eq_true rfl) ?_
  refine r_aload_n dX8_unread_0 rfl rfl ?_
  refine r_get (fs := [_, _, _, _, _, _, _, _, _, _, _, _, _, _, _, _, _, _, _, _]) dX8_unread_1 fl_X8_72 (by decide) c0 rfl ?_
  refine r_get (fs := [_, _, _, _, _, _, _, _, _, _, _]) dX8_unread_4 fl_X8_193 (by decide) c40 rfl ?_
  refine r_if_gt (tgt := 12) dX8_unread_7 (by decide) ⟨by omega, by omega⟩ (fun g7 => ?_) (fun g7 => ?_)
  · refine r_aload_n dX8_unread_12 rfl rfl ?_
    refine r_get (fs := [_, _, _, _, _, _, _, _, _, _, _, _, _, _, _, _, _, _, _, _]) dX8_unread_13 fl_X8_72 (by decide) c0 rfl ?_
    refine r_dup dX8_unread_16 rfl ?_
    refine r_get (fs := [_, _, _, _, _, _, _, _, _, _, _]) dX8_unread_17 fl_X8_193 (by decide) c40 rfl ?_
    refine r_iconst dX8_unread_20 ?_
    refine r_isub dX8_unread_21 ?_
    refine r_put (fs := [_, _, _, _, _, _, _, _, _, _, _]) (fs2 := [_, _, _, _, _, _, _, _, _, _, _]) dX8_unread_22 fp_X8_193 (by decide) c40 (nar_int _) (Nat.le_of_ble_eq_true rfl) rfl ?_
    refine r_aload_n dX8_unread_25 rfl rfl ?_
    refine r_get (fs := [_, _, _, _, _, _, _, _, _, _, _, _, _, _, _, _, _, _, _, _]) dX8_unread_26 fl_X8_72 (by decide) c0 rfl ?_
    refine r_get (fs := [_, _, _, _, _, _, _, _, _, _, _]) dX8_unread_29 fl_X8_193 (by decide) rfl rfl ?_
    refine r_iret dX8_unread_32 ?_
    rw [if_pos (by omega)] at e0
    rw [e0]
    exact ⟨(by simp [ocL]), rfl, rfl, cls_of ⟨(by first | rfl | exact c0), (by first | rfl | exact c1), (by first | rfl | exact c2), ⟨ht, htp, phl, phi⟩, (by exact pC), ⟨(by first | rfl | exact c40), (by first | rfl | exact c41), (by first | rfl | exact c42), (by first | rfl | exact c43), (by first | rfl | exact c44), (by first | rfl | exact c45), (by first | rfl | exact c46), (by first | rfl | exact c47), (by first | rfl | exact c48), ⟨⟨by omega, by omega⟩, pns, pnm, prd, pry, prm, prt, pse, pmd, pmy, pmt⟩, nsn⟩, (by exact mC), (by exact lC), (by exact s3), (by exact s4), (by exact s5), (by exact s17), (by exact s34), (by exact s58), (by exact s62), (by exact s65), (by exact s66), (by exact s67)⟩, (by repeat (first | exact fun _ _ => rfl | refine fr_up ?_ (by decide)))⟩
  · refine r_iconst dX8_unread_10 ?_
    refine r_iret dX8_unread_11 ?_
    rw [if_neg (by omega)] at e0
    rw [e0]
    exact ⟨(by simp [ocL]), rfl, rfl, cls_of cc, (by repeat (first | exact fun _ _ => rfl | refine fr_up ?_ (by decide)))⟩

def undoS (S : CSt) : Int × CSt := match S with
  | (t, tp, fpl, rf, hlaw, himg, ((nd, sw, nc), (hl, hs), K, U, I, O, G, L, cf, ct, fc, nx, cd), ((nr, ns, nm), rd, ry, rm, rt, se, md, my, mt), M, ls) => if 0 < nm then (nm - 1, (t, tp, fpl, rf, hlaw, himg, ((nd, sw, nc), (hl, hs), K, U, I, O, G, L, cf, ct, fc, nx, cd), ((nr, ns, nm - 1), rd, ry, rm, rt, se, md, my, mt), M, ls)) else (-1, (t, tp, fpl, rf, hlaw, himg, ((nd, sw, nc), (hl, hs), K, U, I, O, G, L, cf, ct, fc, nx, cd), ((nr, ns, nm), rd, ry, rm, rt, se, md, my, mt), M, ls))
theorem s_X8_undo {h : aH} {t : Nat → Int} {tp : Nat} {fpl hlaw himg : Int} {rf : Nat → Int} {nd sw nc hl hs : Int} {K U I O G L cf ct fc nx cd : Nat → Int} {nr ns nm : Int} {rd ry rm rt se md my mt : Nat → Int} {M : ND} {ls : LSm} (cc : CanC h (t, tp, fpl, rf, hlaw, himg, ((nd, sw, nc), (hl, hs), K, U, I, O, G, L, cf, ct, fc, nx, cd), ((nr, ns, nm), rd, ry, rm, rt, se, md, my, mt), M, ls))  : mSem yX8_undo cX8_undo 1 (some .int) 6 0 0 [.ref 0] 97 h (PubQ (ocL []) (some (iv (undoS (t, tp, fpl, rf, hlaw, himg, ((nd, sw, nc), (hl, hs), K, U, I, O, G, L, cf, ct, fc, nx, cd), ((nr, ns, nm), rd, ry, rm, rt, se, md, my, mt), M, ls) ).1)) h (undoS (t, tp, fpl, rf, hlaw, himg, ((nd, sw, nc), (hl, hs), K, U, I, O, G, L, cf, ct, fc, nx, cd), ((nr, ns, nm), rd, ry, rm, rt, se, md, my, mt), M, ls) ).2) (PubX (ocL []) h (t, tp, fpl, rf, hlaw, himg, ((nd, sw, nc), (hl, hs), K, U, I, O, G, L, cf, ct, fc, nx, cd), ((nr, ns, nm), rd, ry, rm, rt, se, md, my, mt), M, ls)) := by
  obtain ⟨c0, c1, c2, ⟨ht, htp, phl, phi⟩, pC, nC, mC, lC, s3, s4, s5, s17, s34, s58, s62, s65, s66, s67⟩ := id cc
  obtain ⟨c6, c7, c8, c9, c10, c11, c12, c13, c14, c15, c16, pi⟩ := id pC
  obtain ⟨c40, c41, c42, c43, c44, c45, c46, c47, c48, ni, nsn⟩ := id nC
  obtain ⟨pnd, psw, pnc, pK, pU, pI, pO, pG, pL, pcf, pct, pfc, pnx⟩ := id pi
  obtain ⟨pnr, pns, pnm, prd, pry, prm, prt, pse, pmd, pmy, pmt⟩ := id ni
  have e0 : undoS (t, tp, fpl, rf, hlaw, himg, ((nd, sw, nc), (hl, hs), K, U, I, O, G, L, cf, ct, fc, nx, cd), ((nr, ns, nm), rd, ry, rm, rt, se, md, my, mt), M, ls)  = if 0 < nm then (nm - 1, (t, tp, fpl, rf, hlaw, himg, ((nd, sw, nc), (hl, hs), K, U, I, O, G, L, cf, ct, fc, nx, cd), ((nr, ns, nm - 1), rd, ry, rm, rt, se, md, my, mt), M, ls)) else (-1, (t, tp, fpl, rf, hlaw, himg, ((nd, sw, nc), (hl, hs), K, U, I, O, G, L, cf, ct, fc, nx, cd), ((nr, ns, nm), rd, ry, rm, rt, se, md, my, mt), M, ls)) := rfl
  refine mSem_of (own := RX8) (name := "undo") pn_X8 rfl rfl (Nat.le_of_ble_eq_true rfl) ?_
  refine r_aload_n dX8_undo_0 rfl rfl ?_
  refine r_get (fs := [_, _, _, _, _, _, _, _, _, _, _, _, _, _, _, _, _, _, _, _]) dX8_undo_1 fl_X8_72 (by decide) c0 rfl ?_
  refine r_get (fs := [_, _, _, _, _, _, _, _, _, _, _]) dX8_undo_4 fl_X8_199 (by decide) c40 rfl ?_
  refine r_if_gt (tgt := 12) dX8_undo_7 (by decide) ⟨by omega, by omega⟩ (fun g7 => ?_) (fun g7 => ?_)
  · refine r_aload_n dX8_undo_12 rfl rfl ?_
    refine r_get (fs := [_, _, _, _, _, _, _, _, _, _, _, _, _, _, _, _, _, _, _, _]) dX8_undo_13 fl_X8_72 (by decide) c0 rfl ?_
    refine r_dup dX8_undo_16 rfl ?_
    refine r_get (fs := [_, _, _, _, _, _, _, _, _, _, _]) dX8_undo_17 fl_X8_199 (by decide) c40 rfl ?_
    refine r_iconst dX8_undo_20 ?_
    refine r_isub dX8_undo_21 ?_
    refine r_put (fs := [_, _, _, _, _, _, _, _, _, _, _]) (fs2 := [_, _, _, _, _, _, _, _, _, _, _]) dX8_undo_22 fp_X8_199 (by decide) c40 (nar_int _) (Nat.le_of_ble_eq_true rfl) rfl ?_
    refine r_aload_n dX8_undo_25 rfl rfl ?_
    refine r_get (fs := [_, _, _, _, _, _, _, _, _, _, _, _, _, _, _, _, _, _, _, _]) dX8_undo_26 fl_X8_72 (by decide) c0 rfl ?_
    refine r_get (fs := [_, _, _, _, _, _, _, _, _, _, _]) dX8_undo_29 fl_X8_199 (by decide) rfl rfl ?_
    refine r_iret dX8_undo_32 ?_
    rw [if_pos (by omega)] at e0
    rw [e0]
    exact ⟨(by simp [ocL]), rfl, rfl, cls_of ⟨(by first | rfl | exact c0), (by first | rfl | exact c1), (by first | rfl | exact c2), ⟨ht, htp, phl, phi⟩, (by exact pC), ⟨(by first | rfl | exact c40), (by first | rfl | exact c41), (by first | rfl | exact c42), (by first | rfl | exact c43), (by first | rfl | exact c44), (by first | rfl | exact c45), (by first | rfl | exact c46), (by first | rfl | exact c47), (by first | rfl | exact c48), ⟨pnr, pns, ⟨by omega, by omega⟩, prd, pry, prm, prt, pse, pmd, pmy, pmt⟩, nsn⟩, (by exact mC), (by exact lC), (by exact s3), (by exact s4), (by exact s5), (by exact s17), (by exact s34), (by exact s58), (by exact s62), (by exact s65), (by exact s66), (by exact s67)⟩, (by repeat (first | exact fun _ _ => rfl | refine fr_up ?_ (by decide)))⟩
  · refine r_iconst dX8_undo_10 ?_
    refine r_iret dX8_undo_11 ?_
    rw [if_neg (by omega)] at e0
    rw [e0]
    exact ⟨(by simp [ocL]), rfl, rfl, cls_of cc, (by repeat (first | exact fun _ _ => rfl | refine fr_up ?_ (by decide)))⟩

def seeS (S : CSt) (di to : Int) : Int × CSt := match S with
  | (t, tp, fpl, rf, hlaw, himg, ((nd, sw, nc), (hl, hs), K, U, I, O, G, L, cf, ct, fc, nx, cd), ((nr, ns, nm), rd, ry, rm, rt, se, md, my, mt), M, ls) => if se di.toNat = -1 then (ns + 1, (t, tp, fpl, rf, hlaw, himg, ((nd, sw, nc), (hl, hs), K, U, I, O, G, L, cf, ct, fc, nx, cd), ((nr, ns + 1, nm), rd, ry, rm, rt, va_up se di.toNat to, md, my, mt), M, ls)) else (-1, (t, tp, fpl, (va_up rf 2 (rf 2 + 1)), hlaw, himg, ((nd, sw, nc), (hl, hs), K, U, I, O, G, L, cf, ct, fc, nx, cd), ((nr, ns, nm), rd, ry, rm, rt, se, md, my, mt), M, ls))
theorem s_X8_see {h : aH} {t : Nat → Int} {tp : Nat} {fpl hlaw himg : Int} {rf : Nat → Int} {nd sw nc hl hs : Int} {K U I O G L cf ct fc nx cd : Nat → Int} {nr ns nm : Int} {rd ry rm rt se md my mt : Nat → Int} {M : ND} {ls : LSm} (cc : CanC h (t, tp, fpl, rf, hlaw, himg, ((nd, sw, nc), (hl, hs), K, U, I, O, G, L, cf, ct, fc, nx, cd), ((nr, ns, nm), rd, ry, rm, rt, se, md, my, mt), M, ls)) {di to : Int} (idi : inR di) (ito : inR to)  : mSem yX8_see cX8_see 3 (some .int) 7 2 12 [.ref 0, iv di, iv to] 97 h (PubQ (ocL [(diaB nd di, 1), (minB to, 1)]) (some (iv (seeS (t, tp, fpl, rf, hlaw, himg, ((nd, sw, nc), (hl, hs), K, U, I, O, G, L, cf, ct, fc, nx, cd), ((nr, ns, nm), rd, ry, rm, rt, se, md, my, mt), M, ls) di to).1)) h (seeS (t, tp, fpl, rf, hlaw, himg, ((nd, sw, nc), (hl, hs), K, U, I, O, G, L, cf, ct, fc, nx, cd), ((nr, ns, nm), rd, ry, rm, rt, se, md, my, mt), M, ls) di to).2) (PubX (ocL [(diaB nd di, 1), (minB to, 1)]) h (t, tp, fpl, rf, hlaw, himg, ((nd, sw, nc), (hl, hs), K, U, I, O, G, L, cf, ct, fc, nx, cd), ((nr, ns, nm), rd, ry, rm, rt, se, md, my, mt), M, ls)) := by
  obtain ⟨c0, c1, c2, ⟨ht, htp, phl, phi⟩, pC, nC, mC, lC, s3, s4, s5, s17, s34, s58, s62, s65, s66, s67⟩ := id cc
  obtain ⟨c6, c7, c8, c9, c10, c11, c12, c13, c14, c15, c16, pi⟩ := id pC
  obtain ⟨c40, c41, c42, c43, c44, c45, c46, c47, c48, ni, nsn⟩ := id nC
  obtain ⟨pnd, psw, pnc, pK, pU, pI, pO, pG, pL, pcf, pct, pfc, pnx⟩ := id pi
  obtain ⟨pnr, pns, pnm, prd, pry, prm, prt, pse, pmd, pmy, pmt⟩ := id ni
  unfold inR at idi ito
  have e0 : seeS (t, tp, fpl, rf, hlaw, himg, ((nd, sw, nc), (hl, hs), K, U, I, O, G, L, cf, ct, fc, nx, cd), ((nr, ns, nm), rd, ry, rm, rt, se, md, my, mt), M, ls) di to = if se di.toNat = -1 then (ns + 1, (t, tp, fpl, rf, hlaw, himg, ((nd, sw, nc), (hl, hs), K, U, I, O, G, L, cf, ct, fc, nx, cd), ((nr, ns + 1, nm), rd, ry, rm, rt, va_up se di.toNat to, md, my, mt), M, ls)) else (-1, (t, tp, fpl, (va_up rf 2 (rf 2 + 1)), hlaw, himg, ((nd, sw, nc), (hl, hs), K, U, I, O, G, L, cf, ct, fc, nx, cd), ((nr, ns, nm), rd, ry, rm, rt, se, md, my, mt), M, ls)) := rfl
  have bse := pse di.toNat
  refine mSem_of (own := RX8) (name := "see") pn_X8 rfl rfl (Nat.le_of_ble_eq_true rfl) ?_
  refine r_aload_n dX8_see_0 rfl rfl ?_
  refine r_iload_n dX8_see_1 rfl rfl ?_
  refine r_callV 0 [_] (s_X8_needDial c0 c6 pnd idi) dX8_see_2 cs_X8_209 im_X8_needDial (by decide) c0 rfl (by decide) (by decide) (by decide) rfl rfl (Nat.le_of_ble_eq_true rfl) (fun E n2 h2 q => by
    obtain ⟨rfl, nk, rfl, rfl⟩ := q
    exact ⟨rfl, Or.inl ⟨by simp [ocL, nk], rfl⟩, rfl, cls_of cc, fun _ _ => rfl⟩) (fun v n2 h2 q => ?_)
  obtain ⟨k1, rfl, rfl, hh⟩ := q
  obtain rfl := hh.symm
  have bdi := of_decide_eq_true k1
  refine ⟨rfl, ?_⟩
  dsimp only [Option.toList, List.cons_append, List.nil_append]
  refine r_iload_n dX8_see_5 rfl rfl ?_
  refine r_callS [_] (s_X8_needMinute ito) dX8_see_6 cs_X8_142 sm_X8_needMinute (by decide) (by decide) (by decide) rfl rfl (Nat.le_of_ble_eq_true rfl) (fun E n2 h2 q => by
    obtain ⟨rfl, nk, rfl, rfl⟩ := q
    exact ⟨rfl, Or.inl ⟨by simp [ocL, k1, nk], rfl⟩, rfl, cls_of cc, fun _ _ => rfl⟩) (fun v n2 h2 q => ?_)
  obtain ⟨k2, rfl, rfl, hh⟩ := q
  obtain rfl := hh.symm
  have bto := of_decide_eq_true k2
  refine ⟨rfl, ?_⟩
  dsimp only [Option.toList, List.cons_append, List.nil_append]
  refine r_aload_n dX8_see_9 rfl rfl ?_
  refine r_get (fs := [_, _, _, _, _, _, _, _, _, _, _, _, _, _, _, _, _, _, _, _]) dX8_see_10 fl_X8_72 (by decide) c0 rfl ?_
  refine r_get (fs := [_, _, _, _, _, _, _, _, _, _, _]) dX8_see_13 fl_X8_280 (by decide) c40 rfl ?_
  refine r_iload_n dX8_see_16 rfl rfl ?_
  refine r_ald dX8_see_17 (by decide) c45 (by omega) (by omega) (by decide) ?_
  refine r_iconst dX8_see_18 ?_
  refine r_icmp_eq (tgt := 34) dX8_see_19 (by decide) ⟨by omega, by omega⟩ ⟨by omega, by omega⟩ (fun g19 => ?_) (fun g19 => ?_)
  · refine r_aload_n dX8_see_34 rfl rfl ?_
    refine r_get (fs := [_, _, _, _, _, _, _, _, _, _, _, _, _, _, _, _, _, _, _, _]) dX8_see_35 fl_X8_72 (by decide) c0 rfl ?_
    refine r_get (fs := [_, _, _, _, _, _, _, _, _, _, _]) dX8_see_38 fl_X8_280 (by decide) c40 rfl ?_
    refine r_iload_n dX8_see_41 rfl rfl ?_
    refine r_iload_n dX8_see_42 rfl rfl ?_
    refine r_ast dX8_see_43 (by decide) c45 (by omega) (by omega) (by decide) ?_
    refine r_aload_n dX8_see_44 rfl rfl ?_
    refine r_get (fs := [_, _, _, _, _, _, _, _, _, _, _, _, _, _, _, _, _, _, _, _]) dX8_see_45 fl_X8_72 (by decide) c0 rfl ?_
    refine r_dup dX8_see_48 rfl ?_
    refine r_get (fs := [_, _, _, _, _, _, _, _, _, _, _]) dX8_see_49 fl_X8_196 (by decide) c40 rfl ?_
    refine r_iconst dX8_see_52 ?_
    refine r_iadd dX8_see_53 ?_
    refine r_put (fs := [_, _, _, _, _, _, _, _, _, _, _]) (fs2 := [_, _, _, _, _, _, _, _, _, _, _]) dX8_see_54 fp_X8_196 (by decide) c40 (nar_int _) (Nat.le_of_ble_eq_true rfl) rfl ?_
    refine r_aload_n dX8_see_57 rfl rfl ?_
    refine r_get (fs := [_, _, _, _, _, _, _, _, _, _, _, _, _, _, _, _, _, _, _, _]) dX8_see_58 fl_X8_72 (by decide) c0 rfl ?_
    refine r_get (fs := [_, _, _, _, _, _, _, _, _, _, _]) dX8_see_61 fl_X8_196 (by decide) rfl rfl ?_
    refine r_iret dX8_see_64 ?_
    have sb := snc_B (va_up se di.toNat to) 9
    have su := snc_up (se := se) (di := di) (to := to) (by omega) g19 (by omega) 9
    rw [if_pos (by omega)] at su
    rw [if_pos (by omega)] at e0
    rw [e0]
    exact ⟨(by simp [ocL, k1, k2]), rfl, rfl, cls_of ⟨(by first | rfl | exact c0), (by first | rfl | exact c1), (by first | rfl | exact c2), ⟨ht, htp, phl, phi⟩, (by exact pC), ⟨(by first | rfl | exact c40), (by first | rfl | exact c41), (by first | rfl | exact c42), (by first | rfl | exact c43), (by first | rfl | exact c44), (by first | rfl | exact c45), (by first | rfl | exact c46), (by first | rfl | exact c47), (by first | rfl | exact c48), ⟨pnr, ⟨by omega, by omega⟩, pnm, prd, pry, prm, prt, (up_L pse (by omega)), pmd, pmy, pmt⟩, (by rw [su, nsn])⟩, (by exact mC), (by exact lC), (by exact s3), (by exact s4), (by exact s5), (by exact s17), (by exact s34), (by exact s58), (by exact s62), (by exact s65), (by exact s66), (by exact s67)⟩, (by repeat (first | exact fun _ _ => rfl | refine fr_up ?_ (by decide)))⟩
  · refine r_aload_n dX8_see_22 rfl rfl ?_
    refine r_get (fs := [_, _, _, _, _, _, _, _, _, _, _, _, _, _, _, _, _, _, _, _]) dX8_see_23 fl_X8_20 (by decide) c0 rfl ?_
    refine r_iconst dX8_see_26 ?_
    refine r_dup2 dX8_see_27 rfl rfl ?_
    refine r_ald dX8_see_28 (by decide) c2 (by omega) (by omega) (by decide) ?_
    refine r_iconst dX8_see_29 ?_
    refine r_iadd dX8_see_30 ?_
    refine r_ast dX8_see_31 (by decide) c2 (by omega) (by omega) (by decide) ?_
    refine r_iconst dX8_see_32 ?_
    refine r_iret dX8_see_33 ?_
    rw [if_neg (by omega)] at e0
    rw [e0]
    exact ⟨(by simp [ocL, k1, k2]), rfl, rfl, cls_of ⟨(by first | rfl | exact c0), (by first | rfl | exact c1), (by first | rfl | exact c2), ⟨ht, htp, phl, phi⟩, (by exact pC), (by exact nC), (by exact mC), (by exact lC), (by exact s3), (by exact s4), (by exact s5), (by exact s17), (by exact s34), (by exact s58), (by exact s62), (by exact s65), (by exact s66), (by exact s67)⟩, (by repeat (first | exact fun _ _ => rfl | refine fr_up ?_ (by decide)))⟩

def forgetS (S : CSt) : Int × CSt := match S with
  | (t, tp, fpl, rf, hlaw, himg, ((nd, sw, nc), (hl, hs), K, U, I, O, G, L, cf, ct, fc, nx, cd), ((nr, ns, nm), rd, ry, rm, rt, se, md, my, mt), M, ls) => (ns, (t, tp, fpl, rf, hlaw, himg, ((nd, sw, nc), (hl, hs), K, U, I, O, G, L, cf, ct, fc, nx, cd), ((nr, 0, nm), rd, ry, rm, rt, fillF se (-1) 9, md, my, mt), M, ls))
theorem s_X8_forget {h : aH} {t : Nat → Int} {tp : Nat} {fpl hlaw himg : Int} {rf : Nat → Int} {nd sw nc hl hs : Int} {K U I O G L cf ct fc nx cd : Nat → Int} {nr ns nm : Int} {rd ry rm rt se md my mt : Nat → Int} {M : ND} {ls : LSm} (cc : CanC h (t, tp, fpl, rf, hlaw, himg, ((nd, sw, nc), (hl, hs), K, U, I, O, G, L, cf, ct, fc, nx, cd), ((nr, ns, nm), rd, ry, rm, rt, se, md, my, mt), M, ls))  : mSem yX8_forget cX8_forget 2 (some .int) 6 0 0 [.ref 0] 97 h (PubQ (ocL []) (some (iv (forgetS (t, tp, fpl, rf, hlaw, himg, ((nd, sw, nc), (hl, hs), K, U, I, O, G, L, cf, ct, fc, nx, cd), ((nr, ns, nm), rd, ry, rm, rt, se, md, my, mt), M, ls)).1)) h (forgetS (t, tp, fpl, rf, hlaw, himg, ((nd, sw, nc), (hl, hs), K, U, I, O, G, L, cf, ct, fc, nx, cd), ((nr, ns, nm), rd, ry, rm, rt, se, md, my, mt), M, ls)).2) (PubX (ocL []) h (t, tp, fpl, rf, hlaw, himg, ((nd, sw, nc), (hl, hs), K, U, I, O, G, L, cf, ct, fc, nx, cd), ((nr, ns, nm), rd, ry, rm, rt, se, md, my, mt), M, ls)) := by
  obtain ⟨c0, c1, c2, ⟨ht, htp, phl, phi⟩, pC, nC, mC, lC, s3, s4, s5, s17, s34, s58, s62, s65, s66, s67⟩ := id cc
  obtain ⟨c6, c7, c8, c9, c10, c11, c12, c13, c14, c15, c16, pi⟩ := id pC
  obtain ⟨c40, c41, c42, c43, c44, c45, c46, c47, c48, ni, nsn⟩ := id nC
  obtain ⟨pnd, psw, pnc, pK, pU, pI, pO, pG, pL, pcf, pct, pfc, pnx⟩ := id pi
  obtain ⟨pnr, pns, pnm, prd, pry, prm, prt, pse, pmd, pmy, pmt⟩ := id ni
  refine mSem_of (own := RX8) (name := "forget") pn_X8 rfl rfl (Nat.le_of_ble_eq_true rfl) ?_
  refine r_aload_n dX8_forget_0 rfl rfl ?_
  refine r_get (fs := [_, _, _, _, _, _, _, _, _, _, _, _, _, _, _, _, _, _, _, _]) dX8_forget_1 fl_X8_72 (by decide) c0 rfl ?_
  refine r_get (fs := [_, _, _, _, _, _, _, _, _, _, _]) dX8_forget_4 fl_X8_196 (by decide) c40 rfl ?_
  refine r_istore_n (lv2 := [(0, _), (1, _)]) dX8_forget_7 rfl (by decide) rfl rfl ?_
  refine r_aload_n dX8_forget_8 rfl rfl ?_
  refine r_get (fs := [_, _, _, _, _, _, _, _, _, _, _, _, _, _, _, _, _, _, _, _]) dX8_forget_9 fl_X8_72 (by decide) c0 rfl ?_
  refine r_callV 40 [] (s_X3_clearSeen c40 c41 c42 c43 c44 c45 c46 c47 c48 ni) dX8_forget_12 cs_X8_283 im_X3_clearSeen (by decide) c40 rfl (by decide) (by decide) (by decide) rfl rfl (Nat.le_of_ble_eq_true rfl) (fun _ _ _ q => q.elim) (fun v n2 h2 q => ?_)
  obtain ⟨rfl, rfl, hh⟩ := q
  obtain rfl := hh.symm
  refine ⟨rfl, ?_⟩
  dsimp only [Option.toList, List.cons_append, List.nil_append]
  refine r_iload_n dX8_forget_15 rfl rfl ?_
  refine r_iret dX8_forget_16 ?_
  exact ⟨(by simp [ocL]), rfl, rfl, cls_of ⟨(by first | rfl | exact c0), (by first | rfl | exact c1), (by first | rfl | exact c2), ⟨ht, htp, phl, phi⟩, (by exact pC), ⟨(by first | rfl | exact c40), (by first | rfl | exact c41), (by first | rfl | exact c42), (by first | rfl | exact c43), (by first | rfl | exact c44), (by first | rfl | exact c45), (by first | rfl | exact c46), (by first | rfl | exact c47), (by first | rfl | exact c48), ⟨pnr, ⟨Int.le_refl 0, by show (0 : Int) ≤ 9; decide⟩, pnm, prd, pry, prm, prt, (fill_L pse (by decide)), pmd, pmy, pmt⟩, (snc_fill se 9 (Nat.le_refl _)).symm⟩, (by exact mC), (by exact lC), (by exact s3), (by exact s4), (by exact s5), (by exact s17), (by exact s34), (by exact s58), (by exact s62), (by exact s65), (by exact s66), (by exact s67)⟩, (by repeat (first | exact fun _ _ => rfl | refine fr_up ?_ (by decide)))⟩

def mendS (S : CSt) (di day tu : Int) : Int × CSt := match S with
  | (t, tp, fpl, rf, hlaw, himg, ((nd, sw, nc), (hl, hs), K, U, I, O, G, L, cf, ct, fc, nx, cd), ((nr, ns, nm), rd, ry, rm, rt, se, md, my, mt), M, ls) => if nm < 40 ∧ ¬ K di.toNat = 5 ∧ -120 ≤ tu ∧ tu ≤ 120 then (nm + 1, (t, tp, fpl, rf, hlaw, himg, ((nd, sw, nc), (hl, hs), K, U, I, O, G, L, cf, ct, fc, nx, cd), ((nr, ns, nm + 1), rd, ry, rm, rt, se, va_up md nm.toNat di, va_up my nm.toNat day, va_up mt nm.toNat tu), M, ls)) else (-1, (t, tp, fpl, (va_up rf 3 (rf 3 + 1)), hlaw, himg, ((nd, sw, nc), (hl, hs), K, U, I, O, G, L, cf, ct, fc, nx, cd), ((nr, ns, nm), rd, ry, rm, rt, se, md, my, mt), M, ls))
theorem s_X8_mend {h : aH} {t : Nat → Int} {tp : Nat} {fpl hlaw himg : Int} {rf : Nat → Int} {nd sw nc hl hs : Int} {K U I O G L cf ct fc nx cd : Nat → Int} {nr ns nm : Int} {rd ry rm rt se md my mt : Nat → Int} {M : ND} {ls : LSm} (cc : CanC h (t, tp, fpl, rf, hlaw, himg, ((nd, sw, nc), (hl, hs), K, U, I, O, G, L, cf, ct, fc, nx, cd), ((nr, ns, nm), rd, ry, rm, rt, se, md, my, mt), M, ls)) {di day tu : Int} (idi : inR di) (iday : inR day) (itu : inR tu)  : mSem yX8_mend cX8_mend 5 (some .int) 7 2 12 [.ref 0, iv di, iv day, iv tu] 97 h (PubQ (ocL [(diaB nd di, 1), (dayB day, 1)]) (some (iv (mendS (t, tp, fpl, rf, hlaw, himg, ((nd, sw, nc), (hl, hs), K, U, I, O, G, L, cf, ct, fc, nx, cd), ((nr, ns, nm), rd, ry, rm, rt, se, md, my, mt), M, ls) di day tu).1)) h (mendS (t, tp, fpl, rf, hlaw, himg, ((nd, sw, nc), (hl, hs), K, U, I, O, G, L, cf, ct, fc, nx, cd), ((nr, ns, nm), rd, ry, rm, rt, se, md, my, mt), M, ls) di day tu).2) (PubX (ocL [(diaB nd di, 1), (dayB day, 1)]) h (t, tp, fpl, rf, hlaw, himg, ((nd, sw, nc), (hl, hs), K, U, I, O, G, L, cf, ct, fc, nx, cd), ((nr, ns, nm), rd, ry, rm, rt, se, md, my, mt), M, ls)) := by
  obtain ⟨c0, c1, c2, ⟨ht, htp, phl, phi⟩, pC, nC, mC, lC, s3, s4, s5, s17, s34, s58, s62, s65, s66, s67⟩ := id cc
  obtain ⟨c6, c7, c8, c9, c10, c11, c12, c13, c14, c15, c16, pi⟩ := id pC
  obtain ⟨c40, c41, c42, c43, c44, c45, c46, c47, c48, ni, nsn⟩ := id nC
  obtain ⟨pnd, psw, pnc, pK, pU, pI, pO, pG, pL, pcf, pct, pfc, pnx⟩ := id pi
  obtain ⟨pnr, pns, pnm, prd, pry, prm, prt, pse, pmd, pmy, pmt⟩ := id ni
  unfold inR at idi iday itu
  have e0 : mendS (t, tp, fpl, rf, hlaw, himg, ((nd, sw, nc), (hl, hs), K, U, I, O, G, L, cf, ct, fc, nx, cd), ((nr, ns, nm), rd, ry, rm, rt, se, md, my, mt), M, ls) di day tu = if nm < 40 ∧ ¬ K di.toNat = 5 ∧ -120 ≤ tu ∧ tu ≤ 120 then (nm + 1, (t, tp, fpl, rf, hlaw, himg, ((nd, sw, nc), (hl, hs), K, U, I, O, G, L, cf, ct, fc, nx, cd), ((nr, ns, nm + 1), rd, ry, rm, rt, se, va_up md nm.toNat di, va_up my nm.toNat day, va_up mt nm.toNat tu), M, ls)) else (-1, (t, tp, fpl, (va_up rf 3 (rf 3 + 1)), hlaw, himg, ((nd, sw, nc), (hl, hs), K, U, I, O, G, L, cf, ct, fc, nx, cd), ((nr, ns, nm), rd, ry, rm, rt, se, md, my, mt), M, ls)) := rfl
  have bK := pK di.toNat
  refine mSem_of (own := RX8) (name := "mend") pn_X8 rfl rfl (Nat.le_of_ble_eq_true rfl) ?_
  refine r_aload_n dX8_mend_0 rfl rfl ?_
  refine r_iload_n dX8_mend_1 rfl rfl ?_
  refine r_callV 0 [_] (s_X8_needDial c0 c6 pnd idi) dX8_mend_2 cs_X8_209 im_X8_needDial (by decide) c0 rfl (by decide) (by decide) (by decide) rfl rfl (Nat.le_of_ble_eq_true rfl) (fun E n2 h2 q => by
    obtain ⟨rfl, nk, rfl, rfl⟩ := q
    exact ⟨rfl, Or.inl ⟨by simp [ocL, nk], rfl⟩, rfl, cls_of cc, fun _ _ => rfl⟩) (fun v n2 h2 q => ?_)
  obtain ⟨k1, rfl, rfl, hh⟩ := q
  obtain rfl := hh.symm
  have bdi := of_decide_eq_true k1
  refine ⟨rfl, ?_⟩
  dsimp only [Option.toList, List.cons_append, List.nil_append]
  refine r_iload_n dX8_mend_5 rfl rfl ?_
  refine r_callS [_] (s_X8_needDay iday) dX8_mend_6 cs_X8_139 sm_X8_needDay (by decide) (by decide) (by decide) rfl rfl (Nat.le_of_ble_eq_true rfl) (fun E n2 h2 q => by
    obtain ⟨rfl, nk, rfl, rfl⟩ := q
    exact ⟨rfl, Or.inl ⟨by simp [ocL, k1, nk], rfl⟩, rfl, cls_of cc, fun _ _ => rfl⟩) (fun v n2 h2 q => ?_)
  obtain ⟨k2, rfl, rfl, hh⟩ := q
  obtain rfl := hh.symm
  have bday := of_decide_eq_true k2
  refine ⟨rfl, ?_⟩
  dsimp only [Option.toList, List.cons_append, List.nil_append]
  refine r_iload_n dX8_mend_9 rfl rfl ?_
  refine r_bipush dX8_mend_10 rfl ?_
  refine r_icmp_lt (tgt := 25) dX8_mend_12 (by decide) ⟨by omega, by omega⟩ ⟨by omega, by omega⟩ (fun g12 => ?_) (fun g12 => ?_)
  · refine r_iconst dX8_mend_25 ?_
    refine r_istore (lv2 := [(0, _), (1, _), (2, _), (3, _), (4, _)]) dX8_mend_26 (by decide) rfl rfl ?_
    refine r_aload_n dX8_mend_28 rfl rfl ?_
    refine r_get (fs := [_, _, _, _, _, _, _, _, _, _, _, _, _, _, _, _, _, _, _, _]) dX8_mend_29 fl_X8_72 (by decide) c0 rfl ?_
    refine r_get (fs := [_, _, _, _, _, _, _, _, _, _, _]) dX8_mend_32 fl_X8_199 (by decide) c40 rfl ?_
    refine r_bipush dX8_mend_35 rfl ?_
    refine r_icmp_ge (tgt := 58) dX8_mend_37 (by decide) ⟨by omega, by omega⟩ ⟨by omega, by omega⟩ (fun g37 => ?_) (fun g37 => ?_)
    · refine r_aload_n dX8_mend_58 rfl rfl ?_
      refine r_get (fs := [_, _, _, _, _, _, _, _, _, _, _, _, _, _, _, _, _, _, _, _]) dX8_mend_59 fl_X8_20 (by decide) c0 rfl ?_
      refine r_iconst dX8_mend_62 ?_
      refine r_dup2 dX8_mend_63 rfl rfl ?_
      refine r_ald dX8_mend_64 (by decide) c2 (by omega) (by omega) (by decide) ?_
      refine r_iconst dX8_mend_65 ?_
      refine r_iadd dX8_mend_66 ?_
      refine r_ast dX8_mend_67 (by decide) c2 (by omega) (by omega) (by decide) ?_
      refine r_iconst dX8_mend_68 ?_
      refine r_iret dX8_mend_69 ?_
      rw [if_neg (by omega)] at e0
      rw [e0]
      exact ⟨(by simp [ocL, k1, k2]), rfl, rfl, cls_of ⟨(by first | rfl | exact c0), (by first | rfl | exact c1), (by first | rfl | exact c2), ⟨ht, htp, phl, phi⟩, (by exact pC), (by exact nC), (by exact mC), (by exact lC), (by exact s3), (by exact s4), (by exact s5), (by exact s17), (by exact s34), (by exact s58), (by exact s62), (by exact s65), (by exact s66), (by exact s67)⟩, (by repeat (first | exact fun _ _ => rfl | refine fr_up ?_ (by decide)))⟩
    · refine r_aload_n dX8_mend_40 rfl rfl ?_
      refine r_get (fs := [_, _, _, _, _, _, _, _, _, _, _, _, _, _, _, _, _, _, _, _]) dX8_mend_41 fl_X8_48 (by decide) c0 rfl ?_
      refine r_get (fs := [_, _, _, _, _, _, _, _, _, _, _, _, _]) dX8_mend_44 fl_X8_212 (by decide) c6 rfl ?_
      refine r_iload_n dX8_mend_47 rfl rfl ?_
      refine r_ald dX8_mend_48 (by decide) c7 (by omega) (by omega) (by decide) ?_
      refine r_iconst dX8_mend_49 ?_
      refine r_icmp_eq (tgt := 58) dX8_mend_50 (by decide) ⟨by omega, by omega⟩ ⟨by omega, by omega⟩ (fun g50 => ?_) (fun g50 => ?_)
      · refine r_aload_n dX8_mend_58 rfl rfl ?_
        refine r_get (fs := [_, _, _, _, _, _, _, _, _, _, _, _, _, _, _, _, _, _, _, _]) dX8_mend_59 fl_X8_20 (by decide) c0 rfl ?_
        refine r_iconst dX8_mend_62 ?_
        refine r_dup2 dX8_mend_63 rfl rfl ?_
        refine r_ald dX8_mend_64 (by decide) c2 (by omega) (by omega) (by decide) ?_
        refine r_iconst dX8_mend_65 ?_
        refine r_iadd dX8_mend_66 ?_
        refine r_ast dX8_mend_67 (by decide) c2 (by omega) (by omega) (by decide) ?_
        refine r_iconst dX8_mend_68 ?_
        refine r_iret dX8_mend_69 ?_
        rw [if_neg (by omega)] at e0
        rw [e0]
        exact ⟨(by simp [ocL, k1, k2]), rfl, rfl, cls_of ⟨(by first | rfl | exact c0), (by first | rfl | exact c1), (by first | rfl | exact c2), ⟨ht, htp, phl, phi⟩, (by exact pC), (by exact nC), (by exact mC), (by exact lC), (by exact s3), (by exact s4), (by exact s5), (by exact s17), (by exact s34), (by exact s58), (by exact s62), (by exact s65), (by exact s66), (by exact s67)⟩, (by repeat (first | exact fun _ _ => rfl | refine fr_up ?_ (by decide)))⟩
      · refine r_iload dX8_mend_53 rfl ?_
        refine r_if_ne (tgt := 70) dX8_mend_55 (by decide) ⟨by omega, by omega⟩ (fun g55 => ?_) (fun g55 => ?_)
        · refine r_aload_n dX8_mend_70 rfl rfl ?_
          refine r_get (fs := [_, _, _, _, _, _, _, _, _, _, _, _, _, _, _, _, _, _, _, _]) dX8_mend_71 fl_X8_72 (by decide) c0 rfl ?_
          refine r_iload_n dX8_mend_74 rfl rfl ?_
          refine r_iload_n dX8_mend_75 rfl rfl ?_
          refine r_iload_n dX8_mend_76 rfl rfl ?_
          refine r_callV 40 [_, _, _] (s_X3_addMend c40 c41 c42 c43 c44 c45 c46 c47 c48 ni (by omega)) dX8_mend_77 cs_X8_322 im_X3_addMend (by decide) c40 rfl (by decide) (by decide) (by decide) rfl rfl (Nat.le_of_ble_eq_true rfl) (fun _ _ _ q => q.elim) (fun v n2 h2 q => ?_)
          obtain ⟨rfl, rfl, hh⟩ := q
          obtain rfl := hh.symm
          refine ⟨rfl, ?_⟩
          dsimp only [Option.toList, List.cons_append, List.nil_append]
          refine r_iret dX8_mend_80 ?_
          rw [if_pos (by omega)] at e0
          rw [e0]
          exact ⟨(by simp [ocL, k1, k2]), rfl, rfl, cls_of ⟨(by first | rfl | exact c0), (by first | rfl | exact c1), (by first | rfl | exact c2), ⟨ht, htp, phl, phi⟩, (by exact pC), ⟨(by first | rfl | exact c40), (by first | rfl | exact c41), (by first | rfl | exact c42), (by first | rfl | exact c43), (by first | rfl | exact c44), (by first | rfl | exact c45), (by first | rfl | exact c46), (by first | rfl | exact c47), (by first | rfl | exact c48), ⟨pnr, pns, ⟨by omega, by omega⟩, prd, pry, prm, prt, pse, (up_L pmd (by omega)), (up_L pmy (by omega)), (up_R pmt (by omega))⟩, nsn⟩, (by exact mC), (by exact lC), (by exact s3), (by exact s4), (by exact s5), (by exact s17), (by exact s34), (by exact s58), (by exact s62), (by exact s65), (by exact s66), (by exact s67)⟩, (by repeat (first | exact fun _ _ => rfl | refine fr_up ?_ (by decide)))⟩
        · refine r_aload_n dX8_mend_58 rfl rfl ?_
          refine r_get (fs := [_, _, _, _, _, _, _, _, _, _, _, _, _, _, _, _, _, _, _, _]) dX8_mend_59 fl_X8_20 (by decide) c0 rfl ?_
          refine r_iconst dX8_mend_62 ?_
          refine r_dup2 dX8_mend_63 rfl rfl ?_
          refine r_ald dX8_mend_64 (by decide) c2 (by omega) (by omega) (by decide) ?_
          refine r_iconst dX8_mend_65 ?_
          refine r_iadd dX8_mend_66 ?_
          refine r_ast dX8_mend_67 (by decide) c2 (by omega) (by omega) (by decide) ?_
          refine r_iconst dX8_mend_68 ?_
          refine r_iret dX8_mend_69 ?_
          rw [if_neg (by omega)] at e0
          rw [e0]
          exact ⟨(by simp [ocL, k1, k2]), rfl, rfl, cls_of ⟨(by first | rfl | exact c0), (by first | rfl | exact c1), (by first | rfl | exact c2), ⟨ht, htp, phl, phi⟩, (by exact pC), (by exact nC), (by exact mC), (by exact lC), (by exact s3), (by exact s4), (by exact s5), (by exact s17), (by exact s34), (by exact s58), (by exact s62), (by exact s65), (by exact s66), (by exact s67)⟩, (by repeat (first | exact fun _ _ => rfl | refine fr_up ?_ (by decide)))⟩
  · refine r_iload_n dX8_mend_15 rfl rfl ?_
    refine r_bipush dX8_mend_16 rfl ?_
    refine r_icmp_gt (tgt := 25) dX8_mend_18 (by decide) ⟨by omega, by omega⟩ ⟨by omega, by omega⟩ (fun g18 => ?_) (fun g18 => ?_)
    · refine r_iconst dX8_mend_25 ?_
      refine r_istore (lv2 := [(0, _), (1, _), (2, _), (3, _), (4, _)]) dX8_mend_26 (by decide) rfl rfl ?_
      refine r_aload_n dX8_mend_28 rfl rfl ?_
      refine r_get (fs := [_, _, _, _, _, _, _, _, _, _, _, _, _, _, _, _, _, _, _, _]) dX8_mend_29 fl_X8_72 (by decide) c0 rfl ?_
      refine r_get (fs := [_, _, _, _, _, _, _, _, _, _, _]) dX8_mend_32 fl_X8_199 (by decide) c40 rfl ?_
      refine r_bipush dX8_mend_35 rfl ?_
      refine r_icmp_ge (tgt := 58) dX8_mend_37 (by decide) ⟨by omega, by omega⟩ ⟨by omega, by omega⟩ (fun g37 => ?_) (fun g37 => ?_)
      · refine r_aload_n dX8_mend_58 rfl rfl ?_
        refine r_get (fs := [_, _, _, _, _, _, _, _, _, _, _, _, _, _, _, _, _, _, _, _]) dX8_mend_59 fl_X8_20 (by decide) c0 rfl ?_
        refine r_iconst dX8_mend_62 ?_
        refine r_dup2 dX8_mend_63 rfl rfl ?_
        refine r_ald dX8_mend_64 (by decide) c2 (by omega) (by omega) (by decide) ?_
        refine r_iconst dX8_mend_65 ?_
        refine r_iadd dX8_mend_66 ?_
        refine r_ast dX8_mend_67 (by decide) c2 (by omega) (by omega) (by decide) ?_
        refine r_iconst dX8_mend_68 ?_
        refine r_iret dX8_mend_69 ?_
        rw [if_neg (by omega)] at e0
        rw [e0]
        exact ⟨(by simp [ocL, k1, k2]), rfl, rfl, cls_of ⟨(by first | rfl | exact c0), (by first | rfl | exact c1), (by first | rfl | exact c2), ⟨ht, htp, phl, phi⟩, (by exact pC), (by exact nC), (by exact mC), (by exact lC), (by exact s3), (by exact s4), (by exact s5), (by exact s17), (by exact s34), (by exact s58), (by exact s62), (by exact s65), (by exact s66), (by exact s67)⟩, (by repeat (first | exact fun _ _ => rfl | refine fr_up ?_ (by decide)))⟩
      · refine r_aload_n dX8_mend_40 rfl rfl ?_
        refine r_get (fs := [_, _, _, _, _, _, _, _, _, _, _, _, _, _, _, _, _, _, _, _]) dX8_mend_41 fl_X8_48 (by decide) c0 rfl ?_
        refine r_get (fs := [_, _, _, _, _, _, _, _, _, _, _, _, _]) dX8_mend_44 fl_X8_212 (by decide) c6 rfl ?_
        refine r_iload_n dX8_mend_47 rfl rfl ?_
        refine r_ald dX8_mend_48 (by decide) c7 (by omega) (by omega) (by decide) ?_
        refine r_iconst dX8_mend_49 ?_
        refine r_icmp_eq (tgt := 58) dX8_mend_50 (by decide) ⟨by omega, by omega⟩ ⟨by omega, by omega⟩ (fun g50 => ?_) (fun g50 => ?_)
        · refine r_aload_n dX8_mend_58 rfl rfl ?_
          refine r_get (fs := [_, _, _, _, _, _, _, _, _, _, _, _, _, _, _, _, _, _, _, _]) dX8_mend_59 fl_X8_20 (by decide) c0 rfl ?_
          refine r_iconst dX8_mend_62 ?_
          refine r_dup2 dX8_mend_63 rfl rfl ?_
          refine r_ald dX8_mend_64 (by decide) c2 (by omega) (by omega) (by decide) ?_
          refine r_iconst dX8_mend_65 ?_
          refine r_iadd dX8_mend_66 ?_
          refine r_ast dX8_mend_67 (by decide) c2 (by omega) (by omega) (by decide) ?_
          refine r_iconst dX8_mend_68 ?_
          refine r_iret dX8_mend_69 ?_
          rw [if_neg (by omega)] at e0
          rw [e0]
          exact ⟨(by simp [ocL, k1, k2]), rfl, rfl, cls_of ⟨(by first | rfl | exact c0), (by first | rfl | exact c1), (by first | rfl | exact c2), ⟨ht, htp, phl, phi⟩, (by exact pC), (by exact nC), (by exact mC), (by exact lC), (by exact s3), (by exact s4), (by exact s5), (by exact s17), (by exact s34), (by exact s58), (by exact s62), (by exact s65), (by exact s66), (by exact s67)⟩, (by repeat (first | exact fun _ _ => rfl | refine fr_up ?_ (by decide)))⟩
        · refine r_iload dX8_mend_53 rfl ?_
          refine r_if_ne (tgt := 70) dX8_mend_55 (by decide) ⟨by omega, by omega⟩ (fun g55 => ?_) (fun g55 => ?_)
          · refine r_aload_n dX8_mend_70 rfl rfl ?_
            refine r_get (fs := [_, _, _, _, _, _, _, _, _, _, _, _, _, _, _, _, _, _, _, _]) dX8_mend_71 fl_X8_72 (by decide) c0 rfl ?_
            refine r_iload_n dX8_mend_74 rfl rfl ?_
            refine r_iload_n dX8_mend_75 rfl rfl ?_
            refine r_iload_n dX8_mend_76 rfl rfl ?_
            refine r_callV 40 [_, _, _] (s_X3_addMend c40 c41 c42 c43 c44 c45 c46 c47 c48 ni (by omega)) dX8_mend_77 cs_X8_322 im_X3_addMend (by decide) c40 rfl (by decide) (by decide) (by decide) rfl rfl (Nat.le_of_ble_eq_true rfl) (fun _ _ _ q => q.elim) (fun v n2 h2 q => ?_)
            obtain ⟨rfl, rfl, hh⟩ := q
            obtain rfl := hh.symm
            refine ⟨rfl, ?_⟩
            dsimp only [Option.toList, List.cons_append, List.nil_append]
            refine r_iret dX8_mend_80 ?_
            rw [if_pos (by omega)] at e0
            rw [e0]
            exact ⟨(by simp [ocL, k1, k2]), rfl, rfl, cls_of ⟨(by first | rfl | exact c0), (by first | rfl | exact c1), (by first | rfl | exact c2), ⟨ht, htp, phl, phi⟩, (by exact pC), ⟨(by first | rfl | exact c40), (by first | rfl | exact c41), (by first | rfl | exact c42), (by first | rfl | exact c43), (by first | rfl | exact c44), (by first | rfl | exact c45), (by first | rfl | exact c46), (by first | rfl | exact c47), (by first | rfl | exact c48), ⟨pnr, pns, ⟨by omega, by omega⟩, prd, pry, prm, prt, pse, (up_L pmd (by omega)), (up_L pmy (by omega)), (up_R pmt (by omega))⟩, nsn⟩, (by exact mC), (by exact lC), (by exact s3), (by exact s4), (by exact s5), (by exact s17), (by exact s34), (by exact s58), (by exact s62), (by exact s65), (by exact s66), (by exact s67)⟩, (by repeat (first | exact fun _ _ => rfl | refine fr_up ?_ (by decide)))⟩
          · refine r_aload_n dX8_mend_58 rfl rfl ?_
            refine r_get (fs := [_, _, _, _, _, _, _, _, _, _, _, _, _, _, _, _, _, _, _, _]) dX8_mend_59 fl_X8_20 (by decide) c0 rfl ?_
            refine r_iconst dX8_mend_62 ?_
            refine r_dup2 dX8_mend_63 rfl rfl ?_
            refine r_ald dX8_mend_64 (by decide) c2 (by omega) (by omega) (by decide) ?_
            refine r_iconst dX8_mend_65 ?_
            refine r_iadd dX8_mend_66 ?_
            refine r_ast dX8_mend_67 (by decide) c2 (by omega) (by omega) (by decide) ?_
            refine r_iconst dX8_mend_68 ?_
            refine r_iret dX8_mend_69 ?_
            rw [if_neg (by omega)] at e0
            rw [e0]
            exact ⟨(by simp [ocL, k1, k2]), rfl, rfl, cls_of ⟨(by first | rfl | exact c0), (by first | rfl | exact c1), (by first | rfl | exact c2), ⟨ht, htp, phl, phi⟩, (by exact pC), (by exact nC), (by exact mC), (by exact lC), (by exact s3), (by exact s4), (by exact s5), (by exact s17), (by exact s34), (by exact s58), (by exact s62), (by exact s65), (by exact s66), (by exact s67)⟩, (by repeat (first | exact fun _ _ => rfl | refine fr_up ?_ (by decide)))⟩
    · refine r_iconst dX8_mend_21 ?_
      refine r_goto (tgt := 26) dX8_mend_22 (by decide) ?_
      refine r_istore (lv2 := [(0, _), (1, _), (2, _), (3, _), (4, _)]) dX8_mend_26 (by decide) rfl rfl ?_
      refine r_aload_n dX8_mend_28 rfl rfl ?_
      refine r_get (fs := [_, _, _, _, _, _, _, _, _, _, _, _, _, _, _, _, _, _, _, _]) dX8_mend_29 fl_X8_72 (by decide) c0 rfl ?_
      refine r_get (fs := [_, _, _, _, _, _, _, _, _, _, _]) dX8_mend_32 fl_X8_199 (by decide) c40 rfl ?_
      refine r_bipush dX8_mend_35 rfl ?_
      refine r_icmp_ge (tgt := 58) dX8_mend_37 (by decide) ⟨by omega, by omega⟩ ⟨by omega, by omega⟩ (fun g37 => ?_) (fun g37 => ?_)
      · refine r_aload_n dX8_mend_58 rfl rfl ?_
        refine r_get (fs := [_, _, _, _, _, _, _, _, _, _, _, _, _, _, _, _, _, _, _, _]) dX8_mend_59 fl_X8_20 (by decide) c0 rfl ?_
        refine r_iconst dX8_mend_62 ?_
        refine r_dup2 dX8_mend_63 rfl rfl ?_
        refine r_ald dX8_mend_64 (by decide) c2 (by omega) (by omega) (by decide) ?_
        refine r_iconst dX8_mend_65 ?_
        refine r_iadd dX8_mend_66 ?_
        refine r_ast dX8_mend_67 (by decide) c2 (by omega) (by omega) (by decide) ?_
        refine r_iconst dX8_mend_68 ?_
        refine r_iret dX8_mend_69 ?_
        rw [if_neg (by omega)] at e0
        rw [e0]
        exact ⟨(by simp [ocL, k1, k2]), rfl, rfl, cls_of ⟨(by first | rfl | exact c0), (by first | rfl | exact c1), (by first | rfl | exact c2), ⟨ht, htp, phl, phi⟩, (by exact pC), (by exact nC), (by exact mC), (by exact lC), (by exact s3), (by exact s4), (by exact s5), (by exact s17), (by exact s34), (by exact s58), (by exact s62), (by exact s65), (by exact s66), (by exact s67)⟩, (by repeat (first | exact fun _ _ => rfl | refine fr_up ?_ (by decide)))⟩
      · refine r_aload_n dX8_mend_40 rfl rfl ?_
        refine r_get (fs := [_, _, _, _, _, _, _, _, _, _, _, _, _, _, _, _, _, _, _, _]) dX8_mend_41 fl_X8_48 (by decide) c0 rfl ?_
        refine r_get (fs := [_, _, _, _, _, _, _, _, _, _, _, _, _]) dX8_mend_44 fl_X8_212 (by decide) c6 rfl ?_
        refine r_iload_n dX8_mend_47 rfl rfl ?_
        refine r_ald dX8_mend_48 (by decide) c7 (by omega) (by omega) (by decide) ?_
        refine r_iconst dX8_mend_49 ?_
        refine r_icmp_eq (tgt := 58) dX8_mend_50 (by decide) ⟨by omega, by omega⟩ ⟨by omega, by omega⟩ (fun g50 => ?_) (fun g50 => ?_)
        · refine r_aload_n dX8_mend_58 rfl rfl ?_
          refine r_get (fs := [_, _, _, _, _, _, _, _, _, _, _, _, _, _, _, _, _, _, _, _]) dX8_mend_59 fl_X8_20 (by decide) c0 rfl ?_
          refine r_iconst dX8_mend_62 ?_
          refine r_dup2 dX8_mend_63 rfl rfl ?_
          refine r_ald dX8_mend_64 (by decide) c2 (by omega) (by omega) (by decide) ?_
          refine r_iconst dX8_mend_65 ?_
          refine r_iadd dX8_mend_66 ?_
          refine r_ast dX8_mend_67 (by decide) c2 (by omega) (by omega) (by decide) ?_
          refine r_iconst dX8_mend_68 ?_
          refine r_iret dX8_mend_69 ?_
          rw [if_neg (by omega)] at e0
          rw [e0]
          exact ⟨(by simp [ocL, k1, k2]), rfl, rfl, cls_of ⟨(by first | rfl | exact c0), (by first | rfl | exact c1), (by first | rfl | exact c2), ⟨ht, htp, phl, phi⟩, (by exact pC), (by exact nC), (by exact mC), (by exact lC), (by exact s3), (by exact s4), (by exact s5), (by exact s17), (by exact s34), (by exact s58), (by exact s62), (by exact s65), (by exact s66), (by exact s67)⟩, (by repeat (first | exact fun _ _ => rfl | refine fr_up ?_ (by decide)))⟩
        · refine r_iload dX8_mend_53 rfl ?_
          refine r_if_ne (tgt := 70) dX8_mend_55 (by decide) ⟨by omega, by omega⟩ (fun g55 => ?_) (fun g55 => ?_)
          · refine r_aload_n dX8_mend_70 rfl rfl ?_
            refine r_get (fs := [_, _, _, _, _, _, _, _, _, _, _, _, _, _, _, _, _, _, _, _]) dX8_mend_71 fl_X8_72 (by decide) c0 rfl ?_
            refine r_iload_n dX8_mend_74 rfl rfl ?_
            refine r_iload_n dX8_mend_75 rfl rfl ?_
            refine r_iload_n dX8_mend_76 rfl rfl ?_
            refine r_callV 40 [_, _, _] (s_X3_addMend c40 c41 c42 c43 c44 c45 c46 c47 c48 ni (by omega)) dX8_mend_77 cs_X8_322 im_X3_addMend (by decide) c40 rfl (by decide) (by decide) (by decide) rfl rfl (Nat.le_of_ble_eq_true rfl) (fun _ _ _ q => q.elim) (fun v n2 h2 q => ?_)
            obtain ⟨rfl, rfl, hh⟩ := q
            obtain rfl := hh.symm
            refine ⟨rfl, ?_⟩
            dsimp only [Option.toList, List.cons_append, List.nil_append]
            refine r_iret dX8_mend_80 ?_
            rw [if_pos (by omega)] at e0
            rw [e0]
            exact ⟨(by simp [ocL, k1, k2]), rfl, rfl, cls_of ⟨(by first | rfl | exact c0), (by first | rfl | exact c1), (by first | rfl | exact c2), ⟨ht, htp, phl, phi⟩, (by exact pC), ⟨(by first | rfl | exact c40), (by first | rfl | exact c41), (by first | rfl | exact c42), (by first | rfl | exact c43), (by first | rfl | exact c44), (by first | rfl | exact c45), (by first | rfl | exact c46), (by first | rfl | exact c47), (by first | rfl | exact c48), ⟨pnr, pns, ⟨by omega, by omega⟩, prd, pry, prm, prt, pse, (up_L pmd (by omega)), (up_L pmy (by omega)), (up_R pmt (by omega))⟩, nsn⟩, (by exact mC), (by exact lC), (by exact s3), (by exact s4), (by exact s5), (by exact s17), (by exact s34), (by exact s58), (by exact s62), (by exact s65), (by exact s66), (by exact s67)⟩, (by repeat (first | exact fun _ _ => rfl | refine fr_up ?_ (by decide)))⟩
          · refine r_aload_n dX8_mend_58 rfl rfl ?_
            refine r_get (fs := [_, _, _, _, _, _, _, _, _, _, _, _, _, _, _, _, _, _, _, _]) dX8_mend_59 fl_X8_20 (by decide) c0 rfl ?_
            refine r_iconst dX8_mend_62 ?_
            refine r_dup2 dX8_mend_63 rfl rfl ?_
            refine r_ald dX8_mend_64 (by decide) c2 (by omega) (by omega) (by decide) ?_
            refine r_iconst dX8_mend_65 ?_
            refine r_iadd dX8_mend_66 ?_
            refine r_ast dX8_mend_67 (by decide) c2 (by omega) (by omega) (by decide) ?_
            refine r_iconst dX8_mend_68 ?_
            refine r_iret dX8_mend_69 ?_
            rw [if_neg (by omega)] at e0
            rw [e0]
            exact ⟨(by simp [ocL, k1, k2]), rfl, rfl, cls_of ⟨(by first | rfl | exact c0), (by first | rfl | exact c1), (by first | rfl | exact c2), ⟨ht, htp, phl, phi⟩, (by exact pC), (by exact nC), (by exact mC), (by exact lC), (by exact s3), (by exact s4), (by exact s5), (by exact s17), (by exact s34), (by exact s58), (by exact s62), (by exact s65), (by exact s66), (by exact s67)⟩, (by repeat (first | exact fun _ _ => rfl | refine fr_up ?_ (by decide)))⟩

def imageS (S : CSt) : CSt := match S with
  | (t, tp, fpl, rf, hlaw, _, P, N, M, ls) => (t, tp, fpl, rf, hlaw, 1, P, N, cpyN N M, ls)
def restoreS (S : CSt) : Int × CSt := match S with
  | (t, tp, fpl, rf, hlaw, himg, P, N, M, ls) => if himg = 1 then (1, (t, tp, fpl, rf, hlaw, himg, P, cpyN M N, M, ls)) else (0, (t, tp, fpl, rf, hlaw, himg, P, N, M, ls))
theorem s_X8_image {h : aH} {t : Nat → Int} {tp : Nat} {fpl hlaw himg : Int} {rf : Nat → Int} {nd sw nc hl hs : Int} {K U I O G L cf ct fc nx cd : Nat → Int} {nr ns nm : Int} {rd ry rm rt se md my mt : Nat → Int} {nr2 ns2 nm2 : Int} {rd2 ry2 rm2 rt2 se2 md2 my2 mt2 : Nat → Int} {ls : LSm} (cc : CanC h (t, tp, fpl, rf, hlaw, himg, ((nd, sw, nc), (hl, hs), K, U, I, O, G, L, cf, ct, fc, nx, cd), ((nr, ns, nm), rd, ry, rm, rt, se, md, my, mt), ((nr2, ns2, nm2), rd2, ry2, rm2, rt2, se2, md2, my2, mt2), ls))  : mSem yX8_image cX8_image 1 none 2 0 0 [.ref 0] 97 h (PubQ 0 none h (imageS (t, tp, fpl, rf, hlaw, himg, ((nd, sw, nc), (hl, hs), K, U, I, O, G, L, cf, ct, fc, nx, cd), ((nr, ns, nm), rd, ry, rm, rt, se, md, my, mt), ((nr2, ns2, nm2), rd2, ry2, rm2, rt2, se2, md2, my2, mt2), ls))) noX := by
  obtain ⟨c0, c1, c2, ⟨ht, htp, phl, phi⟩, pC, nC, mC, lC, s3, s4, s5, s17, s34, s58, s62, s65, s66, s67⟩ := id cc
  obtain ⟨c6, c7, c8, c9, c10, c11, c12, c13, c14, c15, c16, pi⟩ := id pC
  obtain ⟨c40, c41, c42, c43, c44, c45, c46, c47, c48, ni, nsn⟩ := id nC
  obtain ⟨pnd, psw, pnc, pK, pU, pI, pO, pG, pL, pcf, pct, pfc, pnx⟩ := id pi
  obtain ⟨pnr, pns, pnm, prd, pry, prm, prt, pse, pmd, pmy, pmt⟩ := id ni
  obtain ⟨c49, c50, c51, c52, c53, c54, c55, c56, c57, mi, msn⟩ := id mC
  obtain ⟨qnr, qns, qnm, qrd, qry, qrm, qrt, qse, qmd, qmy, qmt⟩ := id mi
  refine mSem_of (own := RX8) (name := "image") pn_X8 rfl rfl (Nat.le_of_ble_eq_true rfl) ?_
  refine r_aload_n dX8_image_0 rfl rfl ?_
  refine r_get (fs := [_, _, _, _, _, _, _, _, _, _, _, _, _, _, _, _, _, _, _, _]) dX8_image_1 fl_X8_76 (by decide) c0 rfl ?_
  refine r_aload_n dX8_image_4 rfl rfl ?_
  refine r_get (fs := [_, _, _, _, _, _, _, _, _, _, _, _, _, _, _, _, _, _, _, _]) dX8_image_5 fl_X8_72 (by decide) c0 rfl ?_
  refine r_callV 49 [.ref 40] (s_X3_copyFrom_49 c40 c41 c42 c43 c44 c45 c46 c47 c48 c49 c50 c51 c52 c53 c54 c55 c56 c57) dX8_image_8 cs_X8_378 im_X3_copyFrom (by decide) c49 rfl (by decide) (by decide) (by decide) rfl rfl (Nat.le_of_ble_eq_true rfl) (fun _ _ _ q => q.elim) (fun v n2 h2 q => ?_)
  obtain ⟨rfl, rfl, hh⟩ := q
  obtain rfl := hh.symm
  refine ⟨rfl, ?_⟩
  dsimp only [Option.toList, List.cons_append, List.nil_append]
  refine r_aload_n dX8_image_11 rfl rfl ?_
  refine r_iconst dX8_image_12 ?_
  refine r_put (fs := [_, _, _, _, _, _, _, _, _, _, _, _, _, _, _, _, _, _, _, _]) (fs2 := [_, _, _, _, _, _, _, _, _, _, _, _, _, _, _, _, _, _, _, _]) dX8_image_13 fp_X8_79 (by decide) c0 (nar_bool (by omega)) (Nat.le_of_ble_eq_true rfl) rfl ?_
  refine r_vret dX8_image_16 ?_
  exact ⟨rfl, rfl, rfl, cls_of ⟨(by first | rfl | exact c0), (by first | rfl | exact c1), (by first | rfl | exact c2), ⟨ht, htp, phl, Or.inr rfl⟩, (by exact pC), (by exact nC), ⟨(by first | rfl | exact c49), (by first | rfl | exact c50), (by first | rfl | exact c51), (by first | rfl | exact c52), (by first | rfl | exact c53), (by first | rfl | exact c54), (by first | rfl | exact c55), (by first | rfl | exact c56), (by first | rfl | exact c57), ⟨pnr, pns, pnm, (cpy_L prd qrd), (cpy_L pry qry), (cpy_L prm qrm), (cpy_L prt qrt), (cpy_L pse qse), (cpy_L pmd qmd), (cpy_L pmy qmy), (cpy_R pmt qmt)⟩, (nsn.trans (snc_cpy se se2 9 (Nat.le_refl _)).symm)⟩, (by exact lC), (by exact s3), (by exact s4), (by exact s5), (by exact s17), (by exact s34), (by exact s58), (by exact s62), (by exact s65), (by exact s66), (by exact s67)⟩, (by repeat (first | exact fun _ _ => rfl | refine fr_up ?_ (by decide)))⟩

theorem s_X8_restore {h : aH} {t : Nat → Int} {tp : Nat} {fpl hlaw himg : Int} {rf : Nat → Int} {nd sw nc hl hs : Int} {K U I O G L cf ct fc nx cd : Nat → Int} {nr ns nm : Int} {rd ry rm rt se md my mt : Nat → Int} {nr2 ns2 nm2 : Int} {rd2 ry2 rm2 rt2 se2 md2 my2 mt2 : Nat → Int} {ls : LSm} (cc : CanC h (t, tp, fpl, rf, hlaw, himg, ((nd, sw, nc), (hl, hs), K, U, I, O, G, L, cf, ct, fc, nx, cd), ((nr, ns, nm), rd, ry, rm, rt, se, md, my, mt), ((nr2, ns2, nm2), rd2, ry2, rm2, rt2, se2, md2, my2, mt2), ls))  : mSem yX8_restore cX8_restore 1 (some .boolean) 2 0 0 [.ref 0] 97 h (PubQ 0 (some (iv (restoreS (t, tp, fpl, rf, hlaw, himg, ((nd, sw, nc), (hl, hs), K, U, I, O, G, L, cf, ct, fc, nx, cd), ((nr, ns, nm), rd, ry, rm, rt, se, md, my, mt), ((nr2, ns2, nm2), rd2, ry2, rm2, rt2, se2, md2, my2, mt2), ls)).1)) h (restoreS (t, tp, fpl, rf, hlaw, himg, ((nd, sw, nc), (hl, hs), K, U, I, O, G, L, cf, ct, fc, nx, cd), ((nr, ns, nm), rd, ry, rm, rt, se, md, my, mt), ((nr2, ns2, nm2), rd2, ry2, rm2, rt2, se2, md2, my2, mt2), ls)).2) noX := by
  obtain ⟨c0, c1, c2, ⟨ht, htp, phl, phi⟩, pC, nC, mC, lC, s3, s4, s5, s17, s34, s58, s62, s65, s66, s67⟩ := id cc
  obtain ⟨c6, c7, c8, c9, c10, c11, c12, c13, c14, c15, c16, pi⟩ := id pC
  obtain ⟨c40, c41, c42, c43, c44, c45, c46, c47, c48, ni, nsn⟩ := id nC
  obtain ⟨pnd, psw, pnc, pK, pU, pI, pO, pG, pL, pcf, pct, pfc, pnx⟩ := id pi
  obtain ⟨pnr, pns, pnm, prd, pry, prm, prt, pse, pmd, pmy, pmt⟩ := id ni
  obtain ⟨c49, c50, c51, c52, c53, c54, c55, c56, c57, mi, msn⟩ := id mC
  obtain ⟨qnr, qns, qnm, qrd, qry, qrm, qrt, qse, qmd, qmy, qmt⟩ := id mi
  have e0 : restoreS (t, tp, fpl, rf, hlaw, himg, ((nd, sw, nc), (hl, hs), K, U, I, O, G, L, cf, ct, fc, nx, cd), ((nr, ns, nm), rd, ry, rm, rt, se, md, my, mt), ((nr2, ns2, nm2), rd2, ry2, rm2, rt2, se2, md2, my2, mt2), ls) = if himg = 1 then (1, (t, tp, fpl, rf, hlaw, himg, ((nd, sw, nc), (hl, hs), K, U, I, O, G, L, cf, ct, fc, nx, cd), cpyN ((nr2, ns2, nm2), rd2, ry2, rm2, rt2, se2, md2, my2, mt2) ((nr, ns, nm), rd, ry, rm, rt, se, md, my, mt), ((nr2, ns2, nm2), rd2, ry2, rm2, rt2, se2, md2, my2, mt2), ls)) else (0, (t, tp, fpl, rf, hlaw, himg, ((nd, sw, nc), (hl, hs), K, U, I, O, G, L, cf, ct, fc, nx, cd), ((nr, ns, nm), rd, ry, rm, rt, se, md, my, mt), ((nr2, ns2, nm2), rd2, ry2, rm2, rt2, se2, md2, my2, mt2), ls)) := rfl
  refine mSem_of (own := RX8) (name := "restore") pn_X8 rfl rfl (Nat.le_of_ble_eq_true rfl) ?_
  refine r_aload_n dX8_restore_0 rfl rfl ?_
  refine r_get (fs := [_, _, _, _, _, _, _, _, _, _, _, _, _, _, _, _, _, _, _, _]) dX8_restore_1 fl_X8_79 (by decide) c0 rfl ?_
  refine r_if_ne (tgt := 9) dX8_restore_4 (by decide) ⟨by omega, by omega⟩ (fun g4 => ?_) (fun g4 => ?_)
  · refine r_aload_n dX8_restore_9 rfl rfl ?_
    refine r_get (fs := [_, _, _, _, _, _, _, _, _, _, _, _, _, _, _, _, _, _, _, _]) dX8_restore_10 fl_X8_72 (by decide) c0 rfl ?_
    refine r_aload_n dX8_restore_13 rfl rfl ?_
    refine r_get (fs := [_, _, _, _, _, _, _, _, _, _, _, _, _, _, _, _, _, _, _, _]) dX8_restore_14 fl_X8_76 (by decide) c0 rfl ?_
    refine r_callV 40 [.ref 49] (s_X3_copyFrom_40 c49 c50 c51 c52 c53 c54 c55 c56 c57 c40 c41 c42 c43 c44 c45 c46 c47 c48) dX8_restore_17 cs_X8_378 im_X3_copyFrom (by decide) c40 rfl (by decide) (by decide) (by decide) rfl rfl (Nat.le_of_ble_eq_true rfl) (fun _ _ _ q => q.elim) (fun v n2 h2 q => ?_)
    obtain ⟨rfl, rfl, hh⟩ := q
    obtain rfl := hh.symm
    refine ⟨rfl, ?_⟩
    dsimp only [Option.toList, List.cons_append, List.nil_append]
    refine r_iconst dX8_restore_20 ?_
    refine r_zret dX8_restore_21 (nar_z (by omega)) ?_
    rw [if_pos (by omega)] at e0
    rw [e0]
    exact ⟨rfl, rfl, rfl, cls_of ⟨(by first | rfl | exact c0), (by first | rfl | exact c1), (by first | rfl | exact c2), ⟨ht, htp, phl, phi⟩, (by exact pC), ⟨(by first | rfl | exact c40), (by first | rfl | exact c41), (by first | rfl | exact c42), (by first | rfl | exact c43), (by first | rfl | exact c44), (by first | rfl | exact c45), (by first | rfl | exact c46), (by first | rfl | exact c47), (by first | rfl | exact c48), ⟨qnr, qns, qnm, (cpy_L qrd prd), (cpy_L qry pry), (cpy_L qrm prm), (cpy_L qrt prt), (cpy_L qse pse), (cpy_L qmd pmd), (cpy_L qmy pmy), (cpy_R qmt pmt)⟩, (msn.trans (snc_cpy se2 se 9 (Nat.le_refl _)).symm)⟩, (by exact mC), (by exact lC), (by exact s3), (by exact s4), (by exact s5), (by exact s17), (by exact s34), (by exact s58), (by exact s62), (by exact s65), (by exact s66), (by exact s67)⟩, (by repeat (first | exact fun _ _ => rfl | refine fr_up ?_ (by decide)))⟩
  · refine r_iconst dX8_restore_7 ?_
    refine r_zret dX8_restore_8 (nar_z (by omega)) ?_
    rw [if_neg (by omega)] at e0
    rw [e0]
    exact ⟨rfl, rfl, rfl, cls_of cc, fun _ _ => rfl⟩
