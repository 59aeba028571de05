/-! ===== the tape ===== -/
def sbZ (z : Int) : Int := (z + 128) % 256 - 128
theorem sbZ_B (z : Int) : -128 ≤ sbZ z ∧ sbZ z ≤ 127 := by unfold sbZ; omega
theorem sbI {z : Int} (hz : inR z) : (Int32.ofInt z).toInt8.toInt32 = Int32.ofInt (sbZ z) := by
  have hb := sbZ_B z
  rw [← Int32.toInt_inj, tI (show inR (sbZ z) from ⟨by omega, by omega⟩), Int8.toInt_toInt32, Int32.toInt_toInt8, tI hz]
  unfold sbZ
  rw [Int.bmod_def]
  split <;> omega
theorem sbZ_id {z : Int} (h : -128 ≤ z ∧ z ≤ 127) : sbZ z = z := by unfold sbZ; omega
theorem narB {z : Int} (h : -128 ≤ z ∧ z ≤ 127) : vp_nar .byte (Int32.ofInt z) = Int32.ofInt z := by
  have h1 := sbI (z := z) ⟨by omega, by omega⟩
  rw [sbZ_id h] at h1
  exact h1
theorem shrT (a : Int32) (k : Nat) (b : Int32) (hb : (b.toBitVec.smod 32).toNat = k) : (a >>> b).toInt = a.toInt / 2 ^ k := by
  have e : (a >>> b).toInt = (BitVec.sshiftRight' a.toBitVec (b.toBitVec.smod 32)).toInt := rfl
  rw [e, BitVec.sshiftRight', hb, BitVec.toInt_sshiftRight, Int.shiftRight_eq_div_pow]
  rfl
theorem shr_24 {x : Int} (hx : inR x) : Int32.ofInt x >>> (Int32.ofInt 24 &&& 31) = Int32.ofInt (x / 16777216) := by
  rw [← Int32.toInt_inj, shrT _ 24 _ (by decide), tI hx, tI (show inR (x / 16777216) from by unfold inR at hx ⊢; omega)]
  rfl
theorem shr_16 {x : Int} (hx : inR x) : Int32.ofInt x >>> (Int32.ofInt 16 &&& 31) = Int32.ofInt (x / 65536) := by
  rw [← Int32.toInt_inj, shrT _ 16 _ (by decide), tI hx, tI (show inR (x / 65536) from by unfold inR at hx ⊢; omega)]
  rfl
theorem shr_8 {x : Int} (hx : inR x) : Int32.ofInt x >>> (Int32.ofInt 8 &&& 31) = Int32.ofInt (x / 256) := by
  rw [← Int32.toInt_inj, shrT _ 8 _ (by decide), tI hx, tI (show inR (x / 256) from by unfold inR at hx ⊢; omega)]
  rfl
theorem shr_0 {x : Int} (hx : inR x) : Int32.ofInt x >>> (Int32.ofInt 0 &&& 31) = Int32.ofInt (x / 1) := by
  rw [← Int32.toInt_inj, shrT _ 0 _ (by decide), tI hx, tI (show inR (x / 1) from by unfold inR at hx ⊢; omega)]
  rfl
def putT (t : Nat → Int) (tp : Nat) (x : Int) : Nat → Int := va_up (va_up (va_up (va_up t tp (sbZ (x / 16777216))) (tp + 1) (sbZ (x / 65536))) (tp + 2) (sbZ (x / 256))) (tp + 3) (sbZ (x / 1))
theorem putT_B {t : Nat → Int} {tp : Nat} {x : Int} (h : ∀ j, -128 ≤ t j ∧ t j ≤ 127) : ∀ j, -128 ≤ putT t tp x j ∧ putT t tp x j ≤ 127 := up_R (up_R (up_R (up_R h (sbZ_B _)) (sbZ_B _)) (sbZ_B _)) (sbZ_B _)

theorem s_X8_putBytes {h : aH} {t : Nat → Int} {tp : Nat} {fpl hlaw himg : Int} {rf : Nat → Int} {nd sw nc hl hs : Int} {K U I O G L cf ct fc nx cd : Nat → Int} {nr ns nm : Int} {rd ry rm rt se md my mt : Nat → Int} {M : ND} {ls : LSm} (cc : CanC h (t, tp, fpl, rf, hlaw, himg, ((nd, sw, nc), (hl, hs), K, U, I, O, G, L, cf, ct, fc, nx, cd), ((nr, ns, nm), rd, ry, rm, rt, se, md, my, mt), M, ls)) {x : Int} (ix : inR x) (h4 : tp + 4 ≤ 700) : mSem yX8_putBytes cX8_putBytes 3 none 1 0 0 [.ref 0, iv x] 97 h (fun v n' h' => v = none ∧ n' = 97 ∧ CanC h' (putT t tp x, tp + 4, fpl, rf, hlaw, himg, ((nd, sw, nc), (hl, hs), K, U, I, O, G, L, cf, ct, fc, nx, cd), ((nr, ns, nm), rd, ry, rm, rt, se, md, my, mt), M, ls) ∧ FrC h h') noX := by
  obtain ⟨c0, c1, c2, ⟨ht, htp, phl, phi⟩, pC, nC, mC, lC, s3, s4, s5, s17, s34, s58, s62, s65, s66, s67⟩ := id cc
  obtain ⟨c6, c7, c8, c9, c10, c11, c12, c13, c14, c15, c16, pi⟩ := id pC
  obtain ⟨c40, c41, c42, c43, c44, c45, c46, c47, c48, ni, nsn⟩ := id nC
  obtain ⟨pnd, psw, pnc, pK, pU, pI, pO, pG, pL, pcf, pct, pfc, pnx⟩ := id pi
  obtain ⟨pnr, pns, pnm, prd, pry, prm, prt, pse, pmd, pmy, pmt⟩ := id ni
  refine mSem_of (own := RX8) (name := "putBytes") pn_X8 rfl rfl (Nat.le_of_ble_eq_true rfl) ?_
  refine r_bipush dX8_putBytes_0 rfl ?_
  refine r_istore_n (lv2 := [(0, _), (1, _), (2, _)]) dX8_putBytes_2 rfl (by decide) rfl rfl ?_
  try simp only [show (24 : Int) + -8 = 16 from rfl, show (16 : Int) + -8 = 8 from rfl, show (8 : Int) + -8 = 0 from rfl, show (0 : Int) + -8 = -8 from rfl, show (tp : Int) + 1 = ((tp + 1 : Nat) : Int) by omega, show ((tp + 1 : Nat) : Int) + 1 = ((tp + 2 : Nat) : Int) by omega, show ((tp + 2 : Nat) : Int) + 1 = ((tp + 3 : Nat) : Int) by omega, show ((tp + 3 : Nat) : Int) + 1 = ((tp + 4 : Nat) : Int) by omega, Int.toNat_natCast]
  refine r_iload_n dX8_putBytes_3 rfl rfl ?_
  refine r_if_lt (tgt := 48) dX8_putBytes_4 (by decide) ⟨by omega, by omega⟩ (fun g4 => absurd g4 (by omega)) (fun g4 => ?_)
  refine r_aload_n dX8_putBytes_7 rfl rfl ?_
  refine r_get (fs := [_, _, _, _, _, _, _, _, _, _, _, _, _, _, _, _, _, _, _, _]) dX8_putBytes_8 fl_X8_13 (by decide) c0 rfl ?_
  refine r_aload_n dX8_putBytes_11 rfl rfl ?_
  refine r_get (fs := [_, _, _, _, _, _, _, _, _, _, _, _, _, _, _, _, _, _, _, _]) dX8_putBytes_12 fl_X8_9 (by decide) c0 rfl ?_
  refine r_alen dX8_putBytes_15 (by decide) c1 (by decide) ?_
  refine r_icmp_ge (tgt := 42) dX8_putBytes_16 (by decide) ⟨by omega, by omega⟩ ⟨by omega, by omega⟩ (fun g16 => absurd g16 (by omega)) (fun g16 => ?_)
  refine r_aload_n dX8_putBytes_19 rfl rfl ?_
  refine r_get (fs := [_, _, _, _, _, _, _, _, _, _, _, _, _, _, _, _, _, _, _, _]) dX8_putBytes_20 fl_X8_9 (by decide) c0 rfl ?_
  refine r_aload_n dX8_putBytes_23 rfl rfl ?_
  refine r_get (fs := [_, _, _, _, _, _, _, _, _, _, _, _, _, _, _, _, _, _, _, _]) dX8_putBytes_24 fl_X8_13 (by decide) c0 rfl ?_
  refine r_iload_n dX8_putBytes_27 rfl rfl ?_
  refine r_iload_n dX8_putBytes_28 rfl rfl ?_
  refine r_ishr _ dX8_putBytes_29 (by first | exact shr_24 ix | exact shr_16 ix | exact shr_8 ix | exact shr_0 ix) ?_
  refine r_i2b _ dX8_putBytes_30 (sbI (show inR _ from by have := ix.1; have := ix.2; constructor <;> omega)) ?_
  refine r_bast dX8_putBytes_31 (by decide) c1 (by omega) (by omega) (by decide) (narB (sbZ_B _)) ?_
  refine r_aload_n dX8_putBytes_32 rfl rfl ?_
  refine r_dup dX8_putBytes_33 rfl ?_
  refine r_get (fs := [_, _, _, _, _, _, _, _, _, _, _, _, _, _, _, _, _, _, _, _]) dX8_putBytes_34 fl_X8_13 (by decide) c0 rfl ?_
  refine r_iconst dX8_putBytes_37 ?_
  refine r_iadd dX8_putBytes_38 ?_
  refine r_put (fs := [_, _, _, _, _, _, _, _, _, _, _, _, _, _, _, _, _, _, _, _]) (fs2 := [_, _, _, _, _, _, _, _, _, _, _, _, _, _, _, _, _, _, _, _]) dX8_putBytes_39 fp_X8_13 (by decide) c0 (nar_int _) (Nat.le_of_ble_eq_true rfl) rfl ?_
  refine r_iinc (lv2 := [(0, _), (1, _), (2, _)]) dX8_putBytes_42 (by decide) rfl rfl rfl ?_
  refine r_goto (tgt := 3) dX8_putBytes_45 (by decide) ?_
  try simp only [show (24 : Int) + -8 = 16 from rfl, show (16 : Int) + -8 = 8 from rfl, show (8 : Int) + -8 = 0 from rfl, show (0 : Int) + -8 = -8 from rfl, show (tp : Int) + 1 = ((tp + 1 : Nat) : Int) by omega, show ((tp + 1 : Nat) : Int) + 1 = ((tp + 2 : Nat) : Int) by omega, show ((tp + 2 : Nat) : Int) + 1 = ((tp + 3 : Nat) : Int) by omega, show ((tp + 3 : Nat) : Int) + 1 = ((tp + 4 : Nat) : Int) by omega, Int.toNat_natCast]
  refine r_iload_n dX8_putBytes_3 rfl rfl ?_
  refine r_if_lt (tgt := 48) dX8_putBytes_4 (by decide) ⟨by omega, by omega⟩ (fun g4 => absurd g4 (by omega)) (fun g4 => ?_)
  refine r_aload_n dX8_putBytes_7 rfl rfl ?_
  refine r_get (fs := [_, _, _, _, _, _, _, _, _, _, _, _, _, _, _, _, _, _, _, _]) dX8_putBytes_8 fl_X8_13 (by decide) rfl rfl ?_
  refine r_aload_n dX8_putBytes_11 rfl rfl ?_
  refine r_get (fs := [_, _, _, _, _, _, _, _, _, _, _, _, _, _, _, _, _, _, _, _]) dX8_putBytes_12 fl_X8_9 (by decide) rfl rfl ?_
  refine r_alen dX8_putBytes_15 (by decide) rfl (by decide) ?_
  refine r_icmp_ge (tgt := 42) dX8_putBytes_16 (by decide) ⟨by omega, by omega⟩ ⟨by omega, by omega⟩ (fun g16 => absurd g16 (by omega)) (fun g16 => ?_)
  refine r_aload_n dX8_putBytes_19 rfl rfl ?_
  refine r_get (fs := [_, _, _, _, _, _, _, _, _, _, _, _, _, _, _, _, _, _, _, _]) dX8_putBytes_20 fl_X8_9 (by decide) rfl rfl ?_
  refine r_aload_n dX8_putBytes_23 rfl rfl ?_
  refine r_get (fs := [_, _, _, _, _, _, _, _, _, _, _, _, _, _, _, _, _, _, _, _]) dX8_putBytes_24 fl_X8_13 (by decide) rfl rfl ?_
  refine r_iload_n dX8_putBytes_27 rfl rfl ?_
  refine r_iload_n dX8_putBytes_28 rfl rfl ?_
  refine r_ishr _ dX8_putBytes_29 (by first | exact shr_24 ix | exact shr_16 ix | exact shr_8 ix | exact shr_0 ix) ?_
  refine r_i2b _ dX8_putBytes_30 (sbI (show inR _ from by have := ix.1; have := ix.2; constructor <;> omega)) ?_
  refine r_bast dX8_putBytes_31 (by decide) rfl (by omega) (by omega) (by decide) (narB (sbZ_B _)) ?_
  refine r_aload_n dX8_putBytes_32 rfl rfl ?_
  refine r_dup dX8_putBytes_33 rfl ?_
  refine r_get (fs := [_, _, _, _, _, _, _, _, _, _, _, _, _, _, _, _, _, _, _, _]) dX8_putBytes_34 fl_X8_13 (by decide) rfl rfl ?_
  refine r_iconst dX8_putBytes_37 ?_
  refine r_iadd dX8_putBytes_38 ?_
  refine r_put (fs := [_, _, _, _, _, _, _, _, _, _, _, _, _, _, _, _, _, _, _, _]) (fs2 := [_, _, _, _, _, _, _, _, _, _, _, _, _, _, _, _, _, _, _, _]) dX8_putBytes_39 fp_X8_13 (by decide) rfl (nar_int _) (Nat.le_of_ble_eq_true rfl) rfl ?_
  refine r_iinc (lv2 := [(0, _), (1, _), (2, _)]) dX8_putBytes_42 (by decide) rfl rfl rfl ?_
  refine r_goto (tgt := 3) dX8_putBytes_45 (by decide) ?_
  try simp only [show (24 : Int) + -8 = 16 from rfl, show (16 : Int) + -8 = 8 from rfl, show (8 : Int) + -8 = 0 from rfl, show (0 : Int) + -8 = -8 from rfl, show (tp : Int) + 1 = ((tp + 1 : Nat) : Int) by omega, show ((tp + 1 : Nat) : Int) + 1 = ((tp + 2 : Nat) : Int) by omega, show ((tp + 2 : Nat) : Int) + 1 = ((tp + 3 : Nat) : Int) by omega, show ((tp + 3 : Nat) : Int) + 1 = ((tp + 4 : Nat) : Int) by omega, Int.toNat_natCast]
  refine r_iload_n dX8_putBytes_3 rfl rfl ?_
  refine r_if_lt (tgt := 48) dX8_putBytes_4 (by decide) ⟨by omega, by omega⟩ (fun g4 => absurd g4 (by omega)) (fun g4 => ?_)
  refine r_aload_n dX8_putBytes_7 rfl rfl ?_
  refine r_get (fs := [_, _, _, _, _, _, _, _, _, _, _, _, _, _, _, _, _, _, _, _]) dX8_putBytes_8 fl_X8_13 (by decide) rfl rfl ?_
  refine r_aload_n dX8_putBytes_11 rfl rfl ?_
  refine r_get (fs := [_, _, _, _, _, _, _, _, _, _, _, _, _, _, _, _, _, _, _, _]) dX8_putBytes_12 fl_X8_9 (by decide) rfl rfl ?_
  refine r_alen dX8_putBytes_15 (by decide) rfl (by decide) ?_
  refine r_icmp_ge (tgt := 42) dX8_putBytes_16 (by decide) ⟨by omega, by omega⟩ ⟨by omega, by omega⟩ (fun g16 => absurd g16 (by omega)) (fun g16 => ?_)
  refine r_aload_n dX8_putBytes_19 rfl rfl ?_
  refine r_get (fs := [_, _, _, _, _, _, _, _, _, _, _, _, _, _, _, _, _, _, _, _]) dX8_putBytes_20 fl_X8_9 (by decide) rfl rfl ?_
  refine r_aload_n dX8_putBytes_23 rfl rfl ?_
  refine r_get (fs := [_, _, _, _, _, _, _, _, _, _, _, _, _, _, _, _, _, _, _, _]) dX8_putBytes_24 fl_X8_13 (by decide) rfl rfl ?_
  refine r_iload_n dX8_putBytes_27 rfl rfl ?_
  refine r_iload_n dX8_putBytes_28 rfl rfl ?_
  refine r_ishr _ dX8_putBytes_29 (by first | exact shr_24 ix | exact shr_16 ix | exact shr_8 ix | exact shr_0 ix) ?_
  refine r_i2b _ dX8_putBytes_30 (sbI (show inR _ from by have := ix.1; have := ix.2; constructor <;> omega)) ?_
  refine r_bast dX8_putBytes_31 (by decide) rfl (by omega) (by omega) (by decide) (narB (sbZ_B _)) ?_
  refine r_aload_n dX8_putBytes_32 rfl rfl ?_
  refine r_dup dX8_putBytes_33 rfl ?_
  refine r_get (fs := [_, _, _, _, _, _, _, _, _, _, _, _, _, _, _, _, _, _, _, _]) dX8_putBytes_34 fl_X8_13 (by decide) rfl rfl ?_
  refine r_iconst dX8_putBytes_37 ?_
  refine r_iadd dX8_putBytes_38 ?_
  refine r_put (fs := [_, _, _, _, _, _, _, _, _, _, _, _, _, _, _, _, _, _, _, _]) (fs2 := [_, _, _, _, _, _, _, _, _, _, _, _, _, _, _, _, _, _, _, _]) dX8_putBytes_39 fp_X8_13 (by decide) rfl (nar_int _) (Nat.le_of_ble_eq_true rfl) rfl ?_
  refine r_iinc (lv2 := [(0, _), (1, _), (2, _)]) dX8_putBytes_42 (by decide) rfl rfl rfl ?_
  refine r_goto (tgt := 3) dX8_putBytes_45 (by decide) ?_
  try simp only [show (24 : Int) + -8 = 16 from rfl, show (16 : Int) + -8 = 8 from rfl, show (8 : Int) + -8 = 0 from rfl, show (0 : Int) + -8 = -8 from rfl, show (tp : Int) + 1 = ((tp + 1 : Nat) : Int) by omega, show ((tp + 1 : Nat) : Int) + 1 = ((tp + 2 : Nat) : Int) by omega, show ((tp + 2 : Nat) : Int) + 1 = ((tp + 3 : Nat) : Int) by omega, show ((tp + 3 : Nat) : Int) + 1 = ((tp + 4 : Nat) : Int) by omega, Int.toNat_natCast]
  refine r_iload_n dX8_putBytes_3 rfl rfl ?_
  refine r_if_lt (tgt := 48) dX8_putBytes_4 (by decide) ⟨by omega, by omega⟩ (fun g4 => absurd g4 (by omega)) (fun g4 => ?_)
  refine r_aload_n dX8_putBytes_7 rfl rfl ?_
  refine r_get (fs := [_, _, _, _, _, _, _, _, _, _, _, _, _, _, _, _, _, _, _, _]) dX8_putBytes_8 fl_X8_13 (by decide) rfl rfl ?_
  refine r_aload_n dX8_putBytes_11 rfl rfl ?_
  refine r_get (fs := [_, _, _, _, _, _, _, _, _, _, _, _, _, _, _, _, _, _, _, _]) dX8_putBytes_12 fl_X8_9 (by decide) rfl rfl ?_
  refine r_alen dX8_putBytes_15 (by decide) rfl (by decide) ?_
  refine r_icmp_ge (tgt := 42) dX8_putBytes_16 (by decide) ⟨by omega, by omega⟩ ⟨by omega, by omega⟩ (fun g16 => absurd g16 (by omega)) (fun g16 => ?_)
  refine r_aload_n dX8_putBytes_19 rfl rfl ?_
  refine r_get (fs := [_, _, _, _, _, _, _, _, _, _, _, _, _, _, _, _, _, _, _, _]) dX8_putBytes_20 fl_X8_9 (by decide) rfl rfl ?_
  refine r_aload_n dX8_putBytes_23 rfl rfl ?_
  refine r_get (fs := [_, _, _, _, _, _, _, _, _, _, _, _, _, _, _, _, _, _, _, _]) dX8_putBytes_24 fl_X8_13 (by decide) rfl rfl ?_
  refine r_iload_n dX8_putBytes_27 rfl rfl ?_
  refine r_iload_n dX8_putBytes_28 rfl rfl ?_
  refine r_ishr _ dX8_putBytes_29 (by first | exact shr_24 ix | exact shr_16 ix | exact shr_8 ix | exact shr_0 ix) ?_
  refine r_i2b _ dX8_putBytes_30 (sbI (show inR _ from by have := ix.1; have := ix.2; constructor <;> omega)) ?_
  refine r_bast dX8_putBytes_31 (by decide) rfl (by omega) (by omega) (by decide) (narB (sbZ_B _)) ?_
  refine r_aload_n dX8_putBytes_32 rfl rfl ?_
  refine r_dup dX8_putBytes_33 rfl ?_
  refine r_get (fs := [_, _, _, _, _, _, _, _, _, _, _, _, _, _, _, _, _, _, _, _]) dX8_putBytes_34 fl_X8_13 (by decide) rfl rfl ?_
  refine r_iconst dX8_putBytes_37 ?_
  refine r_iadd dX8_putBytes_38 ?_
  refine r_put (fs := [_, _, _, _, _, _, _, _, _, _, _, _, _, _, _, _, _, _, _, _]) (fs2 := [_, _, _, _, _, _, _, _, _, _, _, _, _, _, _, _, _, _, _, _]) dX8_putBytes_39 fp_X8_13 (by decide) rfl (nar_int _) (Nat.le_of_ble_eq_true rfl) rfl ?_
  refine r_iinc (lv2 := [(0, _), (1, _), (2, _)]) dX8_putBytes_42 (by decide) rfl rfl rfl ?_
  refine r_goto (tgt := 3) dX8_putBytes_45 (by decide) ?_
  try simp only [show (24 : Int) + -8 = 16 from rfl, show (16 : Int) + -8 = 8 from rfl, show (8 : Int) + -8 = 0 from rfl, show (0 : Int) + -8 = -8 from rfl, show (tp : Int) + 1 = ((tp + 1 : Nat) : Int) by omega, show ((tp + 1 : Nat) : Int) + 1 = ((tp + 2 : Nat) : Int) by omega, show ((tp + 2 : Nat) : Int) + 1 = ((tp + 3 : Nat) : Int) by omega, show ((tp + 3 : Nat) : Int) + 1 = ((tp + 4 : Nat) : Int) by omega, Int.toNat_natCast]
  refine r_iload_n dX8_putBytes_3 rfl rfl ?_
  refine r_if_lt (tgt := 48) dX8_putBytes_4 (by decide) ⟨by omega, by omega⟩ (fun g4 => ?_) (fun g4 => absurd g4 (by omega))
  refine r_vret dX8_putBytes_48 ?_
  exact ⟨rfl, rfl, ⟨(by first | rfl | exact c0), (by first | rfl | exact c1), (by first | rfl | exact c2), ⟨putT_B ht, by omega, phl, phi⟩, (by exact pC), (by exact nC), (by exact mC), (by exact lC), (by exact s3), (by exact s4), (by exact s5), (by exact s17), (by exact s34), (by exact s58), (by exact s62), (by exact s65), (by exact s66), (by exact s67)⟩, (by repeat (first | exact fun _ _ => rfl | refine fr_up ?_ (by decide)))⟩

def feedS (S : CSt) (x1 x2 x3 x4 x5 : Int) : Int × CSt := match S with
  | (t, tp, fpl, rf, hlaw, himg, ((nd, sw, nc), (hl, hs), K, U, I, O, G, L, cf, ct, fc, nx, cd), ((nr, ns, nm), rd, ry, rm, rt, se, md, my, mt), M, ls) => if tp + 20 ≤ 700 then (((tp + 20 : Nat) : Int), ((putT (putT (putT (putT (putT t tp x1) (tp + 4) x2) ((tp + 4) + 4) x3) (((tp + 4) + 4) + 4) x4) ((((tp + 4) + 4) + 4) + 4) x5), (tp + 20), fpl, rf, hlaw, himg, ((nd, sw, nc), (hl, hs), K, U, I, O, G, L, cf, ct, fc, nx, cd), ((nr, ns, nm), rd, ry, rm, rt, se, md, my, mt), M, ls)) else (-1, (t, tp, fpl, rf, hlaw, himg, ((nd, sw, nc), (hl, hs), K, U, I, O, G, L, cf, ct, fc, nx, cd), ((nr, ns, nm), rd, ry, rm, rt, se, md, my, mt), M, ls))
theorem s_X8_feed {h : aH} {t : Nat → Int} {tp : Nat} {fpl hlaw himg : Int} {rf : Nat → Int} {nd sw nc hl hs : Int} {K U I O G L cf ct fc nx cd : Nat → Int} {nr ns nm : Int} {rd ry rm rt se md my mt : Nat → Int} {M : ND} {ls : LSm} (cc : CanC h (t, tp, fpl, rf, hlaw, himg, ((nd, sw, nc), (hl, hs), K, U, I, O, G, L, cf, ct, fc, nx, cd), ((nr, ns, nm), rd, ry, rm, rt, se, md, my, mt), M, ls)) {x1 x2 x3 x4 x5 : Int} (ix1 : inR x1) (ix2 : inR x2) (ix3 : inR x3) (ix4 : inR x4) (ix5 : inR x5)  : mSem yX8_feed cX8_feed 6 (some .int) 2 0 0 [.ref 0, iv x1, iv x2, iv x3, iv x4, iv x5] 97 h (PubQ (ocL []) (some (iv (feedS (t, tp, fpl, rf, hlaw, himg, ((nd, sw, nc), (hl, hs), K, U, I, O, G, L, cf, ct, fc, nx, cd), ((nr, ns, nm), rd, ry, rm, rt, se, md, my, mt), M, ls) x1 x2 x3 x4 x5).1)) h (feedS (t, tp, fpl, rf, hlaw, himg, ((nd, sw, nc), (hl, hs), K, U, I, O, G, L, cf, ct, fc, nx, cd), ((nr, ns, nm), rd, ry, rm, rt, se, md, my, mt), M, ls) x1 x2 x3 x4 x5).2) (PubX (ocL []) h (t, tp, fpl, rf, hlaw, himg, ((nd, sw, nc), (hl, hs), K, U, I, O, G, L, cf, ct, fc, nx, cd), ((nr, ns, nm), rd, ry, rm, rt, se, md, my, mt), M, ls)) := by
  obtain ⟨c0, c1, c2, ⟨ht, htp, phl, phi⟩, pC, nC, mC, lC, s3, s4, s5, s17, s34, s58, s62, s65, s66, s67⟩ := id cc
  obtain ⟨c6, c7, c8, c9, c10, c11, c12, c13, c14, c15, c16, pi⟩ := id pC
  obtain ⟨c40, c41, c42, c43, c44, c45, c46, c47, c48, ni, nsn⟩ := id nC
  obtain ⟨pnd, psw, pnc, pK, pU, pI, pO, pG, pL, pcf, pct, pfc, pnx⟩ := id pi
  obtain ⟨pnr, pns, pnm, prd, pry, prm, prt, pse, pmd, pmy, pmt⟩ := id ni
  unfold inR at ix1 ix2 ix3 ix4 ix5
  have e0 : feedS (t, tp, fpl, rf, hlaw, himg, ((nd, sw, nc), (hl, hs), K, U, I, O, G, L, cf, ct, fc, nx, cd), ((nr, ns, nm), rd, ry, rm, rt, se, md, my, mt), M, ls) x1 x2 x3 x4 x5 = if tp + 20 ≤ 700 then (((tp + 20 : Nat) : Int), ((putT (putT (putT (putT (putT t tp x1) (tp + 4) x2) ((tp + 4) + 4) x3) (((tp + 4) + 4) + 4) x4) ((((tp + 4) + 4) + 4) + 4) x5), (tp + 20), fpl, rf, hlaw, himg, ((nd, sw, nc), (hl, hs), K, U, I, O, G, L, cf, ct, fc, nx, cd), ((nr, ns, nm), rd, ry, rm, rt, se, md, my, mt), M, ls)) else (-1, (t, tp, fpl, rf, hlaw, himg, ((nd, sw, nc), (hl, hs), K, U, I, O, G, L, cf, ct, fc, nx, cd), ((nr, ns, nm), rd, ry, rm, rt, se, md, my, mt), M, ls)) := rfl
  refine mSem_of (own := RX8) (name := "feed") pn_X8 rfl rfl (Nat.le_of_ble_eq_true rfl) ?_
  refine r_aload_n dX8_feed_0 rfl rfl ?_
  refine r_get (fs := [_, _, _, _, _, _, _, _, _, _, _, _, _, _, _, _, _, _, _, _]) dX8_feed_1 fl_X8_13 (by decide) c0 rfl ?_
  refine r_bipush dX8_feed_4 rfl ?_
  refine r_iadd dX8_feed_6 ?_
  refine r_sipush dX8_feed_7 rfl ?_
  refine r_icmp_le (tgt := 15) dX8_feed_10 (by decide) ⟨by omega, by omega⟩ ⟨by omega, by omega⟩ (fun g10 => ?_) (fun g10 => ?_)
  · refine r_aload_n dX8_feed_15 rfl rfl ?_
    refine r_iload_n dX8_feed_16 rfl rfl ?_
    refine r_callV 0 [_] (s_X8_putBytes cc ix1 (by omega)) dX8_feed_17 cs_X8_105 im_X8_putBytes (by decide) c0 rfl (by decide) (by decide) (by decide) rfl rfl (Nat.le_of_ble_eq_true rfl) (fun _ _ _ q => q.elim) (fun v n2 h2 q => ?_)
    obtain ⟨rfl, rfl, cc1, fr1⟩ := q
    obtain ⟨c0, c1, c2, ⟨ht1, htp1, phl1, phi1⟩, rest1⟩ := id cc1
    refine ⟨rfl, ?_⟩
    dsimp only [Option.toList, List.cons_append, List.nil_append]
    refine r_aload_n dX8_feed_20 rfl rfl ?_
    refine r_iload_n dX8_feed_21 rfl rfl ?_
    refine r_callV 0 [_] (s_X8_putBytes cc1 ix2 (by omega)) dX8_feed_22 cs_X8_105 im_X8_putBytes (by decide) c0 rfl (by decide) (by decide) (by decide) rfl rfl (Nat.le_of_ble_eq_true rfl) (fun _ _ _ q => q.elim) (fun v n2 h2 q => ?_)
    obtain ⟨rfl, rfl, cc2, fr2⟩ := q
    obtain ⟨c0, c1, c2, ⟨ht2, htp2, phl2, phi2⟩, rest2⟩ := id cc2
    refine ⟨rfl, ?_⟩
    dsimp only [Option.toList, List.cons_append, List.nil_append]
    refine r_aload_n dX8_feed_25 rfl rfl ?_
    refine r_iload_n dX8_feed_26 rfl rfl ?_
    refine r_callV 0 [_] (s_X8_putBytes cc2 ix3 (by omega)) dX8_feed_27 cs_X8_105 im_X8_putBytes (by decide) c0 rfl (by decide) (by decide) (by decide) rfl rfl (Nat.le_of_ble_eq_true rfl) (fun _ _ _ q => q.elim) (fun v n2 h2 q => ?_)
    obtain ⟨rfl, rfl, cc3, fr3⟩ := q
    obtain ⟨c0, c1, c2, ⟨ht3, htp3, phl3, phi3⟩, rest3⟩ := id cc3
    refine ⟨rfl, ?_⟩
    dsimp only [Option.toList, List.cons_append, List.nil_append]
    refine r_aload_n dX8_feed_30 rfl rfl ?_
    refine r_iload dX8_feed_31 rfl ?_
    refine r_callV 0 [_] (s_X8_putBytes cc3 ix4 (by omega)) dX8_feed_33 cs_X8_105 im_X8_putBytes (by decide) c0 rfl (by decide) (by decide) (by decide) rfl rfl (Nat.le_of_ble_eq_true rfl) (fun _ _ _ q => q.elim) (fun v n2 h2 q => ?_)
    obtain ⟨rfl, rfl, cc4, fr4⟩ := q
    obtain ⟨c0, c1, c2, ⟨ht4, htp4, phl4, phi4⟩, rest4⟩ := id cc4
    refine ⟨rfl, ?_⟩
    dsimp only [Option.toList, List.cons_append, List.nil_append]
    refine r_aload_n dX8_feed_36 rfl rfl ?_
    refine r_iload dX8_feed_37 rfl ?_
    refine r_callV 0 [_] (s_X8_putBytes cc4 ix5 (by omega)) dX8_feed_39 cs_X8_105 im_X8_putBytes (by decide) c0 rfl (by decide) (by decide) (by decide) rfl rfl (Nat.le_of_ble_eq_true rfl) (fun _ _ _ q => q.elim) (fun v n2 h2 q => ?_)
    obtain ⟨rfl, rfl, cc5, fr5⟩ := q
    obtain ⟨c0, c1, c2, ⟨ht5, htp5, phl5, phi5⟩, rest5⟩ := id cc5
    refine ⟨rfl, ?_⟩
    dsimp only [Option.toList, List.cons_append, List.nil_append]
    refine r_aload_n dX8_feed_42 rfl rfl ?_
    refine r_get (fs := [_, _, _, _, _, _, _, _, _, _, _, _, _, _, _, _, _, _, _, _]) dX8_feed_43 fl_X8_13 (by decide) c0 rfl ?_
    refine r_iret dX8_feed_46 ?_
    rw [if_pos (by omega)] at e0
    rw [e0]
    exact ⟨rfl, rfl, rfl, cls_of cc5, fun j hj => (fr5 j hj).trans ((fr4 j hj).trans ((fr3 j hj).trans ((fr2 j hj).trans (fr1 j hj))))⟩
  · refine r_iconst dX8_feed_13 ?_
    refine r_iret dX8_feed_14 ?_
    rw [if_neg (by omega)] at e0
    rw [e0]
    exact ⟨(by simp [ocL]), rfl, rfl, cls_of cc, (by repeat (first | exact fun _ _ => rfl | refine fr_up ?_ (by decide)))⟩

theorem s_X8_refuseText {h : aH} {taped fpl hlaw himg : Int} (c0 : h 0 = .inr (8, [.ref 1, iv taped, iv fpl, .ref 2, .ref 3, .ref 4, .ref 5, .ref 6, .ref 17, .ref 28, .ref 34, iv hlaw, .ref 40, .ref 49, iv himg, .ref 58, .ref 62, .ref 65, .ref 66, .ref 67])) {rf : Nat → Int} (c2 : h 2 = .inl (0, 4, rf)) {fa pl tk l0 ki st en : Int} {tx : Value} (c3 : h 3 = .inr (6, [iv fa, iv pl, iv tk, tx, iv l0, iv ki, iv st, iv en]))  : mSem yX8_refuseText cX8_refuseText 1 (some .int) 0 0 0 [.ref 0] 97 h (Ret fa (va_up (va_up h 2 (.inl (0, 4, va_up rf 0 (rf 0 + 1)))) 0 (.inr (8, [.ref 1, iv taped, iv pl, .ref 2, .ref 3, .ref 4, .ref 5, .ref 6, .ref 17, .ref 28, .ref 34, iv hlaw, .ref 40, .ref 49, iv himg, .ref 58, .ref 62, .ref 65, .ref 66, .ref 67])))) noX := by
  refine mSem_of (own := RX8) (name := "refuseText") pn_X8 rfl rfl (Nat.le_of_ble_eq_true rfl) ?_
  refine r_aload_n dX8_refuseText_0 rfl rfl ?_
  refine r_get (fs := [_, _, _, _, _, _, _, _, _, _, _, _, _, _, _, _, _, _, _, _]) dX8_refuseText_1 fl_X8_20 (by decide) c0 rfl ?_
  refine r_iconst dX8_refuseText_4 ?_
  refine r_dup2 dX8_refuseText_5 rfl rfl ?_
  refine r_ald dX8_refuseText_6 (by decide) c2 (by omega) (by omega) (by decide) ?_
  refine r_iconst dX8_refuseText_7 ?_
  refine r_iadd dX8_refuseText_8 ?_
  refine r_ast dX8_refuseText_9 (by decide) c2 (by omega) (by omega) (by decide) ?_
  refine r_aload_n dX8_refuseText_10 rfl rfl ?_
  refine r_aload_n dX8_refuseText_11 rfl rfl ?_
  refine r_get (fs := [_, _, _, _, _, _, _, _, _, _, _, _, _, _, _, _, _, _, _, _]) dX8_refuseText_12 fl_X8_27 (by decide) c0 rfl ?_
  refine r_get (fs := [_, _, _, _, _, _, _, _]) dX8_refuseText_15 fl_X8_133 (by decide) c3 rfl ?_
  refine r_put (fs := [_, _, _, _, _, _, _, _, _, _, _, _, _, _, _, _, _, _, _, _]) (fs2 := [_, _, _, _, _, _, _, _, _, _, _, _, _, _, _, _, _, _, _, _]) dX8_refuseText_18 fp_X8_17 (by decide) c0 (nar_int _) (Nat.le_of_ble_eq_true rfl) rfl ?_
  refine r_aload_n dX8_refuseText_21 rfl rfl ?_
  refine r_get (fs := [_, _, _, _, _, _, _, _, _, _, _, _, _, _, _, _, _, _, _, _]) dX8_refuseText_22 fl_X8_27 (by decide) rfl rfl ?_
  refine r_get (fs := [_, _, _, _, _, _, _, _]) dX8_refuseText_25 fl_X8_136 (by decide) c3 rfl ?_
  refine r_iret dX8_refuseText_28 ?_
  exact ⟨rfl, rfl, rfl⟩
