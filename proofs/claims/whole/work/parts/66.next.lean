/-! ===== the reference: next, best ===== -/
theorem upAg {a b : Nat → Int} {k i : Nat} {v : Int} (h : a i = b i) : va_up a k v i = va_up b k v i := by
  unfold va_up
  split
  · rfl
  · exact h
theorem upB {a : Nat → Int} {k i : Nat} {v lo hi : Int} (h : lo ≤ a i ∧ a i ≤ hi) (hv : lo ≤ v ∧ v ≤ hi) : lo ≤ va_up a k v i ∧ va_up a k v i ≤ hi := by
  unfold va_up
  split
  · exact hv
  · exact h
def rgS (ok : Int → Int → Bool) : Nat → Nat → Int
  | 0 => fun _ => 0
  | d + 1 => fun k => rgS ok d k + (if ok ((d : Nat) : Int) ((k : Nat) : Int) = true then 1 else 0)
theorem rgS_B (ok : Int → Int → Bool) : ∀ d k : Nat, 0 ≤ rgS ok d k ∧ rgS ok d k ≤ d := by
  intro d
  induction d with
  | zero => intro k; exact ⟨Int.le_refl _, Int.le_refl _⟩
  | succ d ih =>
    intro k
    have := ih k
    have e : rgS ok (d + 1) k = rgS ok d k + (if ok ((d : Nat) : Int) ((k : Nat) : Int) = true then 1 else 0) := rfl
    rw [e]
    split <;> omega
def bsR (rg : Nat → Int) (its : Int) : Nat → Nat
  | 0 => 0
  | k + 1 => if rg (bsR rg its k) < rg (k + 1) ∨ (rg (k + 1) = rg (bsR rg its k) ∧ (((((k + 1 : Nat) : Int) - its).natAbs : Nat) : Int) < ((((bsR rg its k : Nat) : Int) - its).natAbs : Int)) then k + 1 else bsR rg its k
theorem bsR_B (rg : Nat → Int) (its : Int) : ∀ k, bsR rg its k ≤ k := by
  intro k
  induction k with
  | zero => exact Nat.le_refl _
  | succ k ih => unfold bsR; split <;> omega
theorem bsR_s (rg : Nat → Int) (its : Int) (k : Nat) : bsR rg its (k + 1) = if rg (bsR rg its k) < rg (k + 1) ∨ (rg (k + 1) = rg (bsR rg its k) ∧ (((((k + 1 : Nat) : Int) - its).natAbs : Nat) : Int) < ((((bsR rg its k : Nat) : Int) - its).natAbs : Int)) then k + 1 else bsR rg its k := rfl

theorem l_X9_gr1 {h : aH} {w : Int} {gg lt lgt : Nat → Int} {di day m : Int} {Q : Option Value → Nat → aH → Prop} : ∀ (k j : Nat) (gr : Nat → Int), j + k = 1441 → (∀ i, i < j → gr i = 0) → (∀ (gr : Nat → Int), (∀ i, i < 1441 → gr i = 0) → Ev RX9 "greatest" cX9_greatest 7 (some .int) 4 0 0 Q noX 97 (UT (va_up h 82 (.inl (0, 1441, gr))) gg w lt lgt) 25 [(0, .ref 68), (1, iv di), (2, iv day), (3, iv m), (4, iv 1441)] []) → Ev RX9 "greatest" cX9_greatest 7 (some .int) 4 0 0 Q noX 97 (UT (va_up h 82 (.inl (0, 1441, gr))) gg w lt lgt) 3 [(0, .ref 68), (1, iv di), (2, iv day), (3, iv m), (4, iv (j : Nat))] [] := by
  intro k
  induction k with
  | zero =>
    intro j gr hj hg kk
    obtain rfl : j = 1441 := by omega
    refine r_iload dX9_greatest_3 rfl ?_
    refine r_sipush dX9_greatest_5 rfl ?_
    refine r_icmp_gt (tgt := 25) dX9_greatest_8 (by decide) ⟨by omega, by omega⟩ ⟨by omega, by omega⟩ (fun g8 => ?_) (fun g8 => absurd g8 (by omega))
    exact kk gr hg
  | succ k ih =>
    intro j gr hj hg kk
    refine r_iload dX9_greatest_3 rfl ?_
    refine r_sipush dX9_greatest_5 rfl ?_
    refine r_icmp_gt (tgt := 25) dX9_greatest_8 (by decide) ⟨by omega, by omega⟩ ⟨by omega, by omega⟩ (fun g8 => absurd g8 (by omega)) (fun g8 => ?_)
    refine r_aload_n dX9_greatest_11 rfl rfl ?_
    refine r_get (fs := RGL _ _) dX9_greatest_12 fl_X9_60 (by decide) rfl rfl ?_
    refine r_iload dX9_greatest_15 rfl ?_
    refine r_iconst dX9_greatest_17 ?_
    refine r_ast dX9_greatest_18 (by decide) rfl (by omega) (by omega) (by decide) ?_
    refine r_iinc (lv2 := [(0, _), (1, _), (2, _), (3, _), (4, _)]) dX9_greatest_19 (by decide) rfl rfl rfl ?_
    refine r_goto (tgt := 3) dX9_greatest_22 (by decide) ?_
    rw [ut_c _ _ _ _ _ _ _ (by decide), Int.toNat_natCast, show (j : Int) + 1 = ((j + 1 : Nat) : Int) by omega]
    refine ih (j + 1) _ (by omega) (fun i hi => ?_) kk
    by_cases q : i = j
    · subst q; exact upI_eq
    · rw [upI_ne q]; exact hg i (by omega)

theorem l_X9_gr2 {h : aH} {w : Int} {dl cl lm mn : Nat → Int} (c69 : h 69 = .inl (0, 45, dl)) (c70 : h 70 = .inl (0, 60, cl)) (c71 : h 71 = .inl (0, 12, lm)) (c79 : h 79 = .inl (0, 120, mn)) {nd sw nc nm : Int} {K U I O G L cf ct fc nx cd md my mt : Nat → Int} (pi : PInv nd sw nc K U I O G L cf ct fc nx cd) {cp : Nat → Int} (c81 : h 81 = .inl (0, 4961, cp)) {lc : List Int} (blb : ∀ x ∈ lc, 0 ≤ x ∧ x < 4961) (bll : lc.length ≤ 4961) (hag : agL cp lc) {g : Nat → Int} {di : Int} (hdi : 0 ≤ di ∧ di < nd) {day : Int} (hd : 0 ≤ day ∧ day < 365) {m : Int} (hm : 0 ≤ m ∧ m < 1440) {f : Int → Int} (hf : f = (fun c => if tldI sw nc K O G L cf ct cd di day m (c / 41 - 60) (c % 41 - 20) = -1 then 1440 else tldI sw nc K O G L cf ct cd di day m (c / 41 - 60) (c % 41 - 20))) : ∀ (l2 : List Int) (j : Nat) (s : (Nat → Int) × Int) (gr gg lt lgt : Nat → Int), lc.drop j = l2 → j ≤ lc.length → gg 36 = (lc.length : Int) → (grF f l2 s).2 = (grF f lc (fun _ => 0, 0)).2 → (∀ i : Nat, i < 1441 → gr i = s.1 i) → (∀ i, 0 ≤ s.1 i ∧ s.1 i ≤ (j : Int)) → (0 ≤ s.2 ∧ s.2 ≤ (j : Int)) → TellR gg dl cl lm mn nd sw nc nm K U I O G L cf ct cd md my mt → LitR (gg 30) lt lgt sw nc L cf ct cd → (∀ k, k ≠ 30 → gg k = g k) → Ev RX9 "greatest" cX9_greatest 7 (some .int) 4 0 0 (fun v n' h' => v = some (iv (grF f lc (fun _ => 0, 0)).2) ∧ n' = 97 ∧ ∃ gr g2 lt2 lg2, h' = UT (va_up h 82 (.inl (0, 1441, gr))) g2 w lt2 lg2 ∧ LitR (g2 30) lt2 lg2 sw nc L cf ct cd ∧ ∀ k, k ≠ 30 → g2 k = g k) noX 97 (UT (va_up h 82 (.inl (0, 1441, gr))) gg w lt lgt) 31 [(0, .ref 68), (1, iv di), (2, iv day), (3, iv m), (4, iv s.2), (5, iv (j : Nat))] [] := by
  obtain ⟨pnd, psw, pnc, pK, pU, pI, pO, pG, pL, pcf, pct, pfc, pnx⟩ := id pi
  intro l2
  induction l2 with
  | nil =>
    intro j s gr gg lt lgt hd hj e36 hR b1 b2 b3 trg lig kp
    have hj2 : lc.length ≤ j := List.drop_eq_nil_iff.mp hd
    have hR2 : s.2 = (grF f lc (fun _ => 0, 0)).2 := hR
    refine r_iload dX9_greatest_31 rfl ?_
    refine r_aload_n dX9_greatest_33 rfl rfl ?_
    refine r_getR (z := (gg 36)) dX9_greatest_34 fl_X9_285 (by decide) rfl rfl ?_
    refine r_icmp_ge (tgt := 161) dX9_greatest_37 (by decide) ⟨by omega, by omega⟩ ⟨by omega, by omega⟩ (fun g37 => ?_) (fun g37 => absurd g37 (by omega))
    refine r_iload dX9_greatest_161 rfl ?_
    refine r_iret dX9_greatest_163 ?_
    exact ⟨ivE hR2, rfl, gr, gg, lt, lgt, rfl, lig, kp⟩
  | cons x r ih =>
    intro j s gr gg lt lgt hdr hj e36 hR b1 b2 b3 trg lig kp
    obtain ⟨d1, d2, d3, d4⟩ := drop_c hdr
    have bx := blb x d3
    have e8 := hag j d1
    rw [d2] at e8
    obtain ⟨t1, t2, t3, t31, pnm, tdl, tcl, tlm, tmd, pmt, pmd, pmy⟩ := id trg
    obtain ⟨k1, k2, k3, k4, k5⟩ := tdl di.toNat (by omega)
    have bK := pK di.toNat
    have bO := pO di.toNat
    have bG := pG di.toNat
    have bU := pU di.toNat
    have bI := pI di.toNat
    have q0 : (5 * di).toNat = 5 * di.toNat := by omega
    have q1 : (5 * di + 1).toNat = 5 * di.toNat + 1 := by omega
    have q2 : (5 * di + 2).toNat = 5 * di.toNat + 2 := by omega
    have q3 : (5 * di + 3).toNat = 5 * di.toNat + 3 := by omega
    have q4 : (5 * di + 4).toNat = 5 * di.toNat + 4 := by omega
    have b5 := told_B (K di.toNat) (x / 41 - 60) (x % 41 - 20) (O di.toNat) (G di.toNat) day m (noonI L day) (halfI sw day) (cUp cd cf ct day m nc.toNat)
    have ef : f x = if (toldI (K di.toNat) (x / 41 - 60) (x % 41 - 20) (O di.toNat) (G di.toNat) day m (noonI L day) (halfI sw day) (cUp cd cf ct day m nc.toNat)) = -1 then 1440 else (toldI (K di.toNat) (x / 41 - 60) (x % 41 - 20) (O di.toNat) (G di.toNat) day m (noonI L day) (halfI sw day) (cUp cd cf ct day m nc.toNat)) := by rw [hf]; rfl
    have e9 : grF f (x :: r) s = grF f r (va_up s.1 (f x).toNat (s.1 (f x).toNat + 1), if s.2 < s.1 (f x).toNat + 1 then s.1 (f x).toNat + 1 else s.2) := rfl
    obtain ⟨v, ev⟩ : ∃ v, (toldI (K di.toNat) (x / 41 - 60) (x % 41 - 20) (O di.toNat) (G di.toNat) day m (noonI L day) (halfI sw day) (cUp cd cf ct day m nc.toNat)) = v := ⟨_, rfl⟩
    rw [ev] at b5 ef
    refine r_iload dX9_greatest_31 rfl ?_
    refine r_aload_n dX9_greatest_33 rfl rfl ?_
    refine r_getR (z := (gg 36)) dX9_greatest_34 fl_X9_285 (by decide) rfl rfl ?_
    refine r_icmp_ge (tgt := 161) dX9_greatest_37 (by decide) ⟨by omega, by omega⟩ ⟨by omega, by omega⟩ (fun g37 => absurd g37 (by omega)) (fun g37 => ?_)
    refine r_aload_n dX9_greatest_40 rfl rfl ?_
    refine r_aload_n dX9_greatest_41 rfl rfl ?_
    refine r_get (fs := RGL _ _) dX9_greatest_42 fl_X9_13 (by decide) rfl rfl ?_
    refine r_iconst dX9_greatest_45 ?_
    refine r_iload_n dX9_greatest_46 rfl rfl ?_
    refine r_imul dX9_greatest_47 ?_
    refine r_ald dX9_greatest_48 (by decide) c69 (by omega) (by omega) (by decide) ?_
    rw [q0, k1]
    refine r_aload_n dX9_greatest_49 rfl rfl ?_
    refine r_get (fs := RGL _ _) dX9_greatest_50 fl_X9_57 (by decide) rfl rfl ?_
    refine r_iload dX9_greatest_53 rfl ?_
    refine r_ald dX9_greatest_55 (by decide) c81 (by omega) (by omega) (by decide) ?_
    rw [Int.toNat_natCast, e8]
    refine r_bipush dX9_greatest_56 rfl ?_
    refine r_idivN dX9_greatest_58 (by omega) (by omega) (by omega) (by omega) ?_
    refine r_bipush dX9_greatest_59 rfl ?_
    refine r_isub dX9_greatest_61 ?_
    refine r_aload_n dX9_greatest_62 rfl rfl ?_
    refine r_get (fs := RGL _ _) dX9_greatest_63 fl_X9_57 (by decide) rfl rfl ?_
    refine r_iload dX9_greatest_66 rfl ?_
    refine r_ald dX9_greatest_68 (by decide) c81 (by omega) (by omega) (by decide) ?_
    rw [Int.toNat_natCast, e8]
    refine r_bipush dX9_greatest_69 rfl ?_
    refine r_iremN dX9_greatest_71 (by omega) (by omega) (by omega) (by omega) ?_
    refine r_bipush dX9_greatest_72 rfl ?_
    refine r_isub dX9_greatest_74 ?_
    refine r_aload_n dX9_greatest_75 rfl rfl ?_
    refine r_get (fs := RGL _ _) dX9_greatest_76 fl_X9_13 (by decide) rfl rfl ?_
    refine r_iconst dX9_greatest_79 ?_
    refine r_iload_n dX9_greatest_80 rfl rfl ?_
    refine r_imul dX9_greatest_81 ?_
    refine r_iconst dX9_greatest_82 ?_
    refine r_iadd dX9_greatest_83 ?_
    refine r_ald dX9_greatest_84 (by decide) c69 (by omega) (by omega) (by decide) ?_
    rw [q3, k4]
    refine r_aload_n dX9_greatest_85 rfl rfl ?_
    refine r_get (fs := RGL _ _) dX9_greatest_86 fl_X9_13 (by decide) rfl rfl ?_
    refine r_iconst dX9_greatest_89 ?_
    refine r_iload_n dX9_greatest_90 rfl rfl ?_
    refine r_imul dX9_greatest_91 ?_
    refine r_iconst dX9_greatest_92 ?_
    refine r_iadd dX9_greatest_93 ?_
    refine r_ald dX9_greatest_94 (by decide) c69 (by omega) (by omega) (by decide) ?_
    rw [q4, k5]
    refine r_iload_n dX9_greatest_95 rfl rfl ?_
    refine r_iload_n dX9_greatest_96 rfl rfl ?_
    refine r_callV 68 [_, _, _, _, _, _, _] (s_X9_tellsBy (g := gg) (by rfl) (by exact c69) (by exact c70) (by exact c71) (by rfl) (by rfl) (by exact c79) trg pi lig (by omega) (by omega) (by omega) (by omega) (by omega) (by omega) (by omega)) dX9_greatest_97 cs_X9_271 im_X9_tellsBy (by decide) rfl rfl (by decide) (by decide) (by decide) rfl rfl (Nat.le_of_ble_eq_true rfl) (fun _ _ _ q => q.elim) (fun v n2 h2 q => ?_)
    obtain ⟨rfl, rfl, gn, lt2, lg2, rfl, li2, kp2⟩ := q
    rw [ut_ut]
    have tr2 := tell_kp trg kp2
    refine ⟨rfl, ?_⟩
    dsimp only [Option.toList, List.cons_append, List.nil_append]
    rw [ev]
    refine r_istore (lv2 := [(0, _), (1, _), (2, _), (3, _), (4, _), (5, _), (6, _)]) dX9_greatest_100 (by decide) rfl rfl ?_
    refine r_iload dX9_greatest_102 rfl ?_
    refine r_iconst dX9_greatest_104 ?_
    refine r_icmp_ne (tgt := 114) dX9_greatest_105 (by decide) ⟨by omega, by omega⟩ ⟨by omega, by omega⟩ (fun g105 => ?_) (fun g105 => ?_)
    · refine r_iload dX9_greatest_114 rfl ?_
      refine r_istore (lv2 := [(0, _), (1, _), (2, _), (3, _), (4, _), (5, _), (6, _)]) dX9_greatest_116 (by decide) rfl rfl ?_
      first
        | rw [if_pos (by omega)] at ef
        | rw [if_neg (by omega)] at ef
      have b6 := b2 (f x).toNat
      rw [ef] at b6
      refine r_aload_n dX9_greatest_118 rfl rfl ?_
      refine r_get (fs := RGL _ _) dX9_greatest_119 fl_X9_60 (by decide) rfl rfl ?_
      refine r_iload dX9_greatest_122 rfl ?_
      refine r_dup2 dX9_greatest_124 rfl rfl ?_
      refine r_ald dX9_greatest_125 (by decide) rfl (by omega) (by omega) (by decide) ?_
      rw [b1 _ (by omega)]
      refine r_iconst dX9_greatest_126 ?_
      refine r_iadd dX9_greatest_127 ?_
      refine r_ast dX9_greatest_128 (by decide) rfl (by omega) (by omega) (by decide) ?_
      refine r_aload_n dX9_greatest_129 rfl rfl ?_
      refine r_get (fs := RGL _ _) dX9_greatest_130 fl_X9_60 (by decide) rfl rfl ?_
      refine r_iload dX9_greatest_133 rfl ?_
      refine r_ald dX9_greatest_135 (by decide) rfl (by omega) (by omega) (by decide) ?_
      rw [upI_eq]
      refine r_iload dX9_greatest_136 rfl ?_
      refine r_icmp_le (tgt := 151) dX9_greatest_138 (by decide) ⟨by omega, by omega⟩ ⟨by omega, by omega⟩ (fun g138 => ?_) (fun g138 => ?_)
      · refine r_iload dX9_greatest_151 rfl ?_
        refine r_istore (lv2 := [(0, _), (1, _), (2, _), (3, _), (4, _), (5, _), (6, _)]) dX9_greatest_153 (by decide) rfl rfl ?_
        refine r_iinc (lv2 := [(0, _), (1, _), (2, _), (3, _), (4, _), (5, _), (6, _)]) dX9_greatest_155 (by decide) rfl rfl rfl ?_
        refine r_goto (tgt := 31) dX9_greatest_158 (by decide) ?_
        rw [ut_c _ _ _ _ _ _ _ (by decide)]
        refine r_lv (lv2 := [(0, _), (1, _), (2, _), (3, _), (4, _), (5, _)]) rfl ?_
        rw [show (j : Int) + 1 = ((j + 1 : Nat) : Int) by omega]
        rw [e9, ef] at hR
        first
          | rw [if_pos (by omega)] at hR
          | rw [if_neg (by omega)] at hR
        have hi9 := fun gr2 => ih (j + 1) _ gr2 gn lt2 lg2 d4 (by omega) ((kp2 36 (by decide)).trans e36) hR
        refine hi9 _ (fun i hi => ?_) (fun i => ?_) (by dsimp only; omega) tr2 li2 (fun k hk => (kp2 k hk).trans (kp k hk))
        · exact upAg (b1 i hi)
        · exact upB (by have := b2 i; omega) (by omega)
      · refine r_aload_n dX9_greatest_141 rfl rfl ?_
        refine r_get (fs := RGL _ _) dX9_greatest_142 fl_X9_60 (by decide) rfl rfl ?_
        refine r_iload dX9_greatest_145 rfl ?_
        refine r_ald dX9_greatest_147 (by decide) rfl (by omega) (by omega) (by decide) ?_
        rw [upI_eq]
        refine r_goto (tgt := 153) dX9_greatest_148 (by decide) ?_
        refine r_istore (lv2 := [(0, _), (1, _), (2, _), (3, _), (4, _), (5, _), (6, _)]) dX9_greatest_153 (by decide) rfl rfl ?_
        refine r_iinc (lv2 := [(0, _), (1, _), (2, _), (3, _), (4, _), (5, _), (6, _)]) dX9_greatest_155 (by decide) rfl rfl rfl ?_
        refine r_goto (tgt := 31) dX9_greatest_158 (by decide) ?_
        rw [ut_c _ _ _ _ _ _ _ (by decide)]
        refine r_lv (lv2 := [(0, _), (1, _), (2, _), (3, _), (4, _), (5, _)]) rfl ?_
        rw [show (j : Int) + 1 = ((j + 1 : Nat) : Int) by omega]
        rw [e9, ef] at hR
        first
          | rw [if_pos (by omega)] at hR
          | rw [if_neg (by omega)] at hR
        have hi9 := fun gr2 => ih (j + 1) _ gr2 gn lt2 lg2 d4 (by omega) ((kp2 36 (by decide)).trans e36) hR
        refine hi9 _ (fun i hi => ?_) (fun i => ?_) (by dsimp only; omega) tr2 li2 (fun k hk => (kp2 k hk).trans (kp k hk))
        · exact upAg (b1 i hi)
        · exact upB (by have := b2 i; omega) (by omega)
    · refine r_sipush dX9_greatest_108 rfl ?_
      refine r_goto (tgt := 116) dX9_greatest_111 (by decide) ?_
      refine r_istore (lv2 := [(0, _), (1, _), (2, _), (3, _), (4, _), (5, _), (6, _)]) dX9_greatest_116 (by decide) rfl rfl ?_
      first
        | rw [if_pos (by omega)] at ef
        | rw [if_neg (by omega)] at ef
      have b6 := b2 (f x).toNat
      rw [ef] at b6
      refine r_aload_n dX9_greatest_118 rfl rfl ?_
      refine r_get (fs := RGL _ _) dX9_greatest_119 fl_X9_60 (by decide) rfl rfl ?_
      refine r_iload dX9_greatest_122 rfl ?_
      refine r_dup2 dX9_greatest_124 rfl rfl ?_
      refine r_ald dX9_greatest_125 (by decide) rfl (by omega) (by omega) (by decide) ?_
      rw [b1 _ (by omega)]
      refine r_iconst dX9_greatest_126 ?_
      refine r_iadd dX9_greatest_127 ?_
      refine r_ast dX9_greatest_128 (by decide) rfl (by omega) (by omega) (by decide) ?_
      refine r_aload_n dX9_greatest_129 rfl rfl ?_
      refine r_get (fs := RGL _ _) dX9_greatest_130 fl_X9_60 (by decide) rfl rfl ?_
      refine r_iload dX9_greatest_133 rfl ?_
      refine r_ald dX9_greatest_135 (by decide) rfl (by omega) (by omega) (by decide) ?_
      rw [upI_eq]
      refine r_iload dX9_greatest_136 rfl ?_
      refine r_icmp_le (tgt := 151) dX9_greatest_138 (by decide) ⟨by omega, by omega⟩ ⟨by omega, by omega⟩ (fun g138 => ?_) (fun g138 => ?_)
      · refine r_iload dX9_greatest_151 rfl ?_
        refine r_istore (lv2 := [(0, _), (1, _), (2, _), (3, _), (4, _), (5, _), (6, _)]) dX9_greatest_153 (by decide) rfl rfl ?_
        refine r_iinc (lv2 := [(0, _), (1, _), (2, _), (3, _), (4, _), (5, _), (6, _)]) dX9_greatest_155 (by decide) rfl rfl rfl ?_
        refine r_goto (tgt := 31) dX9_greatest_158 (by decide) ?_
        rw [ut_c _ _ _ _ _ _ _ (by decide)]
        refine r_lv (lv2 := [(0, _), (1, _), (2, _), (3, _), (4, _), (5, _)]) rfl ?_
        rw [show (j : Int) + 1 = ((j + 1 : Nat) : Int) by omega]
        rw [e9, ef] at hR
        first
          | rw [if_pos (by omega)] at hR
          | rw [if_neg (by omega)] at hR
        have hi9 := fun gr2 => ih (j + 1) _ gr2 gn lt2 lg2 d4 (by omega) ((kp2 36 (by decide)).trans e36) hR
        refine hi9 _ (fun i hi => ?_) (fun i => ?_) (by dsimp only; omega) tr2 li2 (fun k hk => (kp2 k hk).trans (kp k hk))
        · exact upAg (b1 i hi)
        · exact upB (by have := b2 i; omega) (by omega)
      · refine r_aload_n dX9_greatest_141 rfl rfl ?_
        refine r_get (fs := RGL _ _) dX9_greatest_142 fl_X9_60 (by decide) rfl rfl ?_
        refine r_iload dX9_greatest_145 rfl ?_
        refine r_ald dX9_greatest_147 (by decide) rfl (by omega) (by omega) (by decide) ?_
        rw [upI_eq]
        refine r_goto (tgt := 153) dX9_greatest_148 (by decide) ?_
        refine r_istore (lv2 := [(0, _), (1, _), (2, _), (3, _), (4, _), (5, _), (6, _)]) dX9_greatest_153 (by decide) rfl rfl ?_
        refine r_iinc (lv2 := [(0, _), (1, _), (2, _), (3, _), (4, _), (5, _), (6, _)]) dX9_greatest_155 (by decide) rfl rfl rfl ?_
        refine r_goto (tgt := 31) dX9_greatest_158 (by decide) ?_
        rw [ut_c _ _ _ _ _ _ _ (by decide)]
        refine r_lv (lv2 := [(0, _), (1, _), (2, _), (3, _), (4, _), (5, _)]) rfl ?_
        rw [show (j : Int) + 1 = ((j + 1 : Nat) : Int) by omega]
        rw [e9, ef] at hR
        first
          | rw [if_pos (by omega)] at hR
          | rw [if_neg (by omega)] at hR
        have hi9 := fun gr2 => ih (j + 1) _ gr2 gn lt2 lg2 d4 (by omega) ((kp2 36 (by decide)).trans e36) hR
        refine hi9 _ (fun i hi => ?_) (fun i => ?_) (by dsimp only; omega) tr2 li2 (fun k hk => (kp2 k hk).trans (kp k hk))
        · exact upAg (b1 i hi)
        · exact upB (by have := b2 i; omega) (by omega)

theorem s_X9_greatest {h : aH} {g : Nat → Int} {w : Int} (c68 : h 68 = RG g w) {dl cl lm lt lgt mn : Nat → Int} (c69 : h 69 = .inl (0, 45, dl)) (c70 : h 70 = .inl (0, 60, cl)) (c71 : h 71 = .inl (0, 12, lm)) (c77 : h 77 = .inl (2, 1440, lt)) (c78 : h 78 = .inl (2, 1440, lgt)) (c79 : h 79 = .inl (0, 120, mn)) {nd sw nc nm : Int} {K U I O G L cf ct fc nx cd md my mt : Nat → Int} (tr : TellR g dl cl lm mn nd sw nc nm K U I O G L cf ct cd md my mt) (pi : PInv nd sw nc K U I O G L cf ct fc nx cd) {grp : Nat → Int} (c82 : h 82 = .inl (0, 1441, grp)) (li : LitR (g 30) lt lgt sw nc L cf ct cd) {cp : Nat → Int} (c81 : h 81 = .inl (0, 4961, cp)) {lc : List Int} (blb : ∀ x ∈ lc, 0 ≤ x ∧ x < 4961) (bll : lc.length ≤ 4961) (hag : agL cp lc) (e36 : g 36 = (lc.length : Int)) {di : Int} (hdi : 0 ≤ di ∧ di < nd) {day : Int} (hd : 0 ≤ day ∧ day < 365) {m : Int} (hm : 0 ≤ m ∧ m < 1440){f : Int → Int} (hf : f = (fun c => if tldI sw nc K O G L cf ct cd di day m (c / 41 - 60) (c % 41 - 20) = -1 then 1440 else tldI sw nc K O G L cf ct cd di day m (c / 41 - 60) (c % 41 - 20)))  : mSem yX9_greatest cX9_greatest 7 (some .int) 4 0 0 [.ref 68, iv di, iv day, iv m] 97 h (fun v n' h' => v = some (iv (grF f lc (fun _ => 0, 0)).2) ∧ n' = 97 ∧ ∃ gr g2 lt2 lg2, h' = UT (va_up h 82 (.inl (0, 1441, gr))) g2 w lt2 lg2 ∧ LitR (g2 30) lt2 lg2 sw nc L cf ct cd ∧ ∀ k, k ≠ 30 → g2 k = g k) noX := by
  obtain ⟨t1, t2, t3, t31, pnm, tdl, tcl, tlm, tmd, pmt, pmd, pmy⟩ := id tr
  obtain ⟨pnd, psw, pnc, pK, pU, pI, pO, pG, pL, pcf, pct, pfc, pnx⟩ := id pi
  refine mSem_of (own := RX9) (name := "greatest") pn_X9 rfl rfl (Nat.le_of_ble_eq_true rfl) ?_
  refine r_iconst dX9_greatest_0 ?_
  refine r_istore (lv2 := [(0, _), (1, _), (2, _), (3, _), (4, _)]) dX9_greatest_1 (by decide) rfl rfl ?_
  refine ev_h (ut_sc (c := 82) c68 c77 c78 c82) ?_
  refine l_X9_gr1 1441 0 grp (by omega) (fun i hi => absurd hi (Nat.not_lt_zero i)) (fun gr hg => ?_)
  refine r_iconst dX9_greatest_25 ?_
  refine r_istore (lv2 := [(0, _), (1, _), (2, _), (3, _), (4, _)]) dX9_greatest_26 (by decide) rfl rfl ?_
  refine r_iconst dX9_greatest_28 ?_
  refine r_istore (lv2 := [(0, _), (1, _), (2, _), (3, _), (4, _), (5, _)]) dX9_greatest_29 (by decide) rfl rfl ?_
  exact l_X9_gr2 c69 c70 c71 c79 pi c81 blb bll hag hdi hd hm hf lc 0 (fun _ => 0, 0) gr g lt lgt rfl (by omega) e36 rfl hg (fun _ => ⟨Int.le_refl _, Int.le_refl _⟩) ⟨Int.le_refl _, Int.le_refl _⟩ tr li (fun _ _ => rfl)

theorem grF_B (f : Int → Int) : ∀ (l : List Int) (s : (Nat → Int) × Int) (n : Int), (∀ i, 0 ≤ s.1 i ∧ s.1 i ≤ n) → (0 ≤ s.2 ∧ s.2 ≤ n) → 0 ≤ (grF f l s).2 ∧ (grF f l s).2 ≤ n + l.length := by
  intro l
  induction l with
  | nil => intro s n h1 h2; show 0 ≤ s.2 ∧ s.2 ≤ n + ((0 : Nat) : Int); omega
  | cons x r ih =>
    intro s n h1 h2
    have h3 := h1 (f x).toNat
    have := ih (va_up s.1 (f x).toNat (s.1 (f x).toNat + 1), if s.2 < s.1 (f x).toNat + 1 then s.1 (f x).toNat + 1 else s.2) (n + 1) (fun i => by
      dsimp only
      by_cases q : i = (f x).toNat
      · rw [q, upI_eq]; omega
      · rw [upI_ne q]; have := h1 i; omega) (by dsimp only; split <;> omega)
    rw [List.length_cons]
    show 0 ≤ (grF f r (va_up s.1 (f x).toNat (s.1 (f x).toNat + 1), if s.2 < s.1 (f x).toNat + 1 then s.1 (f x).toNat + 1 else s.2)).2 ∧ (grF f r (va_up s.1 (f x).toNat (s.1 (f x).toNat + 1), if s.2 < s.1 (f x).toNat + 1 then s.1 (f x).toNat + 1 else s.2)).2 ≤ n + ((r.length + 1 : Nat) : Int)
    omega
theorem l_X9_next {h : aH} {w : Int} {dl cl lm mn : Nat → Int} (c69 : h 69 = .inl (0, 45, dl)) (c70 : h 70 = .inl (0, 60, cl)) (c71 : h 71 = .inl (0, 12, lm)) (c79 : h 79 = .inl (0, 120, mn)) {nd sw nc nm : Int} {K U I O G L cf ct fc nx cd md my mt : Nat → Int} (pi : PInv nd sw nc K U I O G L cf ct fc nx cd) {cp : Nat → Int} (c81 : h 81 = .inl (0, 4961, cp)) {lc : List Int} (blb : ∀ x ∈ lc, 0 ≤ x ∧ x < 4961) (bll : lc.length ≤ 4961) (hag : agL cp lc) {g : Nat → Int} {di : Int} (hdi : 0 ≤ di ∧ di < nd) {day : Int} (hd : 0 ≤ day ∧ day < 365) {w_ : Int} (hw : 0 ≤ w_ ∧ w_ ≤ 1) {gq : Int → Int} (hgq : ∀ m, (fun m => (grF (fun c => if tldI sw nc K O G L cf ct cd di day m (c / 41 - 60) (c % 41 - 20) = -1 then 1440 else tldI sw nc K O G L cf ct cd di day m (c / 41 - 60) (c % 41 - 20)) lc (fun _ => 0, 0)).2) m = gq m) (bgq : ∀ m, 0 ≤ gq m ∧ gq m ≤ 5000) : ∀ (k : Nat) (m : Int) (s : Int × Int) (gr gg lt lgt : Nat → Int), m + 15 * k = 1440 → 0 ≤ m → gg 36 = (lc.length : Int) → nxT gq k m s = (nxT gq 96 0 (-1, 0)) → (-1 ≤ s.1 ∧ s.1 ≤ 1440) → (0 ≤ s.2 ∧ s.2 ≤ 5000) → TellR gg dl cl lm mn nd sw nc nm K U I O G L cf ct cd md my mt → LitR (gg 30) lt lgt sw nc L cf ct cd → (∀ k, k ≠ 30 → gg k = g k) → Ev RX9 "next" cX9_next 8 (some .int) 8 0 0 (fun v n' h' => v = some (iv (if w_ = 0 then (nxT gq 96 0 (-1, 0)).1 else (nxT gq 96 0 (-1, 0)).2)) ∧ n' = 97 ∧ ∃ gr g2 lt2 lg2, h' = UT (va_up h 82 (.inl (0, 1441, gr))) g2 w lt2 lg2 ∧ LitR (g2 30) lt2 lg2 sw nc L cf ct cd ∧ ∀ k, k ≠ 30 → g2 k = g k) noX 97 (UT (va_up h 82 (.inl (0, 1441, gr))) gg w lt lgt) 55 [(0, .ref 68), (1, iv di), (2, iv day), (3, iv w_), (4, iv s.1), (5, iv s.2), (6, iv m)] [] := by
  obtain ⟨pnd, psw, pnc, pK, pU, pI, pO, pG, pL, pcf, pct, pfc, pnx⟩ := id pi
  intro k
  induction k with
  | zero =>
    intro m s gr gg lt lgt hm h0 e36 hN b1 b2 trg lig kp
    have hN2 : s = (nxT gq 96 0 (-1, 0)) := hN
    obtain rfl : m = 1440 := by omega
    refine r_iload dX9_next_55 rfl ?_
    refine r_sipush dX9_next_57 rfl ?_
    refine r_icmp_ge (tgt := 103) dX9_next_60 (by decide) ⟨by omega, by omega⟩ ⟨by omega, by omega⟩ (fun g60 => ?_) (fun g60 => absurd g60 (by omega))
    refine r_iload_n dX9_next_103 rfl rfl ?_
    refine r_if_ne (tgt := 112) dX9_next_104 (by decide) ⟨by omega, by omega⟩ (fun g104 => ?_) (fun g104 => ?_)
    · refine r_iload dX9_next_112 rfl ?_
      refine r_iret dX9_next_114 ?_
      exact ⟨ivE (by rw [← hN2]; first | rw [if_pos g104] | rw [if_neg g104]), rfl, gr, gg, lt, lgt, rfl, lig, kp⟩
    · refine r_iload dX9_next_107 rfl ?_
      refine r_goto (tgt := 114) dX9_next_109 (by decide) ?_
      refine r_iret dX9_next_114 ?_
      exact ⟨ivE (by rw [← hN2]; first | rw [if_pos g104] | rw [if_neg g104]), rfl, gr, gg, lt, lgt, rfl, lig, kp⟩
  | succ k ih =>
    intro m s gr gg lt lgt hm h0 e36 hN b1 b2 trg lig kp
    have b3 := bgq m
    have e9 : nxT gq (k + 1) m s = nxT gq k (m + 15) (if s.1 = -1 ∨ gq m < s.2 then (m, gq m) else s) := rfl
    refine r_iload dX9_next_55 rfl ?_
    refine r_sipush dX9_next_57 rfl ?_
    refine r_icmp_ge (tgt := 103) dX9_next_60 (by decide) ⟨by omega, by omega⟩ ⟨by omega, by omega⟩ (fun g60 => absurd g60 (by omega)) (fun g60 => ?_)
    refine r_aload_n dX9_next_63 rfl rfl ?_
    refine r_iload_n dX9_next_64 rfl rfl ?_
    refine r_iload_n dX9_next_65 rfl rfl ?_
    refine r_iload dX9_next_66 rfl ?_
    refine r_callV 68 [_, _, _] (s_X9_greatest (g := gg) (hf := rfl) (by rfl) (by exact c69) (by exact c70) (by exact c71) (by rfl) (by rfl) (by exact c79) trg pi (by rfl) lig (by exact c81) blb bll hag e36 hdi hd (by omega)) dX9_next_68 cs_X9_294 im_X9_greatest (by decide) rfl rfl (by decide) (by decide) (by decide) rfl rfl (Nat.le_of_ble_eq_true rfl) (fun _ _ _ q => q.elim) (fun v n2 h2 q => ?_)
    obtain ⟨rfl, rfl, gr2, gn, lt2, lg2, rfl, li2, kp2⟩ := q
    rw [ut_c _ _ _ _ _ _ _ (by decide), ut_ut]
    have tr2 := tell_kp trg kp2
    refine ⟨rfl, ?_⟩
    dsimp only [Option.toList, List.cons_append, List.nil_append]
    have hg2 := hgq m
    dsimp only at hg2
    rw [hg2]
    refine r_istore (lv2 := [(0, _), (1, _), (2, _), (3, _), (4, _), (5, _), (6, _), (7, _)]) dX9_next_71 (by decide) rfl rfl ?_
    refine r_iload dX9_next_73 rfl ?_
    refine r_iconst dX9_next_75 ?_
    refine r_icmp_eq (tgt := 89) dX9_next_76 (by decide) ⟨by omega, by omega⟩ ⟨by omega, by omega⟩ (fun g76 => ?_) (fun g76 => ?_)
    · refine r_iload dX9_next_89 rfl ?_
      refine r_istore (lv2 := [(0, _), (1, _), (2, _), (3, _), (4, _), (5, _), (6, _), (7, _)]) dX9_next_91 (by decide) rfl rfl ?_
      refine r_iload dX9_next_93 rfl ?_
      refine r_istore (lv2 := [(0, _), (1, _), (2, _), (3, _), (4, _), (5, _), (6, _), (7, _)]) dX9_next_95 (by decide) rfl rfl ?_
      refine r_iinc (lv2 := [(0, _), (1, _), (2, _), (3, _), (4, _), (5, _), (6, _), (7, _)]) dX9_next_97 (by decide) rfl rfl rfl ?_
      refine r_goto (tgt := 55) dX9_next_100 (by decide) ?_
      refine r_lv (lv2 := [(0, _), (1, _), (2, _), (3, _), (4, _), (5, _), (6, _)]) rfl ?_
      rw [e9] at hN
      first
        | (rw [if_pos (by omega)] at hN
           exact ih (m + 15) (m, gq m) gr2 gn lt2 lg2 (by omega) (by omega) ((kp2 36 (by decide)).trans e36) hN (by dsimp only; omega) (by dsimp only; omega) tr2 li2 (fun k hk => (kp2 k hk).trans (kp k hk)))
        | (rw [if_neg (by omega)] at hN
           exact ih (m + 15) s gr2 gn lt2 lg2 (by omega) (by omega) ((kp2 36 (by decide)).trans e36) hN b1 b2 tr2 li2 (fun k hk => (kp2 k hk).trans (kp k hk)))
    · refine r_iload dX9_next_79 rfl ?_
      refine r_iload dX9_next_81 rfl ?_
      refine r_icmp_lt (tgt := 89) dX9_next_83 (by decide) ⟨by omega, by omega⟩ ⟨by omega, by omega⟩ (fun g83 => ?_) (fun g83 => ?_)
      · refine r_iload dX9_next_89 rfl ?_
        refine r_istore (lv2 := [(0, _), (1, _), (2, _), (3, _), (4, _), (5, _), (6, _), (7, _)]) dX9_next_91 (by decide) rfl rfl ?_
        refine r_iload dX9_next_93 rfl ?_
        refine r_istore (lv2 := [(0, _), (1, _), (2, _), (3, _), (4, _), (5, _), (6, _), (7, _)]) dX9_next_95 (by decide) rfl rfl ?_
        refine r_iinc (lv2 := [(0, _), (1, _), (2, _), (3, _), (4, _), (5, _), (6, _), (7, _)]) dX9_next_97 (by decide) rfl rfl rfl ?_
        refine r_goto (tgt := 55) dX9_next_100 (by decide) ?_
        refine r_lv (lv2 := [(0, _), (1, _), (2, _), (3, _), (4, _), (5, _), (6, _)]) rfl ?_
        rw [e9] at hN
        first
          | (rw [if_pos (by omega)] at hN
             exact ih (m + 15) (m, gq m) gr2 gn lt2 lg2 (by omega) (by omega) ((kp2 36 (by decide)).trans e36) hN (by dsimp only; omega) (by dsimp only; omega) tr2 li2 (fun k hk => (kp2 k hk).trans (kp k hk)))
          | (rw [if_neg (by omega)] at hN
             exact ih (m + 15) s gr2 gn lt2 lg2 (by omega) (by omega) ((kp2 36 (by decide)).trans e36) hN b1 b2 tr2 li2 (fun k hk => (kp2 k hk).trans (kp k hk)))
      · refine r_goto (tgt := 97) dX9_next_86 (by decide) ?_
        refine r_iinc (lv2 := [(0, _), (1, _), (2, _), (3, _), (4, _), (5, _), (6, _), (7, _)]) dX9_next_97 (by decide) rfl rfl rfl ?_
        refine r_goto (tgt := 55) dX9_next_100 (by decide) ?_
        refine r_lv (lv2 := [(0, _), (1, _), (2, _), (3, _), (4, _), (5, _), (6, _)]) rfl ?_
        rw [e9] at hN
        first
          | (rw [if_pos (by omega)] at hN
             exact ih (m + 15) (m, gq m) gr2 gn lt2 lg2 (by omega) (by omega) ((kp2 36 (by decide)).trans e36) hN (by dsimp only; omega) (by dsimp only; omega) tr2 li2 (fun k hk => (kp2 k hk).trans (kp k hk)))
          | (rw [if_neg (by omega)] at hN
             exact ih (m + 15) s gr2 gn lt2 lg2 (by omega) (by omega) ((kp2 36 (by decide)).trans e36) hN b1 b2 tr2 li2 (fun k hk => (kp2 k hk).trans (kp k hk)))

theorem s_X9_next {h : aH} {th : Int} {t : Nat → Int} {tp : Nat} {fpl hlaw himg : Int} {rf : Nat → Int} {nd sw nc hl hs : Int} {K U I O G L cf ct fc nx cd : Nat → Int} {nr ns nm : Int} {rd ry rm rt se md my mt : Nat → Int} {M : ND} {ls : LSm} (cr : RefC h (t, tp, fpl, rf, hlaw, himg, ((nd, sw, nc), (hl, hs), K, U, I, O, G, L, cf, ct, fc, nx, cd), ((nr, ns, nm), rd, ry, rm, rt, se, md, my, mt), M, ls) th) {di day w_ : Int} (idi : inR di) (iday : inR day) (iw_ : inR w_)  : mSem yX9_next cX9_next 8 (some .int) 8 0 0 [.ref 68, iv di, iv day, iv w_] 97 h (RefQ (ocL [(diaB nd di, 1), (dayB day, 1), (whaB w_ 1, 1)]) (if (cpL (fun c => allR (fun dy mi => tldI sw nc K O G L cf ct cd di dy mi (c / 41 - 60) (c % 41 - 20)) rd ry rm rt di nr.toNat) 4961).length = 0 then -1 else if w_ = 0 then (nxT (fun m => (grF (fun c => if tldI sw nc K O G L cf ct cd di day m (c / 41 - 60) (c % 41 - 20) = -1 then 1440 else tldI sw nc K O G L cf ct cd di day m (c / 41 - 60) (c % 41 - 20)) (cpL (fun c => allR (fun dy mi => tldI sw nc K O G L cf ct cd di dy mi (c / 41 - 60) (c % 41 - 20)) rd ry rm rt di nr.toNat) 4961) (fun _ => 0, 0)).2) 96 0 (-1, 0)).1 else (nxT (fun m => (grF (fun c => if tldI sw nc K O G L cf ct cd di day m (c / 41 - 60) (c % 41 - 20) = -1 then 1440 else tldI sw nc K O G L cf ct cd di day m (c / 41 - 60) (c % 41 - 20)) (cpL (fun c => allR (fun dy mi => tldI sw nc K O G L cf ct cd di dy mi (c / 41 - 60) (c % 41 - 20)) rd ry rm rt di nr.toNat) 4961) (fun _ => 0, 0)).2) 96 0 (-1, 0)).2) h (t, tp, fpl, rf, hlaw, himg, ((nd, sw, nc), (hl, hs), K, U, I, O, G, L, cf, ct, fc, nx, cd), ((nr, ns, nm), rd, ry, rm, rt, se, md, my, mt), M, ls)) noX := by
  refine RefC_elim cr (fun g dl cl lm trr rfr nD nC nL lt lgt mn rdg cpl grp sea rts row cod ncod pil opn stg bsd imo imr ims imm w c68 c69 c70 c71 c72 c73 c74 c75 c76 c77 c78 c79 c80 c81 c82 c83 c84 c85 c86 c87 c88 c89 c90 c91 c92 c93 c94 c95 hth rr => ?_)
  refine RR_elim rr (fun e8 e10 e33 e38 e44 e53 tr pi ni li rrf rtp htp rrd rse phl phi rim rco ht nM nsn => ?_)
  obtain ⟨t1, t2, t3, t31, pnm, tdl, tcl, tlm, tmd, pmt, pmd, pmy⟩ := id tr
  obtain ⟨pnd, psw, pnc, pK, pU, pI, pO, pG, pL, pcf, pct, pfc, pnx⟩ := id pi
  obtain ⟨pnr, pns, pnm2, prd, pry, prm, prt, pse, pmd2, pmy2, pmt2⟩ := id ni
  unfold inR at idi iday iw_
  obtain ⟨lc, elc⟩ : ∃ l, cpL (fun c => allR (fun dy mi => tldI sw nc K O G L cf ct cd di dy mi (c / 41 - 60) (c % 41 - 20)) rd ry rm rt di nr.toNat) 4961 = l := ⟨_, rfl⟩
  have bll : lc.length ≤ 4961 := by rw [← elc]; exact cpL_len _ _
  have blb : ∀ x ∈ lc, 0 ≤ x ∧ x < 4961 := by rw [← elc]; exact cpL_B _ _
  rw [elc]
  refine mSem_of (own := RX9) (name := "next") pn_X9 rfl rfl (Nat.le_of_ble_eq_true rfl) ?_
  refine r_aload_n dX9_next_0 rfl rfl ?_
  refine r_iconst dX9_next_1 ?_
  refine r_putR dX9_next_2 fp_X9_102 (by decide) c68 (nar_int _) (Nat.le_of_ble_eq_true rfl) setR_0 (fun z0 hz0 => ?_)
  refine r_aload_n dX9_next_5 rfl rfl ?_
  refine r_iload_n dX9_next_6 rfl rfl ?_
  refine r_callV 68 [_] (s_X9_isDial (by rfl) (by first | rfl | exact hz0) (by show 0 ≤ g 1 ∧ g 1 ≤ 9; omega) idi) dX9_next_7 cs_X9_243 im_X9_isDial (by decide) rfl rfl (by decide) (by decide) (by decide) rfl rfl (Nat.le_of_ble_eq_true rfl) (fun _ _ _ q => q.elim) (fun v n2 h2 q => ?_)
  obtain ⟨rfl, q⟩ := q
  rcases q with ⟨kb1, rfl, hh⟩ | ⟨kb1, rfl, hh⟩
  · obtain rfl := hh.symm
    replace kb1 : diaB nd di = true := by rw [← t1]; exact kb1
    have bdi := of_decide_eq_true kb1
    refine ⟨rfl, ?_⟩
    dsimp only [Option.toList, List.cons_append, List.nil_append]
    refine r_if_eq (tgt := 30) dX9_next_10 (by decide) ⟨by omega, by omega⟩ (fun g10 => absurd g10 (by omega)) (fun g10 => ?_)
    refine r_aload_n dX9_next_13 rfl rfl ?_
    refine r_iload_n dX9_next_14 rfl rfl ?_
    refine r_callV 68 [_] (s_X9_isDay (by rfl) (by first | rfl | exact hz0) iday) dX9_next_15 cs_X9_259 im_X9_isDay (by decide) rfl rfl (by decide) (by decide) (by decide) rfl rfl (Nat.le_of_ble_eq_true rfl) (fun _ _ _ q => q.elim) (fun v n2 h2 q => ?_)
    obtain ⟨rfl, q⟩ := q
    rcases q with ⟨kb2, rfl, hh⟩ | ⟨kb2, rfl, hh⟩
    · obtain rfl := hh.symm
      have bday := of_decide_eq_true kb2
      refine ⟨rfl, ?_⟩
      dsimp only [Option.toList, List.cons_append, List.nil_append]
      refine r_if_eq (tgt := 30) dX9_next_18 (by decide) ⟨by omega, by omega⟩ (fun g18 => absurd g18 (by omega)) (fun g18 => ?_)
      refine r_aload_n dX9_next_21 rfl rfl ?_
      refine r_iload_n dX9_next_22 rfl rfl ?_
      refine r_iconst dX9_next_23 ?_
      refine r_callV 68 [_, _] (s_X9_isWhat (by rfl) (by first | rfl | exact hz0) iw_ ⟨by decide, by decide⟩) dX9_next_24 cs_X9_246 im_X9_isWhat (by decide) rfl rfl (by decide) (by decide) (by decide) rfl rfl (Nat.le_of_ble_eq_true rfl) (fun _ _ _ q => q.elim) (fun v n2 h2 q => ?_)
      obtain ⟨rfl, q⟩ := q
      rcases q with ⟨kb3, rfl, hh⟩ | ⟨kb3, rfl, hh⟩
      · obtain rfl := hh.symm
        have bw_ := of_decide_eq_true kb3
        refine ⟨rfl, ?_⟩
        dsimp only [Option.toList, List.cons_append, List.nil_append]
        refine r_if_ne (tgt := 32) dX9_next_27 (by decide) ⟨by omega, by omega⟩ (fun g27 => ?_) (fun g27 => absurd g27 (by omega))
        refine r_aload_n dX9_next_32 rfl rfl ?_
        refine r_iload_n dX9_next_33 rfl rfl ?_
        refine r_callV 68 [_] (s_X9_seeks (g := (va_up g 0 z0)) (hlc := elc) (by rfl) (by exact c69) (by exact c70) (by exact c71) (by exact c77) (by exact c78) (by exact c79) (by exact tr) pi (by exact c81) (by exact li) (by exact c80) rrd ni (by exact e33) bdi) dX9_next_34 cs_X9_291 im_X9_seeks (by decide) rfl rfl (by decide) (by decide) (by decide) rfl rfl (Nat.le_of_ble_eq_true rfl) (fun _ _ _ q => q.elim) (fun v n2 h2 q => ?_)
        obtain ⟨rfl, rfl, cp, gn, lt2, lg2, rfl, li2, e36, hag, kp2⟩ := q
        refine ⟨rfl, ?_⟩
        dsimp only [Option.toList, List.cons_append, List.nil_append]
        refine r_aload_n dX9_next_37 rfl rfl ?_
        refine r_getR (z := (gn 36)) dX9_next_38 fl_X9_285 (by decide) rfl rfl ?_
        refine r_if_ne (tgt := 46) dX9_next_41 (by decide) ⟨by omega, by omega⟩ (fun g41 => ?_) (fun g41 => ?_)
        · refine r_iconst dX9_next_46 ?_
          refine r_istore (lv2 := [(0, _), (1, _), (2, _), (3, _), (4, _)]) dX9_next_47 (by decide) rfl rfl ?_
          refine r_iconst dX9_next_49 ?_
          refine r_istore (lv2 := [(0, _), (1, _), (2, _), (3, _), (4, _), (5, _)]) dX9_next_50 (by decide) rfl rfl ?_
          refine r_iconst dX9_next_52 ?_
          refine r_istore (lv2 := [(0, _), (1, _), (2, _), (3, _), (4, _), (5, _), (6, _)]) dX9_next_53 (by decide) rfl rfl ?_
          have hk := l_X9_next (h := UT (va_up (va_up h 68 (RG (va_up g 0 z0) w)) 81 (.inl (0, 4961, cp))) gn w lt2 lg2) (w := w) (g := gn) (by exact c69) (by exact c70) (by exact c71) (by exact c79) pi rfl blb bll hag bdi bday bw_ (gq := (fun m => (grF (fun c => if tldI sw nc K O G L cf ct cd di day m (c / 41 - 60) (c % 41 - 20) = -1 then 1440 else tldI sw nc K O G L cf ct cd di day m (c / 41 - 60) (c % 41 - 20)) lc (fun _ => 0, 0)).2)) (fun _ => rfl) (fun m => by have := grF_B (fun c => if tldI sw nc K O G L cf ct cd di day m (c / 41 - 60) (c % 41 - 20) = -1 then 1440 else tldI sw nc K O G L cf ct cd di day m (c / 41 - 60) (c % 41 - 20)) lc (fun _ => 0, 0) 0 (fun _ => ⟨Int.le_refl _, Int.le_refl _⟩) ⟨Int.le_refl _, Int.le_refl _⟩; omega) 96 0 (-1, 0) grp gn lt2 lg2 (by omega) (by omega) e36 rfl ⟨show (-1 : Int) ≤ -1 by decide, show (-1 : Int) ≤ 1440 by decide⟩ ⟨show (0 : Int) ≤ 0 by decide, show (0 : Int) ≤ 5000 by decide⟩ (tell_k4 (by exact tr) (kp2 1 (by decide)) (kp2 2 (by decide)) (kp2 3 (by decide)) (kp2 31 (by decide))) li2 (fun _ _ => rfl)
          refine ev_h (ut_sc (c := 82) rfl rfl rfl (by exact c82)) ?_
          refine ev_post hk (fun v n2 h2 q => ?_) (fun _ _ _ q => q)
          obtain ⟨rfl, rfl, gr, g3, l3, l4, rfl, li3, kp3⟩ := q
          have kq : ∀ k, (k ≠ 30 ∧ k ≠ 36) → g3 k = (va_up g 0 z0) k := fun k hk => (kp3 k hk.1).trans (kp2 k hk)
          exact ⟨rfl, ⟨_, rfl, fun _ => (if_neg (by omega)).symm⟩, (RefC_mk (g := g3) rfl (by exact c69) (by exact c70) (by exact c71) (by exact c72) (by exact c73) (by exact c74) (by exact c75) (by exact c76) rfl rfl (by exact c79) (by exact c80) rfl rfl (by exact c83) (by exact c84) (by exact c85) (by exact c86) (by exact c87) (by exact c88) (by exact c89) (by exact c90) (by exact c91) (by exact c92) (by exact c93) (by exact c94) (by exact c95) (by first | exact (hz0.trans (congrArg (fun n : Nat => (n : Int)) ((ocT kb1).trans ((ocT kb2).trans ((ocT kb3).trans ocE))).symm)) | exact (kq 0 (by decide)).trans (hz0.trans (congrArg (fun n : Nat => (n : Int)) ((ocT kb1).trans ((ocT kb2).trans ((ocT kb3).trans ocE))).symm))) (RR_mk (by first | exact e8 | exact (kq 8 (by decide)).trans e8) (by first | exact e10 | exact (kq 10 (by decide)).trans e10) (by first | exact e33 | exact (kq 33 (by decide)).trans e33) (by first | exact e38 | exact (kq 38 (by decide)).trans e38) (by first | exact e44 | exact (kq 44 (by decide)).trans e44) (by first | exact e53 | exact (kq 53 (by decide)).trans e53) (tell_k4 (by exact tr) (kq 1 (by decide)) (kq 2 (by decide)) (kq 3 (by decide)) (kq 31 (by decide))) pi ni (by first | exact li | exact li3) rrf rtp htp rrd rse phl phi rim rco ht nM nsn)), (by repeat (first | exact fun _ _ => rfl | refine frr_up ?_ (by decide)))⟩
        · refine r_iconst dX9_next_44 ?_
          refine r_iret dX9_next_45 ?_
          have kq := kp2
          exact ⟨rfl, ⟨_, rfl, fun _ => (by rw [if_pos (by omega)])⟩, (RefC_mk (g := gn) rfl (by exact c69) (by exact c70) (by exact c71) (by exact c72) (by exact c73) (by exact c74) (by exact c75) (by exact c76) rfl rfl (by exact c79) (by exact c80) rfl (by exact c82) (by exact c83) (by exact c84) (by exact c85) (by exact c86) (by exact c87) (by exact c88) (by exact c89) (by exact c90) (by exact c91) (by exact c92) (by exact c93) (by exact c94) (by exact c95) (by first | exact (hz0.trans (congrArg (fun n : Nat => (n : Int)) ((ocT kb1).trans ((ocT kb2).trans ((ocT kb3).trans ocE))).symm)) | exact (kq 0 (by decide)).trans (hz0.trans (congrArg (fun n : Nat => (n : Int)) ((ocT kb1).trans ((ocT kb2).trans ((ocT kb3).trans ocE))).symm))) (RR_mk (by first | exact e8 | exact (kq 8 (by decide)).trans e8) (by first | exact e10 | exact (kq 10 (by decide)).trans e10) (by first | exact e33 | exact (kq 33 (by decide)).trans e33) (by first | exact e38 | exact (kq 38 (by decide)).trans e38) (by first | exact e44 | exact (kq 44 (by decide)).trans e44) (by first | exact e53 | exact (kq 53 (by decide)).trans e53) (tell_k4 (by exact tr) (kq 1 (by decide)) (kq 2 (by decide)) (kq 3 (by decide)) (kq 31 (by decide))) pi ni (by first | exact li | exact li2) rrf rtp htp rrd rse phl phi rim rco ht nM nsn)), (by repeat (first | exact fun _ _ => rfl | refine frr_up ?_ (by decide)))⟩
      · obtain rfl := hh.symm
        refine ⟨rfl, ?_⟩
        dsimp only [Option.toList, List.cons_append, List.nil_append]
        refine r_if_ne (tgt := 32) dX9_next_27 (by decide) ⟨by omega, by omega⟩ (fun g27 => absurd g27 (by omega)) (fun g27 => ?_)
        refine r_iconst dX9_next_30 ?_
        refine r_iret dX9_next_31 ?_
        first
          | exact ⟨rfl, ⟨0, rfl, fun z => absurd ((ocF kb1).symm.trans z) (by decide)⟩, (RefC_mk (g := (va_up (va_up g 0 z0) 0 1)) rfl (by exact c69) (by exact c70) (by exact c71) (by exact c72) (by exact c73) (by exact c74) (by exact c75) (by exact c76) (by exact c77) (by exact c78) (by exact c79) (by exact c80) (by exact c81) (by exact c82) (by exact c83) (by exact c84) (by exact c85) (by exact c86) (by exact c87) (by exact c88) (by exact c89) (by exact c90) (by exact c91) (by exact c92) (by exact c93) (by exact c94) (by exact c95) (congrArg (fun n : Nat => (n : Int)) (ocF kb1).symm) (RR_mk (by first | exact e8 | exact (kp2 8 (by decide)).trans e8) (by first | exact e10 | exact (kp2 10 (by decide)).trans e10) (by first | exact e33 | exact (kp2 33 (by decide)).trans e33) (by first | exact e38 | exact (kp2 38 (by decide)).trans e38) (by first | exact e44 | exact (kp2 44 (by decide)).trans e44) (by first | exact e53 | exact (kp2 53 (by decide)).trans e53) (by first | exact tr | exact tell_kp (by exact tr) kp2) pi ni (by first | exact li | exact li2) rrf rtp htp rrd rse phl phi rim rco ht nM nsn)), (by repeat (first | exact fun _ _ => rfl | refine frr_up ?_ (by decide)))⟩
          | exact ⟨rfl, ⟨0, rfl, fun z => absurd (((ocT kb1).trans (ocF kb2)).symm.trans z) (by decide)⟩, (RefC_mk (g := (va_up (va_up g 0 z0) 0 1)) rfl (by exact c69) (by exact c70) (by exact c71) (by exact c72) (by exact c73) (by exact c74) (by exact c75) (by exact c76) (by exact c77) (by exact c78) (by exact c79) (by exact c80) (by exact c81) (by exact c82) (by exact c83) (by exact c84) (by exact c85) (by exact c86) (by exact c87) (by exact c88) (by exact c89) (by exact c90) (by exact c91) (by exact c92) (by exact c93) (by exact c94) (by exact c95) (congrArg (fun n : Nat => (n : Int)) ((ocT kb1).trans (ocF kb2)).symm) (RR_mk (by first | exact e8 | exact (kp2 8 (by decide)).trans e8) (by first | exact e10 | exact (kp2 10 (by decide)).trans e10) (by first | exact e33 | exact (kp2 33 (by decide)).trans e33) (by first | exact e38 | exact (kp2 38 (by decide)).trans e38) (by first | exact e44 | exact (kp2 44 (by decide)).trans e44) (by first | exact e53 | exact (kp2 53 (by decide)).trans e53) (by first | exact tr | exact tell_kp (by exact tr) kp2) pi ni (by first | exact li | exact li2) rrf rtp htp rrd rse phl phi rim rco ht nM nsn)), (by repeat (first | exact fun _ _ => rfl | refine frr_up ?_ (by decide)))⟩
          | exact ⟨rfl, ⟨0, rfl, fun z => absurd (((ocT kb1).trans ((ocT kb2).trans (ocF kb3))).symm.trans z) (by decide)⟩, (RefC_mk (g := (va_up (va_up g 0 z0) 0 1)) rfl (by exact c69) (by exact c70) (by exact c71) (by exact c72) (by exact c73) (by exact c74) (by exact c75) (by exact c76) (by exact c77) (by exact c78) (by exact c79) (by exact c80) (by exact c81) (by exact c82) (by exact c83) (by exact c84) (by exact c85) (by exact c86) (by exact c87) (by exact c88) (by exact c89) (by exact c90) (by exact c91) (by exact c92) (by exact c93) (by exact c94) (by exact c95) (congrArg (fun n : Nat => (n : Int)) ((ocT kb1).trans ((ocT kb2).trans (ocF kb3))).symm) (RR_mk (by first | exact e8 | exact (kp2 8 (by decide)).trans e8) (by first | exact e10 | exact (kp2 10 (by decide)).trans e10) (by first | exact e33 | exact (kp2 33 (by decide)).trans e33) (by first | exact e38 | exact (kp2 38 (by decide)).trans e38) (by first | exact e44 | exact (kp2 44 (by decide)).trans e44) (by first | exact e53 | exact (kp2 53 (by decide)).trans e53) (by first | exact tr | exact tell_kp (by exact tr) kp2) pi ni (by first | exact li | exact li2) rrf rtp htp rrd rse phl phi rim rco ht nM nsn)), (by repeat (first | exact fun _ _ => rfl | refine frr_up ?_ (by decide)))⟩
    · obtain rfl := hh.symm
      refine ⟨rfl, ?_⟩
      dsimp only [Option.toList, List.cons_append, List.nil_append]
      refine r_if_eq (tgt := 30) dX9_next_18 (by decide) ⟨by omega, by omega⟩ (fun g18 => ?_) (fun g18 => absurd g18 (by omega))
      refine r_iconst dX9_next_30 ?_
      refine r_iret dX9_next_31 ?_
      first
        | exact ⟨rfl, ⟨0, rfl, fun z => absurd ((ocF kb1).symm.trans z) (by decide)⟩, (RefC_mk (g := (va_up (va_up g 0 z0) 0 1)) rfl (by exact c69) (by exact c70) (by exact c71) (by exact c72) (by exact c73) (by exact c74) (by exact c75) (by exact c76) (by exact c77) (by exact c78) (by exact c79) (by exact c80) (by exact c81) (by exact c82) (by exact c83) (by exact c84) (by exact c85) (by exact c86) (by exact c87) (by exact c88) (by exact c89) (by exact c90) (by exact c91) (by exact c92) (by exact c93) (by exact c94) (by exact c95) (congrArg (fun n : Nat => (n : Int)) (ocF kb1).symm) (RR_mk (by first | exact e8 | exact (kp2 8 (by decide)).trans e8) (by first | exact e10 | exact (kp2 10 (by decide)).trans e10) (by first | exact e33 | exact (kp2 33 (by decide)).trans e33) (by first | exact e38 | exact (kp2 38 (by decide)).trans e38) (by first | exact e44 | exact (kp2 44 (by decide)).trans e44) (by first | exact e53 | exact (kp2 53 (by decide)).trans e53) (by first | exact tr | exact tell_kp (by exact tr) kp2) pi ni (by first | exact li | exact li2) rrf rtp htp rrd rse phl phi rim rco ht nM nsn)), (by repeat (first | exact fun _ _ => rfl | refine frr_up ?_ (by decide)))⟩
        | exact ⟨rfl, ⟨0, rfl, fun z => absurd (((ocT kb1).trans (ocF kb2)).symm.trans z) (by decide)⟩, (RefC_mk (g := (va_up (va_up g 0 z0) 0 1)) rfl (by exact c69) (by exact c70) (by exact c71) (by exact c72) (by exact c73) (by exact c74) (by exact c75) (by exact c76) (by exact c77) (by exact c78) (by exact c79) (by exact c80) (by exact c81) (by exact c82) (by exact c83) (by exact c84) (by exact c85) (by exact c86) (by exact c87) (by exact c88) (by exact c89) (by exact c90) (by exact c91) (by exact c92) (by exact c93) (by exact c94) (by exact c95) (congrArg (fun n : Nat => (n : Int)) ((ocT kb1).trans (ocF kb2)).symm) (RR_mk (by first | exact e8 | exact (kp2 8 (by decide)).trans e8) (by first | exact e10 | exact (kp2 10 (by decide)).trans e10) (by first | exact e33 | exact (kp2 33 (by decide)).trans e33) (by first | exact e38 | exact (kp2 38 (by decide)).trans e38) (by first | exact e44 | exact (kp2 44 (by decide)).trans e44) (by first | exact e53 | exact (kp2 53 (by decide)).trans e53) (by first | exact tr | exact tell_kp (by exact tr) kp2) pi ni (by first | exact li | exact li2) rrf rtp htp rrd rse phl phi rim rco ht nM nsn)), (by repeat (first | exact fun _ _ => rfl | refine frr_up ?_ (by decide)))⟩
        | exact ⟨rfl, ⟨0, rfl, fun z => absurd (((ocT kb1).trans ((ocT kb2).trans (ocF kb3))).symm.trans z) (by decide)⟩, (RefC_mk (g := (va_up (va_up g 0 z0) 0 1)) rfl (by exact c69) (by exact c70) (by exact c71) (by exact c72) (by exact c73) (by exact c74) (by exact c75) (by exact c76) (by exact c77) (by exact c78) (by exact c79) (by exact c80) (by exact c81) (by exact c82) (by exact c83) (by exact c84) (by exact c85) (by exact c86) (by exact c87) (by exact c88) (by exact c89) (by exact c90) (by exact c91) (by exact c92) (by exact c93) (by exact c94) (by exact c95) (congrArg (fun n : Nat => (n : Int)) ((ocT kb1).trans ((ocT kb2).trans (ocF kb3))).symm) (RR_mk (by first | exact e8 | exact (kp2 8 (by decide)).trans e8) (by first | exact e10 | exact (kp2 10 (by decide)).trans e10) (by first | exact e33 | exact (kp2 33 (by decide)).trans e33) (by first | exact e38 | exact (kp2 38 (by decide)).trans e38) (by first | exact e44 | exact (kp2 44 (by decide)).trans e44) (by first | exact e53 | exact (kp2 53 (by decide)).trans e53) (by first | exact tr | exact tell_kp (by exact tr) kp2) pi ni (by first | exact li | exact li2) rrf rtp htp rrd rse phl phi rim rco ht nM nsn)), (by repeat (first | exact fun _ _ => rfl | refine frr_up ?_ (by decide)))⟩
  · obtain rfl := hh.symm
    replace kb1 : diaB nd di = false := by rw [← t1]; exact kb1
    refine ⟨rfl, ?_⟩
    dsimp only [Option.toList, List.cons_append, List.nil_append]
    refine r_if_eq (tgt := 30) dX9_next_10 (by decide) ⟨by omega, by omega⟩ (fun g10 => ?_) (fun g10 => absurd g10 (by omega))
    refine r_iconst dX9_next_30 ?_
    refine r_iret dX9_next_31 ?_
    first
      | exact ⟨rfl, ⟨0, rfl, fun z => absurd ((ocF kb1).symm.trans z) (by decide)⟩, (RefC_mk (g := (va_up (va_up g 0 z0) 0 1)) rfl (by exact c69) (by exact c70) (by exact c71) (by exact c72) (by exact c73) (by exact c74) (by exact c75) (by exact c76) (by exact c77) (by exact c78) (by exact c79) (by exact c80) (by exact c81) (by exact c82) (by exact c83) (by exact c84) (by exact c85) (by exact c86) (by exact c87) (by exact c88) (by exact c89) (by exact c90) (by exact c91) (by exact c92) (by exact c93) (by exact c94) (by exact c95) (congrArg (fun n : Nat => (n : Int)) (ocF kb1).symm) (RR_mk (by first | exact e8 | exact (kp2 8 (by decide)).trans e8) (by first | exact e10 | exact (kp2 10 (by decide)).trans e10) (by first | exact e33 | exact (kp2 33 (by decide)).trans e33) (by first | exact e38 | exact (kp2 38 (by decide)).trans e38) (by first | exact e44 | exact (kp2 44 (by decide)).trans e44) (by first | exact e53 | exact (kp2 53 (by decide)).trans e53) (by first | exact tr | exact tell_kp (by exact tr) kp2) pi ni (by first | exact li | exact li2) rrf rtp htp rrd rse phl phi rim rco ht nM nsn)), (by repeat (first | exact fun _ _ => rfl | refine frr_up ?_ (by decide)))⟩
      | exact ⟨rfl, ⟨0, rfl, fun z => absurd (((ocT kb1).trans (ocF kb2)).symm.trans z) (by decide)⟩, (RefC_mk (g := (va_up (va_up g 0 z0) 0 1)) rfl (by exact c69) (by exact c70) (by exact c71) (by exact c72) (by exact c73) (by exact c74) (by exact c75) (by exact c76) (by exact c77) (by exact c78) (by exact c79) (by exact c80) (by exact c81) (by exact c82) (by exact c83) (by exact c84) (by exact c85) (by exact c86) (by exact c87) (by exact c88) (by exact c89) (by exact c90) (by exact c91) (by exact c92) (by exact c93) (by exact c94) (by exact c95) (congrArg (fun n : Nat => (n : Int)) ((ocT kb1).trans (ocF kb2)).symm) (RR_mk (by first | exact e8 | exact (kp2 8 (by decide)).trans e8) (by first | exact e10 | exact (kp2 10 (by decide)).trans e10) (by first | exact e33 | exact (kp2 33 (by decide)).trans e33) (by first | exact e38 | exact (kp2 38 (by decide)).trans e38) (by first | exact e44 | exact (kp2 44 (by decide)).trans e44) (by first | exact e53 | exact (kp2 53 (by decide)).trans e53) (by first | exact tr | exact tell_kp (by exact tr) kp2) pi ni (by first | exact li | exact li2) rrf rtp htp rrd rse phl phi rim rco ht nM nsn)), (by repeat (first | exact fun _ _ => rfl | refine frr_up ?_ (by decide)))⟩
      | exact ⟨rfl, ⟨0, rfl, fun z => absurd (((ocT kb1).trans ((ocT kb2).trans (ocF kb3))).symm.trans z) (by decide)⟩, (RefC_mk (g := (va_up (va_up g 0 z0) 0 1)) rfl (by exact c69) (by exact c70) (by exact c71) (by exact c72) (by exact c73) (by exact c74) (by exact c75) (by exact c76) (by exact c77) (by exact c78) (by exact c79) (by exact c80) (by exact c81) (by exact c82) (by exact c83) (by exact c84) (by exact c85) (by exact c86) (by exact c87) (by exact c88) (by exact c89) (by exact c90) (by exact c91) (by exact c92) (by exact c93) (by exact c94) (by exact c95) (congrArg (fun n : Nat => (n : Int)) ((ocT kb1).trans ((ocT kb2).trans (ocF kb3))).symm) (RR_mk (by first | exact e8 | exact (kp2 8 (by decide)).trans e8) (by first | exact e10 | exact (kp2 10 (by decide)).trans e10) (by first | exact e33 | exact (kp2 33 (by decide)).trans e33) (by first | exact e38 | exact (kp2 38 (by decide)).trans e38) (by first | exact e44 | exact (kp2 44 (by decide)).trans e44) (by first | exact e53 | exact (kp2 53 (by decide)).trans e53) (by first | exact tr | exact tell_kp (by exact tr) kp2) pi ni (by first | exact li | exact li2) rrf rtp htp rrd rse phl phi rim rco ht nM nsn)), (by repeat (first | exact fun _ _ => rfl | refine frr_up ?_ (by decide)))⟩

