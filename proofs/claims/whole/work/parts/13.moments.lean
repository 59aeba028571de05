/-! ===== the port: findMoments ===== -/
theorem l_X4_fm1 {d : Nat} (hdd : 6 ≤ d) {h : aH} {nd sw nc : Int} {K U I O G L cf ct fc nx cd : Nat → Int} (c6 : h 6 = .inr (4, [iv nd, iv sw, iv nc, .ref 7, .ref 8, .ref 9, .ref 10, .ref 11, .ref 12, .ref 13, .ref 14, .ref 15, .ref 16])) (c7 : h 7 = .inl (0, 9, K)) (c8 : h 8 = .inl (0, 9, U)) (c9 : h 9 = .inl (0, 9, I)) (c10 : h 10 = .inl (0, 9, O)) (c11 : h 11 = .inl (0, 9, G)) (c12 : h 12 = .inl (0, 12, L)) (c13 : h 13 = .inl (0, 20, cf)) (c14 : h 14 = .inl (0, 20, ct)) (c15 : h 15 = .inl (0, 365, fc)) (c16 : h 16 = .inl (0, 20, nx)) (pi : PInv nd sw nc K U I O G L cf ct fc nx cd) {di : Int} (hdi : 0 ≤ di ∧ di < 9) {day : Int} (hd : 0 ≤ day ∧ day < 365) {tu told : Int} (htu : -200 ≤ tu ∧ tu ≤ 200) (hto : 0 ≤ told ∧ told < 1440) {str bent way nxt : Int} {Q : Option Value → Nat → aH → Prop} {mi : Int → Int} {ok : Int → Bool}
    (hmi : ∀ a, mi a = minAtI (K di.toNat) day a (noonI L day) (halfI sw day)) (hok : ∀ m, ok m = decide (toldI (K di.toNat) tu (I di.toNat) (O di.toNat) (G di.toNat) day m (noonI L day) (halfI sw day) (cUp cd cf ct day m nc.toNat) = told)) :
    ∀ (k : Nat) (a : Int) (s : Nat) (f : Nat → Int), a + k = nxt + 4 → s + k ≤ 14 → -4000 ≤ a → nxt ≤ 4000 → Ev RX4 "findMoments" cX4_findMoments 14 (some .int) d 0 0 Q noX 97 (va_up h 67 (.inl (0, 14, putL f s (gath mi ok a k)))) 167 [(0, .ref 6), (1, iv di), (2, iv day), (3, iv told), (4, iv tu), (5, .ref 67), (6, iv (K di.toNat)), (7, iv str), (8, iv ((s + (gath mi ok a k).length : Nat))), (9, iv bent), (10, iv way), (11, iv nxt), (12, iv (nxt + 4))] [] →
      Ev RX4 "findMoments" cX4_findMoments 14 (some .int) d 0 0 Q noX 97 (va_up h 67 (.inl (0, 14, f))) 97 [(0, .ref 6), (1, iv di), (2, iv day), (3, iv told), (4, iv tu), (5, .ref 67), (6, iv (K di.toNat)), (7, iv str), (8, iv ((s : Nat))), (9, iv bent), (10, iv way), (11, iv nxt), (12, iv a)] [] := by
  obtain ⟨pnd, psw, pnc, pK, pU, pI, pO, pG, pL, pcf, pct, pfc, pnx⟩ := id pi
  have bK := pK di.toNat
  have bI := pI di.toNat
  have bn := noon_B (L := L) (day := day) pL
  have bh := half_B psw hd
  intro k
  induction k with
  | zero =>
    intro a s f ha hs h1 h2 hk
    obtain rfl : a = nxt + 4 := by omega
    refine r_iload dX4_findMoments_97 rfl ?_
    refine r_iload dX4_findMoments_99 rfl ?_
    refine r_iconst dX4_findMoments_101 ?_
    refine r_iadd dX4_findMoments_102 ?_
    refine r_icmp_gt (tgt := 167) dX4_findMoments_103 (by decide) ⟨by omega, by omega⟩ ⟨by omega, by omega⟩ (fun g103 => ?_) (fun g103 => ?_)
    · exact hk
    · exact absurd g103 (by omega)
  | succ k ih =>
    intro a s f ha hs h1 h2 hk
    have bm := minAt_B (kind := K di.toNat) (day := day) (ang := a) bn bh
    have ea := hmi a
    have eo := hok (mi a)
    have bt := told_B (K di.toNat) tu (I di.toNat) (O di.toNat) (G di.toNat) day (mi a) (noonI L day) (halfI sw day) (cUp cd cf ct day (mi a) nc.toNat)
    unfold gath at hk
    refine r_iload dX4_findMoments_97 rfl ?_
    refine r_iload dX4_findMoments_99 rfl ?_
    refine r_iconst dX4_findMoments_101 ?_
    refine r_iadd dX4_findMoments_102 ?_
    refine r_icmp_gt (tgt := 167) dX4_findMoments_103 (by decide) ⟨by omega, by omega⟩ ⟨by omega, by omega⟩ (fun g103 => ?_) (fun g103 => ?_)
    · exact absurd g103 (by omega)
    · refine r_aload_n dX4_findMoments_106 rfl rfl ?_
      refine r_iload dX4_findMoments_107 rfl ?_
      refine r_iload_n dX4_findMoments_109 rfl rfl ?_
      refine r_iload dX4_findMoments_110 rfl ?_
      refine r_callV 6 [_, _, _] (s_X4_minuteAt (by exact c6) (by exact c7) (by exact c8) (by exact c9) (by exact c10) (by exact c11) (by exact c12) (by exact c13) (by exact c14) (by exact c15) (by exact c16) pi (by omega) hd (by omega)) dX4_findMoments_112 cs_X4_106 im_X4_minuteAt (by decide) c6 rfl (by omega) (by decide) (by decide) rfl rfl (Nat.le_of_ble_eq_true rfl) (fun _ _ _ q => q.elim) (fun v n2 h2 q => ?_)
      obtain ⟨rfl, rfl, rfl⟩ := q
      rw [← ea]
      refine ⟨rfl, ?_⟩
      dsimp only [Option.toList, List.cons_append, List.nil_append]
      refine r_istore (lv2 := [(0, _), (1, _), (2, _), (3, _), (4, _), (5, _), (6, _), (7, _), (8, _), (9, _), (10, _), (11, _), (12, _), (13, _)]) dX4_findMoments_115 (by decide) rfl rfl ?_
      rw [← ea] at bm
      refine r_iload dX4_findMoments_117 rfl ?_
      refine r_iconst dX4_findMoments_119 ?_
      refine r_icmp_eq (tgt := 161) dX4_findMoments_120 (by decide) ⟨by omega, by omega⟩ ⟨by omega, by omega⟩ (fun g120 => ?_) (fun g120 => ?_)
      · refine r_iinc (lv2 := [(0, _), (1, _), (2, _), (3, _), (4, _), (5, _), (6, _), (7, _), (8, _), (9, _), (10, _), (11, _), (12, _), (13, _)]) dX4_findMoments_161 (by decide) rfl rfl rfl ?_
        refine r_goto (tgt := 97) dX4_findMoments_164 (by decide) ?_
        refine r_lv (lv2 := [(0, _), (1, _), (2, _), (3, _), (4, _), (5, _), (6, _), (7, _), (8, _), (9, _), (10, _), (11, _), (12, _)]) rfl ?_
        first
          | exact absurd g128 (by omega)
          | (have z : mi a = -1 := g120
             rw [if_neg (fun q => q.1 z)] at hk
             exact ih (a + 1) s f (by omega) (by omega) (by omega) h2 hk)
          | (have z : ¬ (ok (mi a) = true) := fun q => g148 (of_decide_eq_true (eo.symm.trans q))
             rw [if_neg (fun q => z q.2)] at hk
             exact ih (a + 1) s f (by omega) (by omega) (by omega) h2 hk)
          | (have z : ok (mi a) = true := eo.trans (decide_eq_true g148)
             rw [if_pos ⟨g120, z⟩] at hk
             simp only [List.length_cons, putL] at hk
             rw [show s + ((gath mi ok (a + 1) k).length + 1) = s + 1 + (gath mi ok (a + 1) k).length by omega] at hk
             rw [bx_uu, Int.toNat_natCast, show (s : Int) + 1 = ((s + 1 : Nat) : Int) by omega]
             exact ih (a + 1) (s + 1) (va_up f s (mi a)) (by omega) (by omega) (by omega) h2 hk)
      · refine r_iload dX4_findMoments_123 rfl ?_
        refine r_aload dX4_findMoments_125 rfl ?_
        refine r_alen dX4_findMoments_127 (by decide) rfl (by decide) ?_
        refine r_icmp_ge (tgt := 161) dX4_findMoments_128 (by decide) ⟨by omega, by omega⟩ ⟨by omega, by omega⟩ (fun g128 => ?_) (fun g128 => ?_)
        · refine r_iinc (lv2 := [(0, _), (1, _), (2, _), (3, _), (4, _), (5, _), (6, _), (7, _), (8, _), (9, _), (10, _), (11, _), (12, _), (13, _)]) dX4_findMoments_161 (by decide) rfl rfl rfl ?_
          refine r_goto (tgt := 97) dX4_findMoments_164 (by decide) ?_
          refine r_lv (lv2 := [(0, _), (1, _), (2, _), (3, _), (4, _), (5, _), (6, _), (7, _), (8, _), (9, _), (10, _), (11, _), (12, _)]) rfl ?_
          first
            | exact absurd g128 (by omega)
            | (have z : mi a = -1 := g120
               rw [if_neg (fun q => q.1 z)] at hk
               exact ih (a + 1) s f (by omega) (by omega) (by omega) h2 hk)
            | (have z : ¬ (ok (mi a) = true) := fun q => g148 (of_decide_eq_true (eo.symm.trans q))
               rw [if_neg (fun q => z q.2)] at hk
               exact ih (a + 1) s f (by omega) (by omega) (by omega) h2 hk)
            | (have z : ok (mi a) = true := eo.trans (decide_eq_true g148)
               rw [if_pos ⟨g120, z⟩] at hk
               simp only [List.length_cons, putL] at hk
               rw [show s + ((gath mi ok (a + 1) k).length + 1) = s + 1 + (gath mi ok (a + 1) k).length by omega] at hk
               rw [bx_uu, Int.toNat_natCast, show (s : Int) + 1 = ((s + 1 : Nat) : Int) by omega]
               exact ih (a + 1) (s + 1) (va_up f s (mi a)) (by omega) (by omega) (by omega) h2 hk)
        · refine r_aload_n dX4_findMoments_131 rfl rfl ?_
          refine r_iload_n dX4_findMoments_132 rfl rfl ?_
          refine r_iload_n dX4_findMoments_133 rfl rfl ?_
          refine r_iload dX4_findMoments_134 rfl ?_
          refine r_iload dX4_findMoments_136 rfl ?_
          refine r_aload_n dX4_findMoments_138 rfl rfl ?_
          refine r_get (fs := [_, _, _, _, _, _, _, _, _, _, _, _, _]) dX4_findMoments_139 fl_X4_28 (by decide) c6 rfl ?_
          refine r_iload_n dX4_findMoments_142 rfl rfl ?_
          refine r_ald dX4_findMoments_143 (by decide) c9 (by omega) (by omega) (by decide) ?_
          refine r_callV 6 [_, _, _, _, _] (s_X4_toldBy (by exact c6) (by exact c7) (by exact c8) (by exact c9) (by exact c10) (by exact c11) (by exact c12) (by exact c13) (by exact c14) (by exact c15) (by exact c16) pi hdi hd (by omega) htu (by omega)) dX4_findMoments_144 cs_X4_109 im_X4_toldBy (by decide) c6 rfl (by omega) (by decide) (by decide) rfl rfl (Nat.le_of_ble_eq_true rfl) (fun _ _ _ q => q.elim) (fun v n2 h2 q => ?_)
          obtain ⟨rfl, rfl, hh⟩ := q
          obtain rfl := hh.symm
          refine ⟨rfl, ?_⟩
          dsimp only [Option.toList, List.cons_append, List.nil_append]
          refine r_iload_n dX4_findMoments_147 rfl rfl ?_
          refine r_icmp_ne (tgt := 161) dX4_findMoments_148 (by decide) ⟨by omega, by omega⟩ ⟨by omega, by omega⟩ (fun g148 => ?_) (fun g148 => ?_)
          · refine r_iinc (lv2 := [(0, _), (1, _), (2, _), (3, _), (4, _), (5, _), (6, _), (7, _), (8, _), (9, _), (10, _), (11, _), (12, _), (13, _)]) dX4_findMoments_161 (by decide) rfl rfl rfl ?_
            refine r_goto (tgt := 97) dX4_findMoments_164 (by decide) ?_
            refine r_lv (lv2 := [(0, _), (1, _), (2, _), (3, _), (4, _), (5, _), (6, _), (7, _), (8, _), (9, _), (10, _), (11, _), (12, _)]) rfl ?_
            first
              | exact absurd g128 (by omega)
              | (have z : mi a = -1 := g120
                 rw [if_neg (fun q => q.1 z)] at hk
                 exact ih (a + 1) s f (by omega) (by omega) (by omega) h2 hk)
              | (have z : ¬ (ok (mi a) = true) := fun q => g148 (of_decide_eq_true (eo.symm.trans q))
                 rw [if_neg (fun q => z q.2)] at hk
                 exact ih (a + 1) s f (by omega) (by omega) (by omega) h2 hk)
              | (have z : ok (mi a) = true := eo.trans (decide_eq_true g148)
                 rw [if_pos ⟨g120, z⟩] at hk
                 simp only [List.length_cons, putL] at hk
                 rw [show s + ((gath mi ok (a + 1) k).length + 1) = s + 1 + (gath mi ok (a + 1) k).length by omega] at hk
                 rw [bx_uu, Int.toNat_natCast, show (s : Int) + 1 = ((s + 1 : Nat) : Int) by omega]
                 exact ih (a + 1) (s + 1) (va_up f s (mi a)) (by omega) (by omega) (by omega) h2 hk)
          · refine r_aload dX4_findMoments_151 rfl ?_
            refine r_iload dX4_findMoments_153 rfl ?_
            refine r_iload dX4_findMoments_155 rfl ?_
            refine r_ast dX4_findMoments_157 (by decide) rfl (by omega) (by omega) (by decide) ?_
            refine r_iinc (lv2 := [(0, _), (1, _), (2, _), (3, _), (4, _), (5, _), (6, _), (7, _), (8, _), (9, _), (10, _), (11, _), (12, _), (13, _)]) dX4_findMoments_158 (by decide) rfl rfl rfl ?_
            refine r_iinc (lv2 := [(0, _), (1, _), (2, _), (3, _), (4, _), (5, _), (6, _), (7, _), (8, _), (9, _), (10, _), (11, _), (12, _), (13, _)]) dX4_findMoments_161 (by decide) rfl rfl rfl ?_
            refine r_goto (tgt := 97) dX4_findMoments_164 (by decide) ?_
            refine r_lv (lv2 := [(0, _), (1, _), (2, _), (3, _), (4, _), (5, _), (6, _), (7, _), (8, _), (9, _), (10, _), (11, _), (12, _)]) rfl ?_
            first
              | exact absurd g128 (by omega)
              | (have z : mi a = -1 := g120
                 rw [if_neg (fun q => q.1 z)] at hk
                 exact ih (a + 1) s f (by omega) (by omega) (by omega) h2 hk)
              | (have z : ¬ (ok (mi a) = true) := fun q => g148 (of_decide_eq_true (eo.symm.trans q))
                 rw [if_neg (fun q => z q.2)] at hk
                 exact ih (a + 1) s f (by omega) (by omega) (by omega) h2 hk)
              | (have z : ok (mi a) = true := eo.trans (decide_eq_true g148)
                 rw [if_pos ⟨g120, z⟩] at hk
                 simp only [List.length_cons, putL] at hk
                 rw [show s + ((gath mi ok (a + 1) k).length + 1) = s + 1 + (gath mi ok (a + 1) k).length by omega] at hk
                 rw [bx_uu, Int.toNat_natCast, show (s : Int) + 1 = ((s + 1 : Nat) : Int) by omega]
                 exact ih (a + 1) (s + 1) (va_up f s (mi a)) (by omega) (by omega) (by omega) h2 hk)

theorem ev_h {own name : String} {cc : ByteArray} {mL : Nat} {rt : Option FieldType} {d mc ms : Nat} {Q : Option Value → Nat → aH → Prop} {X : String → Nat → aH → Prop} {n : Nat} {h h2 : aH} {pc : Nat} {lv : List (Nat × Value)} {st : List Value} (e : h = h2) (k : Ev own name cc mL rt d mc ms Q X n h2 pc lv st) : Ev own name cc mL rt d mc ms Q X n h pc lv st := e ▸ k
def strI (kind tilt : Int) : Int := if tiltI kind then 100 + tilt else 100
def bentI (told tu town : Int) : Int := (told - 720 - tu - town) % 1440
def nextI (b w str : Int) : Int := ((b - w * 1440) * 100).tdiv str
def momI (kind tilt town tu told : Int) (mi : Int → Int) (ok : Int → Bool) : List Int := gath mi ok (nextI (bentI told tu town) 0 (strI kind tilt) - 3) 7 ++ gath mi ok (nextI (bentI told tu town) 1 (strI kind tilt) - 3) 7
theorem next_B {b w str : Int} (hb : 0 ≤ b ∧ b < 1440) (hw : w = 0 ∨ w = 1) (hs : 50 ≤ str ∧ str ≤ 150) : (-144000 ≤ (b - w * 1440) * 100 ∧ (b - w * 1440) * 100 ≤ 144000) ∧ -2880 ≤ nextI b w str ∧ nextI b w str ≤ 2880 := by
  have h1 : -144000 ≤ (b - w * 1440) * 100 ∧ (b - w * 1440) * 100 ≤ 144000 := by omega
  refine ⟨h1, ?_⟩
  unfold nextI
  generalize (b - w * 1440) * 100 = x at h1
  have h4 : x.natAbs / 50 ≤ 2880 := by omega
  have h5 : (x.tdiv str).natAbs ≤ 2880 := by rw [Int.natAbs_tdiv]; exact Nat.le_trans (Nat.div_le_div_left (by omega) (by decide)) h4
  omega
theorem s_X4_findMoments {h : aH} {nd sw nc : Int} {K U I O G L cf ct fc nx cd : Nat → Int} (c6 : h 6 = .inr (4, [iv nd, iv sw, iv nc, .ref 7, .ref 8, .ref 9, .ref 10, .ref 11, .ref 12, .ref 13, .ref 14, .ref 15, .ref 16])) (c7 : h 7 = .inl (0, 9, K)) (c8 : h 8 = .inl (0, 9, U)) (c9 : h 9 = .inl (0, 9, I)) (c10 : h 10 = .inl (0, 9, O)) (c11 : h 11 = .inl (0, 9, G)) (c12 : h 12 = .inl (0, 12, L)) (c13 : h 13 = .inl (0, 20, cf)) (c14 : h 14 = .inl (0, 20, ct)) (c15 : h 15 = .inl (0, 365, fc)) (c16 : h 16 = .inl (0, 20, nx)) (pi : PInv nd sw nc K U I O G L cf ct fc nx cd) {f : Nat → Int} (c67 : h 67 = .inl (0, 14, f)) {di : Int} (hdi : 0 ≤ di ∧ di < 9) {day : Int} (hd : 0 ≤ day ∧ day < 365) {tu told : Int} (htu : -200 ≤ tu ∧ tu ≤ 200) (hto : 0 ≤ told ∧ told < 1440) : mSem yX4_findMoments cX4_findMoments 14 (some .int) 6 0 0 [.ref 6, iv di, iv day, iv told, iv tu, .ref 67] 97 h (Ret ((momI (K di.toNat) (I di.toNat) (O di.toNat) tu told (fun a => minAtI (K di.toNat) day a (noonI L day) (halfI sw day)) (fun m => decide (toldI (K di.toNat) tu (I di.toNat) (O di.toNat) (G di.toNat) day m (noonI L day) (halfI sw day) (cUp cd cf ct day m nc.toNat) = told))).length) (va_up h 67 (.inl (0, 14, putL f 0 (momI (K di.toNat) (I di.toNat) (O di.toNat) tu told (fun a => minAtI (K di.toNat) day a (noonI L day) (halfI sw day)) (fun m => decide (toldI (K di.toNat) tu (I di.toNat) (O di.toNat) (G di.toNat) day m (noonI L day) (halfI sw day) (cUp cd cf ct day m nc.toNat) = told))))))) noX := by
  obtain ⟨pnd, psw, pnc, pK, pU, pI, pO, pG, pL, pcf, pct, pfc, pnx⟩ := id pi
  refine mSem_of (own := RX4) (name := "findMoments") pn_X4 rfl rfl (Nat.le_of_ble_eq_true rfl) ?_
  have bK := pK di.toNat
  have bI := pI di.toNat
  have bO := pO di.toNat
  have bc := b2i_01 (tiltI (K di.toNat))
  have es : strI (K di.toNat) (I di.toNat) = if tiltI (K di.toNat) then 100 + I di.toNat else 100 := rfl
  have eb : bentI told tu (O di.toNat) = (told - 720 - tu - O di.toNat) % 1440 := rfl
  have hb : 0 ≤ bentI told tu (O di.toNat) ∧ bentI told tu (O di.toNat) < 1440 := by omega
  refine r_aload_n dX4_findMoments_0 rfl rfl ?_
  refine r_get (fs := [_, _, _, _, _, _, _, _, _, _, _, _, _]) dX4_findMoments_1 fl_X4_21 (by decide) c6 rfl ?_
  refine r_iload_n dX4_findMoments_4 rfl rfl ?_
  refine r_ald dX4_findMoments_5 (by decide) c7 (by omega) (by omega) (by decide) ?_
  refine r_istore (lv2 := [(0, _), (1, _), (2, _), (3, _), (4, _), (5, _), (6, _)]) dX4_findMoments_6 (by decide) rfl rfl ?_
  refine r_iload dX4_findMoments_8 rfl ?_
  refine r_callS [_] (s_X4_hasTilt (by omega)) dX4_findMoments_10 cs_X4_84 sm_X4_hasTilt (by decide) (by decide) (by decide) rfl rfl (Nat.le_of_ble_eq_true rfl) (fun _ _ _ q => q.elim) (fun v n2 h2 q => ?_)
  obtain ⟨rfl, rfl, hh⟩ := q
  obtain rfl := hh.symm
  refine ⟨rfl, ?_⟩
  dsimp only [Option.toList, List.cons_append, List.nil_append]
  refine r_if_eq (tgt := 28) dX4_findMoments_13 (by decide) ⟨by omega, by omega⟩ (fun g13 => ?_) (fun g13 => ?_)
  · rw [b2i_0] at g13
    rw [g13] at es
    have es : strI (K di.toNat) (I di.toNat) = 100 := es
    refine r_bipush dX4_findMoments_28 rfl ?_
    rw [← es]
    refine r_istore (lv2 := [(0, _), (1, _), (2, _), (3, _), (4, _), (5, _), (6, _), (7, _)]) dX4_findMoments_30 (by decide) rfl rfl ?_
    refine r_iload dX4_findMoments_32 rfl ?_
    refine r_if_gt (tgt := 39) dX4_findMoments_34 (by decide) ⟨by omega, by omega⟩ (fun g34 => ?_) (fun g34 => ?_)
    · refine r_iconst dX4_findMoments_39 ?_
      refine r_istore (lv2 := [(0, _), (1, _), (2, _), (3, _), (4, _), (5, _), (6, _), (7, _), (8, _)]) dX4_findMoments_40 (by decide) rfl rfl ?_
      refine r_iload_n dX4_findMoments_42 rfl rfl ?_
      refine r_sipush dX4_findMoments_43 rfl ?_
      refine r_isub dX4_findMoments_46 ?_
      refine r_iload dX4_findMoments_47 rfl ?_
      refine r_isub dX4_findMoments_49 ?_
      refine r_aload_n dX4_findMoments_50 rfl rfl ?_
      refine r_get (fs := [_, _, _, _, _, _, _, _, _, _, _, _, _]) dX4_findMoments_51 fl_X4_31 (by decide) c6 rfl ?_
      refine r_iload_n dX4_findMoments_54 rfl rfl ?_
      refine r_ald dX4_findMoments_55 (by decide) c10 (by omega) (by omega) (by decide) ?_
      refine r_isub dX4_findMoments_56 ?_
      refine r_sipush dX4_findMoments_57 rfl ?_
      refine r_callS [_, _] (s_J9_floorMod_7cf53 ⟨by omega, by omega⟩ (by omega)) dX4_findMoments_60 cs_X4_68 sm_J9_floorMod_7cf53 (by decide) (by decide) (by decide) rfl rfl (Nat.le_of_ble_eq_true rfl) (fun _ _ _ q => q.elim) (fun v n2 h2 q => ?_)
      obtain ⟨rfl, rfl, hh⟩ := q
      obtain rfl := hh.symm
      refine ⟨rfl, ?_⟩
      dsimp only [Option.toList, List.cons_append, List.nil_append]
      refine r_istore (lv2 := [(0, _), (1, _), (2, _), (3, _), (4, _), (5, _), (6, _), (7, _), (8, _), (9, _)]) dX4_findMoments_63 (by decide) rfl rfl ?_
      rw [← eb]
      have hs : 50 ≤ strI (K di.toNat) (I di.toNat) ∧ strI (K di.toNat) (I di.toNat) ≤ 150 := by omega
      have n0 := next_B (w := 0) hb (Or.inl rfl) hs
      have n1 := next_B (w := 1) hb (Or.inr rfl) hs
      have e0 : ((bentI told tu (O di.toNat) - 0 * 1440) * 100).tdiv (strI (K di.toNat) (I di.toNat)) = nextI (bentI told tu (O di.toNat)) 0 (strI (K di.toNat) (I di.toNat)) := rfl
      have e1 : ((bentI told tu (O di.toNat) - 1 * 1440) * 100).tdiv (strI (K di.toNat) (I di.toNat)) = nextI (bentI told tu (O di.toNat)) 1 (strI (K di.toNat) (I di.toNat)) := rfl
      refine r_iconst dX4_findMoments_65 ?_
      refine r_istore (lv2 := [(0, _), (1, _), (2, _), (3, _), (4, _), (5, _), (6, _), (7, _), (8, _), (9, _), (10, _)]) dX4_findMoments_66 (by decide) rfl rfl ?_
      refine r_iload dX4_findMoments_68 rfl ?_
      refine r_iconst dX4_findMoments_70 ?_
      refine r_icmp_ge (tgt := 173) dX4_findMoments_71 (by decide) ⟨by omega, by omega⟩ ⟨by omega, by omega⟩ (fun g71 => absurd g71 (by omega)) (fun g71 => ?_)
      first | rw [show ((0 : Int) + 1) = 1 from rfl] | skip
      refine r_iload dX4_findMoments_74 rfl ?_
      refine r_iload dX4_findMoments_76 rfl ?_
      refine r_sipush dX4_findMoments_78 rfl ?_
      refine r_imul dX4_findMoments_81 ?_
      refine r_isub dX4_findMoments_82 ?_
      refine r_bipush dX4_findMoments_83 rfl ?_
      refine r_imul dX4_findMoments_85 ?_
      refine r_iload dX4_findMoments_86 rfl ?_
      refine r_idiv dX4_findMoments_88 ⟨by omega, by omega⟩ ⟨by omega, by omega⟩ (by omega) ⟨by omega, by omega⟩ ?_
      first | rw [e0] | rw [e1]
      refine r_istore (lv2 := [(0, _), (1, _), (2, _), (3, _), (4, _), (5, _), (6, _), (7, _), (8, _), (9, _), (10, _), (11, _)]) dX4_findMoments_89 (by decide) rfl rfl ?_
      refine r_iload dX4_findMoments_91 rfl ?_
      refine r_iconst dX4_findMoments_93 ?_
      refine r_isub dX4_findMoments_94 ?_
      refine r_istore (lv2 := [(0, _), (1, _), (2, _), (3, _), (4, _), (5, _), (6, _), (7, _), (8, _), (9, _), (10, _), (11, _), (12, _)]) dX4_findMoments_95 (by decide) rfl rfl ?_
      refine r_lv (lv2 := [(0, _), (1, _), (2, _), (3, _), (4, _), (5, _), (6, _), (7, _), (8, _), (9, _), (10, _), (11, _), (12, _)]) rfl ?_
      have hu : h = va_up h 67 (.inl (0, 14, f)) := by funext j; by_cases hj : j = 67 <;> simp [va_up, hj, c67]
      refine ev_h hu ?_
      refine l_X4_fm1 (d := 6) (by decide) c6 c7 c8 c9 c10 c11 c12 c13 c14 c15 c16 pi hdi hd htu hto (mi := (fun a => minAtI (K di.toNat) day a (noonI L day) (halfI sw day))) (ok := (fun m => decide (toldI (K di.toNat) tu (I di.toNat) (O di.toNat) (G di.toNat) day m (noonI L day) (halfI sw day) (cUp cd cf ct day m nc.toNat) = told))) (fun _ => rfl) (fun _ => rfl) 7 _ 0 f (by omega) (by omega) (by omega) (by omega) ?_
      refine r_iinc (lv2 := [(0, _), (1, _), (2, _), (3, _), (4, _), (5, _), (6, _), (7, _), (8, _), (9, _), (10, _), (11, _), (12, _)]) dX4_findMoments_167 (by decide) rfl rfl rfl ?_
      refine r_goto (tgt := 68) dX4_findMoments_170 (by decide) ?_
      refine r_iload dX4_findMoments_68 rfl ?_
      refine r_iconst dX4_findMoments_70 ?_
      refine r_icmp_ge (tgt := 173) dX4_findMoments_71 (by decide) ⟨by omega, by omega⟩ ⟨by omega, by omega⟩ (fun g71 => absurd g71 (by omega)) (fun g71 => ?_)
      first | rw [show ((0 : Int) + 1) = 1 from rfl] | skip
      refine r_iload dX4_findMoments_74 rfl ?_
      refine r_iload dX4_findMoments_76 rfl ?_
      refine r_sipush dX4_findMoments_78 rfl ?_
      refine r_imul dX4_findMoments_81 ?_
      refine r_isub dX4_findMoments_82 ?_
      refine r_bipush dX4_findMoments_83 rfl ?_
      refine r_imul dX4_findMoments_85 ?_
      refine r_iload dX4_findMoments_86 rfl ?_
      refine r_idiv dX4_findMoments_88 ⟨by omega, by omega⟩ ⟨by omega, by omega⟩ (by omega) ⟨by omega, by omega⟩ ?_
      first | rw [e0] | rw [e1]
      refine r_istore (lv2 := [(0, _), (1, _), (2, _), (3, _), (4, _), (5, _), (6, _), (7, _), (8, _), (9, _), (10, _), (11, _), (12, _)]) dX4_findMoments_89 (by decide) rfl rfl ?_
      refine r_iload dX4_findMoments_91 rfl ?_
      refine r_iconst dX4_findMoments_93 ?_
      refine r_isub dX4_findMoments_94 ?_
      refine r_istore (lv2 := [(0, _), (1, _), (2, _), (3, _), (4, _), (5, _), (6, _), (7, _), (8, _), (9, _), (10, _), (11, _), (12, _)]) dX4_findMoments_95 (by decide) rfl rfl ?_
      refine r_lv (lv2 := [(0, _), (1, _), (2, _), (3, _), (4, _), (5, _), (6, _), (7, _), (8, _), (9, _), (10, _), (11, _), (12, _)]) rfl ?_
      refine l_X4_fm1 (d := 6) (by decide) c6 c7 c8 c9 c10 c11 c12 c13 c14 c15 c16 pi hdi hd htu hto (mi := (fun a => minAtI (K di.toNat) day a (noonI L day) (halfI sw day))) (ok := (fun m => decide (toldI (K di.toNat) tu (I di.toNat) (O di.toNat) (G di.toNat) day m (noonI L day) (halfI sw day) (cUp cd cf ct day m nc.toNat) = told))) (fun _ => rfl) (fun _ => rfl) 7 _ _ _ (by omega) (by have := gath_len (fun a => minAtI (K di.toNat) day a (noonI L day) (halfI sw day)) (fun m => decide (toldI (K di.toNat) tu (I di.toNat) (O di.toNat) (G di.toNat) day m (noonI L day) (halfI sw day) (cUp cd cf ct day m nc.toNat) = told)) 7 (nextI (bentI told tu (O di.toNat)) 0 (strI (K di.toNat) (I di.toNat)) - 3); omega) (by omega) (by omega) ?_
      refine r_iinc (lv2 := [(0, _), (1, _), (2, _), (3, _), (4, _), (5, _), (6, _), (7, _), (8, _), (9, _), (10, _), (11, _), (12, _)]) dX4_findMoments_167 (by decide) rfl rfl rfl ?_
      refine r_goto (tgt := 68) dX4_findMoments_170 (by decide) ?_
      refine r_iload dX4_findMoments_68 rfl ?_
      refine r_iconst dX4_findMoments_70 ?_
      refine r_icmp_ge (tgt := 173) dX4_findMoments_71 (by decide) ⟨by omega, by omega⟩ ⟨by omega, by omega⟩ (fun g71 => ?_) (fun g71 => absurd g71 (by omega))
      refine r_iload dX4_findMoments_173 rfl ?_
      refine r_iret dX4_findMoments_175 ?_
      refine ⟨ivE ?_, rfl, ?_⟩
      · simp only [momI, List.length_append]
        omega
      · rw [putL_app]
        rfl
    · refine r_iconst dX4_findMoments_37 ?_
      refine r_iret dX4_findMoments_38 ?_
      exact absurd g34 (by omega)
  · rw [b2i_0, Bool.not_eq_false] at g13
    rw [if_pos g13] at es
    refine r_bipush dX4_findMoments_16 rfl ?_
    refine r_aload_n dX4_findMoments_18 rfl rfl ?_
    refine r_get (fs := [_, _, _, _, _, _, _, _, _, _, _, _, _]) dX4_findMoments_19 fl_X4_28 (by decide) c6 rfl ?_
    refine r_iload_n dX4_findMoments_22 rfl rfl ?_
    refine r_ald dX4_findMoments_23 (by decide) c9 (by omega) (by omega) (by decide) ?_
    refine r_iadd dX4_findMoments_24 ?_
    refine r_goto (tgt := 30) dX4_findMoments_25 (by decide) ?_
    rw [← es]
    refine r_istore (lv2 := [(0, _), (1, _), (2, _), (3, _), (4, _), (5, _), (6, _), (7, _)]) dX4_findMoments_30 (by decide) rfl rfl ?_
    refine r_iload dX4_findMoments_32 rfl ?_
    refine r_if_gt (tgt := 39) dX4_findMoments_34 (by decide) ⟨by omega, by omega⟩ (fun g34 => ?_) (fun g34 => ?_)
    · refine r_iconst dX4_findMoments_39 ?_
      refine r_istore (lv2 := [(0, _), (1, _), (2, _), (3, _), (4, _), (5, _), (6, _), (7, _), (8, _)]) dX4_findMoments_40 (by decide) rfl rfl ?_
      refine r_iload_n dX4_findMoments_42 rfl rfl ?_
      refine r_sipush dX4_findMoments_43 rfl ?_
      refine r_isub dX4_findMoments_46 ?_
      refine r_iload dX4_findMoments_47 rfl ?_
      refine r_isub dX4_findMoments_49 ?_
      refine r_aload_n dX4_findMoments_50 rfl rfl ?_
      refine r_get (fs := [_, _, _, _, _, _, _, _, _, _, _, _, _]) dX4_findMoments_51 fl_X4_31 (by decide) c6 rfl ?_
      refine r_iload_n dX4_findMoments_54 rfl rfl ?_
      refine r_ald dX4_findMoments_55 (by decide) c10 (by omega) (by omega) (by decide) ?_
      refine r_isub dX4_findMoments_56 ?_
      refine r_sipush dX4_findMoments_57 rfl ?_
      refine r_callS [_, _] (s_J9_floorMod_7cf53 ⟨by omega, by omega⟩ (by omega)) dX4_findMoments_60 cs_X4_68 sm_J9_floorMod_7cf53 (by decide) (by decide) (by decide) rfl rfl (Nat.le_of_ble_eq_true rfl) (fun _ _ _ q => q.elim) (fun v n2 h2 q => ?_)
      obtain ⟨rfl, rfl, hh⟩ := q
      obtain rfl := hh.symm
      refine ⟨rfl, ?_⟩
      dsimp only [Option.toList, List.cons_append, List.nil_append]
      refine r_istore (lv2 := [(0, _), (1, _), (2, _), (3, _), (4, _), (5, _), (6, _), (7, _), (8, _), (9, _)]) dX4_findMoments_63 (by decide) rfl rfl ?_
      rw [← eb]
      have hs : 50 ≤ strI (K di.toNat) (I di.toNat) ∧ strI (K di.toNat) (I di.toNat) ≤ 150 := by omega
      have n0 := next_B (w := 0) hb (Or.inl rfl) hs
      have n1 := next_B (w := 1) hb (Or.inr rfl) hs
      have e0 : ((bentI told tu (O di.toNat) - 0 * 1440) * 100).tdiv (strI (K di.toNat) (I di.toNat)) = nextI (bentI told tu (O di.toNat)) 0 (strI (K di.toNat) (I di.toNat)) := rfl
      have e1 : ((bentI told tu (O di.toNat) - 1 * 1440) * 100).tdiv (strI (K di.toNat) (I di.toNat)) = nextI (bentI told tu (O di.toNat)) 1 (strI (K di.toNat) (I di.toNat)) := rfl
      refine r_iconst dX4_findMoments_65 ?_
      refine r_istore (lv2 := [(0, _), (1, _), (2, _), (3, _), (4, _), (5, _), (6, _), (7, _), (8, _), (9, _), (10, _)]) dX4_findMoments_66 (by decide) rfl rfl ?_
      refine r_iload dX4_findMoments_68 rfl ?_
      refine r_iconst dX4_findMoments_70 ?_
      refine r_icmp_ge (tgt := 173) dX4_findMoments_71 (by decide) ⟨by omega, by omega⟩ ⟨by omega, by omega⟩ (fun g71 => absurd g71 (by omega)) (fun g71 => ?_)
      first | rw [show ((0 : Int) + 1) = 1 from rfl] | skip
      refine r_iload dX4_findMoments_74 rfl ?_
      refine r_iload dX4_findMoments_76 rfl ?_
      refine r_sipush dX4_findMoments_78 rfl ?_
      refine r_imul dX4_findMoments_81 ?_
      refine r_isub dX4_findMoments_82 ?_
      refine r_bipush dX4_findMoments_83 rfl ?_
      refine r_imul dX4_findMoments_85 ?_
      refine r_iload dX4_findMoments_86 rfl ?_
      refine r_idiv dX4_findMoments_88 ⟨by omega, by omega⟩ ⟨by omega, by omega⟩ (by omega) ⟨by omega, by omega⟩ ?_
      first | rw [e0] | rw [e1]
      refine r_istore (lv2 := [(0, _), (1, _), (2, _), (3, _), (4, _), (5, _), (6, _), (7, _), (8, _), (9, _), (10, _), (11, _)]) dX4_findMoments_89 (by decide) rfl rfl ?_
      refine r_iload dX4_findMoments_91 rfl ?_
      refine r_iconst dX4_findMoments_93 ?_
      refine r_isub dX4_findMoments_94 ?_
      refine r_istore (lv2 := [(0, _), (1, _), (2, _), (3, _), (4, _), (5, _), (6, _), (7, _), (8, _), (9, _), (10, _), (11, _), (12, _)]) dX4_findMoments_95 (by decide) rfl rfl ?_
      refine r_lv (lv2 := [(0, _), (1, _), (2, _), (3, _), (4, _), (5, _), (6, _), (7, _), (8, _), (9, _), (10, _), (11, _), (12, _)]) rfl ?_
      have hu : h = va_up h 67 (.inl (0, 14, f)) := by funext j; by_cases hj : j = 67 <;> simp [va_up, hj, c67]
      refine ev_h hu ?_
      refine l_X4_fm1 (d := 6) (by decide) c6 c7 c8 c9 c10 c11 c12 c13 c14 c15 c16 pi hdi hd htu hto (mi := (fun a => minAtI (K di.toNat) day a (noonI L day) (halfI sw day))) (ok := (fun m => decide (toldI (K di.toNat) tu (I di.toNat) (O di.toNat) (G di.toNat) day m (noonI L day) (halfI sw day) (cUp cd cf ct day m nc.toNat) = told))) (fun _ => rfl) (fun _ => rfl) 7 _ 0 f (by omega) (by omega) (by omega) (by omega) ?_
      refine r_iinc (lv2 := [(0, _), (1, _), (2, _), (3, _), (4, _), (5, _), (6, _), (7, _), (8, _), (9, _), (10, _), (11, _), (12, _)]) dX4_findMoments_167 (by decide) rfl rfl rfl ?_
      refine r_goto (tgt := 68) dX4_findMoments_170 (by decide) ?_
      refine r_iload dX4_findMoments_68 rfl ?_
      refine r_iconst dX4_findMoments_70 ?_
      refine r_icmp_ge (tgt := 173) dX4_findMoments_71 (by decide) ⟨by omega, by omega⟩ ⟨by omega, by omega⟩ (fun g71 => absurd g71 (by omega)) (fun g71 => ?_)
      first | rw [show ((0 : Int) + 1) = 1 from rfl] | skip
      refine r_iload dX4_findMoments_74 rfl ?_
      refine r_iload dX4_findMoments_76 rfl ?_
      refine r_sipush dX4_findMoments_78 rfl ?_
      refine r_imul dX4_findMoments_81 ?_
      refine r_isub dX4_findMoments_82 ?_
      refine r_bipush dX4_findMoments_83 rfl ?_
      refine r_imul dX4_findMoments_85 ?_
      refine r_iload dX4_findMoments_86 rfl ?_
      refine r_idiv dX4_findMoments_88 ⟨by omega, by omega⟩ ⟨by omega, by omega⟩ (by omega) ⟨by omega, by omega⟩ ?_
      first | rw [e0] | rw [e1]
      refine r_istore (lv2 := [(0, _), (1, _), (2, _), (3, _), (4, _), (5, _), (6, _), (7, _), (8, _), (9, _), (10, _), (11, _), (12, _)]) dX4_findMoments_89 (by decide) rfl rfl ?_
      refine r_iload dX4_findMoments_91 rfl ?_
      refine r_iconst dX4_findMoments_93 ?_
      refine r_isub dX4_findMoments_94 ?_
      refine r_istore (lv2 := [(0, _), (1, _), (2, _), (3, _), (4, _), (5, _), (6, _), (7, _), (8, _), (9, _), (10, _), (11, _), (12, _)]) dX4_findMoments_95 (by decide) rfl rfl ?_
      refine r_lv (lv2 := [(0, _), (1, _), (2, _), (3, _), (4, _), (5, _), (6, _), (7, _), (8, _), (9, _), (10, _), (11, _), (12, _)]) rfl ?_
      refine l_X4_fm1 (d := 6) (by decide) c6 c7 c8 c9 c10 c11 c12 c13 c14 c15 c16 pi hdi hd htu hto (mi := (fun a => minAtI (K di.toNat) day a (noonI L day) (halfI sw day))) (ok := (fun m => decide (toldI (K di.toNat) tu (I di.toNat) (O di.toNat) (G di.toNat) day m (noonI L day) (halfI sw day) (cUp cd cf ct day m nc.toNat) = told))) (fun _ => rfl) (fun _ => rfl) 7 _ _ _ (by omega) (by have := gath_len (fun a => minAtI (K di.toNat) day a (noonI L day) (halfI sw day)) (fun m => decide (toldI (K di.toNat) tu (I di.toNat) (O di.toNat) (G di.toNat) day m (noonI L day) (halfI sw day) (cUp cd cf ct day m nc.toNat) = told)) 7 (nextI (bentI told tu (O di.toNat)) 0 (strI (K di.toNat) (I di.toNat)) - 3); omega) (by omega) (by omega) ?_
      refine r_iinc (lv2 := [(0, _), (1, _), (2, _), (3, _), (4, _), (5, _), (6, _), (7, _), (8, _), (9, _), (10, _), (11, _), (12, _)]) dX4_findMoments_167 (by decide) rfl rfl rfl ?_
      refine r_goto (tgt := 68) dX4_findMoments_170 (by decide) ?_
      refine r_iload dX4_findMoments_68 rfl ?_
      refine r_iconst dX4_findMoments_70 ?_
      refine r_icmp_ge (tgt := 173) dX4_findMoments_71 (by decide) ⟨by omega, by omega⟩ ⟨by omega, by omega⟩ (fun g71 => ?_) (fun g71 => absurd g71 (by omega))
      refine r_iload dX4_findMoments_173 rfl ?_
      refine r_iret dX4_findMoments_175 ?_
      refine ⟨ivE ?_, rfl, ?_⟩
      · simp only [momI, List.length_append]
        omega
      · rw [putL_app]
        rfl
    · refine r_iconst dX4_findMoments_37 ?_
      refine r_iret dX4_findMoments_38 ?_
      exact absurd g34 (by omega)
