/-! ===== the reference reads a law: it goes on ===== -/
abbrev GnR : Type := (Int × Nat) ⊕ (Nat ⊕ (Nat × (Nat → Int) × Nat))
def GnQ (t : Nat → Int) (le : Nat) (r : GnR) (h : aH) (g NC OP SG BS : Nat → Int) (tp o : Nat) : Option Value → Nat → aH → Prop := fun v n' h' => n' = 97 ∧ ∃ (g2 : Nat → Int) (w2 : Int) (NC2 SG2 : Nat → Int), h' = WT h g2 w2 NC2 OP SG2 BS ∧ ((∃ f p, r = .inl (f, p) ∧ (1 ≤ f ∧ f ≤ 4) ∧ g2 9 = f ∧ g2 10 = ((p : Nat) : Int) ∧ ∃ z : Int, v = some (iv z) ∧ (z = 0 ∨ z = 1)) ∨ (∃ e2, r = .inr (.inl e2) ∧ v = some (iv 0) ∧ RS t le e2 g2 w2 ∧ g2 9 = 0 ∧ g2 10 = g 10 ∧ g2 51 = (tp : Int) ∧ g2 52 = (o : Int) ∧ NC2 = NC ∧ SG2 = va_up SG (o - 1) (SG (o - 1) + 1)) ∨ (∃ n N2 e2, r = .inr (.inr (n, N2, e2)) ∧ v = some (iv 1) ∧ RS t le e2 g2 w2 ∧ g2 9 = 0 ∧ g2 10 = g 10 ∧ g2 51 = (tp : Int) + ((n : Nat) : Int) ∧ g2 52 = (o : Int) - 1 ∧ NC2 = N2 ∧ ∀ j, j < o - 1 → SG2 j = SG j)) ∧ ∀ k, ¬ (9 ≤ k ∧ k ≤ 10) → ¬ (13 ≤ k ∧ k ≤ 18) → ¬ (51 ≤ k ∧ k ≤ 52) → g2 k = g k

theorem s_X9_goes14 {h : aH} {g : Nat → Int} {w : Int} (c68 : h 68 = RG g w) {trr : Nat → Int} (c72 : h 72 = .inl (0, 700, trr)) {NC : Nat → Int} (c87 : h 87 = .inl (0, 1500, NC)) {OP SG BS : Nat → Int} (c89 : h 89 = .inl (0, 13, OP)) (c90 : h 90 = .inl (0, 13, SG)) (c91 : h 91 = .inl (0, 13, BS)) {t : Nat → Int} (ht : ∀ j, -128 ≤ t j ∧ t j ≤ 127) {le : Nat} (hle : le ≤ 700) (htt : ∀ j, j < le → trr j = t j % 256) {e : Nat} (rs : RS t le e g w) (h9 : g 9 = 0) {nd : Int} (e1 : g 1 = nd) (hnd : 0 ≤ nd ∧ nd ≤ 9) {tp o : Nat} (e51 : g 51 = (tp : Int)) (htp : tp + 2 ≤ 1500) (e52 : g 52 = (o : Int)) (ho : 1 ≤ o ∧ o ≤ 12) (hop : OP (o - 1) = 14)  : mSem yX9_goesOn cX9_goesOn 4 (some .boolean) 5 0 0 [.ref 68] 97 h (GnQ t le (.inr (.inr (2, va_up (va_up NC tp 5) (tp + 1) (BS (o - 1)), e))) h g NC OP SG BS tp o) noX := by
  have n1 : g 52 - 1 = ((o - 1 : Nat) : Int) := by omega
  have hsb := sort_B rs
  refine mSem_of (own := RX9) (name := "goesOn") pn_X9 rfl rfl (Nat.le_of_ble_eq_true rfl) ?_
  refine r_aload_n dX9_goesOn_0 rfl rfl ?_
  refine r_getR (z := (g 52)) dX9_goesOn_1 fl_X9_326 (by decide) c68 rfl ?_
  refine r_iconst dX9_goesOn_4 ?_
  refine r_isub dX9_goesOn_5 ?_
  rw [n1]
  refine r_istore_n (lv2 := [(0, _), (1, _)]) dX9_goesOn_6 rfl (by decide) rfl rfl ?_
  refine r_aload_n dX9_goesOn_7 rfl rfl ?_
  refine r_get (fs := RGL _ _) dX9_goesOn_8 fl_X9_81 (by decide) c68 rfl ?_
  refine r_iload_n dX9_goesOn_11 rfl rfl ?_
  refine r_ald dX9_goesOn_12 (by decide) c89 (by omega) (by omega) (by decide) ?_
  rw [Int.toNat_natCast, hop]
  refine r_istore_n (lv2 := [(0, _), (1, _), (2, _)]) dX9_goesOn_13 rfl (by decide) rfl rfl ?_
  refine r_iload_n dX9_goesOn_14 rfl rfl ?_
  refine r_bipush dX9_goesOn_15 rfl ?_
  refine r_icmp_ne (tgt := 31) dX9_goesOn_17 (by decide) ⟨by omega, by omega⟩ ⟨by omega, by omega⟩ (fun g17 => absurd g17 (by omega)) (fun g17 => ?_)
  refine r_aload_n dX9_goesOn_20 rfl rfl ?_
  refine r_iconst dX9_goesOn_21 ?_
  refine r_aload_n dX9_goesOn_22 rfl rfl ?_
  refine r_get (fs := RGL _ _) dX9_goesOn_23 fl_X9_87 (by decide) c68 rfl ?_
  refine r_iload_n dX9_goesOn_26 rfl rfl ?_
  refine r_ald dX9_goesOn_27 (by decide) c91 (by omega) (by omega) (by decide) ?_
  rw [Int.toNat_natCast]
  refine r_callV 68 [_, _] (s_X9_works (g := g) (tp := tp) (o := o) c68 c87 e51 (by omega) e52 (by omega) ⟨by decide, by decide⟩) dX9_goesOn_28 cs_X9_341 im_X9_works (by decide) c68 rfl (by decide) (by decide) (by decide) rfl rfl (Nat.le_of_ble_eq_true rfl) (fun _ _ _ q => q.elim) (fun v n2 h2 q => ?_)
  obtain ⟨rfl, rfl, hh⟩ := q
  rw [if_pos (by decide)] at hh
  obtain rfl := hh.symm
  refine ⟨rfl, ?_⟩
  dsimp only [Option.toList, List.cons_append, List.nil_append]
  refine r_iload_n dX9_goesOn_31 rfl rfl ?_
  refine r_bipush dX9_goesOn_32 rfl ?_
  refine r_icmp_ne (tgt := 44) dX9_goesOn_34 (by decide) ⟨by omega, by omega⟩ ⟨by omega, by omega⟩ (fun g34 => ?_) (fun g34 => absurd g34 (by omega))
  refine r_iload_n dX9_goesOn_44 rfl rfl ?_
  refine r_bipush dX9_goesOn_45 rfl ?_
  refine r_icmp_ne (tgt := 57) dX9_goesOn_47 (by decide) ⟨by omega, by omega⟩ ⟨by omega, by omega⟩ (fun g47 => ?_) (fun g47 => absurd g47 (by omega))
  refine r_iload_n dX9_goesOn_57 rfl rfl ?_
  refine r_bipush dX9_goesOn_58 rfl ?_
  refine r_icmp_eq (tgt := 75) dX9_goesOn_60 (by decide) ⟨by omega, by omega⟩ ⟨by omega, by omega⟩ (fun g60 => ?_) (fun g60 => absurd g60 (by omega))
  refine r_iconst dX9_goesOn_75 ?_
  refine r_zret dX9_goesOn_76 (nar_z (by omega)) ?_
  exact ⟨rfl, _, _, _, SG, (wt_mk rfl rfl (by exact c89) (by exact c90) (by exact c91) (fun j a b c d e => by simp only [va_up, a, b, c, d, e, if_false])), Or.inr (Or.inr ⟨2, _, e, rfl, rfl, RS_kp rs (fun k hk => by rw [va_up_ne _ _ (by omega), va_up_ne _ _ (by omega)]), h9, rfl, by show (tp : Int) + 2 = _; omega, rfl, rfl, fun j hj => rfl⟩), (fun k h1 h2 h3 => by (repeat rw [va_up_ne _ _ (by omega)]))⟩

theorem s_X9_goes19 {h : aH} {g : Nat → Int} {w : Int} (c68 : h 68 = RG g w) {trr : Nat → Int} (c72 : h 72 = .inl (0, 700, trr)) {NC : Nat → Int} (c87 : h 87 = .inl (0, 1500, NC)) {OP SG BS : Nat → Int} (c89 : h 89 = .inl (0, 13, OP)) (c90 : h 90 = .inl (0, 13, SG)) (c91 : h 91 = .inl (0, 13, BS)) {t : Nat → Int} (ht : ∀ j, -128 ≤ t j ∧ t j ≤ 127) {le : Nat} (hle : le ≤ 700) (htt : ∀ j, j < le → trr j = t j % 256) {e : Nat} (rs : RS t le e g w) (h9 : g 9 = 0) {nd : Int} (e1 : g 1 = nd) (hnd : 0 ≤ nd ∧ nd ≤ 9) {tp o : Nat} (e51 : g 51 = (tp : Int)) (htp : tp + 2 ≤ 1500) (e52 : g 52 = (o : Int)) (ho : 1 ≤ o ∧ o ≤ 12) (hop : OP (o - 1) = 19)  : mSem yX9_goesOn cX9_goesOn 4 (some .boolean) 5 0 0 [.ref 68] 97 h (GnQ t le (.inr (.inr (1, va_up NC tp 7, e))) h g NC OP SG BS tp o) noX := by
  have n1 : g 52 - 1 = ((o - 1 : Nat) : Int) := by omega
  have hsb := sort_B rs
  refine mSem_of (own := RX9) (name := "goesOn") pn_X9 rfl rfl (Nat.le_of_ble_eq_true rfl) ?_
  refine r_aload_n dX9_goesOn_0 rfl rfl ?_
  refine r_getR (z := (g 52)) dX9_goesOn_1 fl_X9_326 (by decide) c68 rfl ?_
  refine r_iconst dX9_goesOn_4 ?_
  refine r_isub dX9_goesOn_5 ?_
  rw [n1]
  refine r_istore_n (lv2 := [(0, _), (1, _)]) dX9_goesOn_6 rfl (by decide) rfl rfl ?_
  refine r_aload_n dX9_goesOn_7 rfl rfl ?_
  refine r_get (fs := RGL _ _) dX9_goesOn_8 fl_X9_81 (by decide) c68 rfl ?_
  refine r_iload_n dX9_goesOn_11 rfl rfl ?_
  refine r_ald dX9_goesOn_12 (by decide) c89 (by omega) (by omega) (by decide) ?_
  rw [Int.toNat_natCast, hop]
  refine r_istore_n (lv2 := [(0, _), (1, _), (2, _)]) dX9_goesOn_13 rfl (by decide) rfl rfl ?_
  refine r_iload_n dX9_goesOn_14 rfl rfl ?_
  refine r_bipush dX9_goesOn_15 rfl ?_
  refine r_icmp_ne (tgt := 31) dX9_goesOn_17 (by decide) ⟨by omega, by omega⟩ ⟨by omega, by omega⟩ (fun g17 => ?_) (fun g17 => absurd g17 (by omega))
  refine r_iload_n dX9_goesOn_31 rfl rfl ?_
  refine r_bipush dX9_goesOn_32 rfl ?_
  refine r_icmp_ne (tgt := 44) dX9_goesOn_34 (by decide) ⟨by omega, by omega⟩ ⟨by omega, by omega⟩ (fun g34 => absurd g34 (by omega)) (fun g34 => ?_)
  refine r_aload_n dX9_goesOn_37 rfl rfl ?_
  refine r_bipush dX9_goesOn_38 rfl ?_
  refine r_iconst dX9_goesOn_40 ?_
  refine r_callV 68 [_, _] (s_X9_works (g := g) (tp := tp) (o := o) c68 c87 e51 (by omega) e52 (by omega) ⟨by decide, by decide⟩) dX9_goesOn_41 cs_X9_341 im_X9_works (by decide) c68 rfl (by decide) (by decide) (by decide) rfl rfl (Nat.le_of_ble_eq_true rfl) (fun _ _ _ q => q.elim) (fun v n2 h2 q => ?_)
  obtain ⟨rfl, rfl, hh⟩ := q
  rw [if_neg (by decide)] at hh
  obtain rfl := hh.symm
  refine ⟨rfl, ?_⟩
  dsimp only [Option.toList, List.cons_append, List.nil_append]
  refine r_iload_n dX9_goesOn_44 rfl rfl ?_
  refine r_bipush dX9_goesOn_45 rfl ?_
  refine r_icmp_ne (tgt := 57) dX9_goesOn_47 (by decide) ⟨by omega, by omega⟩ ⟨by omega, by omega⟩ (fun g47 => ?_) (fun g47 => absurd g47 (by omega))
  refine r_iload_n dX9_goesOn_57 rfl rfl ?_
  refine r_bipush dX9_goesOn_58 rfl ?_
  refine r_icmp_eq (tgt := 75) dX9_goesOn_60 (by decide) ⟨by omega, by omega⟩ ⟨by omega, by omega⟩ (fun g60 => absurd g60 (by omega)) (fun g60 => ?_)
  refine r_iload_n dX9_goesOn_63 rfl rfl ?_
  refine r_bipush dX9_goesOn_64 rfl ?_
  refine r_icmp_eq (tgt := 75) dX9_goesOn_66 (by decide) ⟨by omega, by omega⟩ ⟨by omega, by omega⟩ (fun g66 => ?_) (fun g66 => absurd g66 (by omega))
  refine r_iconst dX9_goesOn_75 ?_
  refine r_zret dX9_goesOn_76 (nar_z (by omega)) ?_
  exact ⟨rfl, _, _, _, SG, (wt_mk rfl rfl (by exact c89) (by exact c90) (by exact c91) (fun j a b c d e => by simp only [va_up, a, b, c, d, e, if_false])), Or.inr (Or.inr ⟨1, _, e, rfl, rfl, RS_kp rs (fun k hk => by rw [va_up_ne _ _ (by omega), va_up_ne _ _ (by omega)]), h9, rfl, by show (tp : Int) + 1 = _; omega, rfl, rfl, fun j hj => rfl⟩), (fun k h1 h2 h3 => by (repeat rw [va_up_ne _ _ (by omega)]))⟩

theorem s_X9_goes20 {h : aH} {g : Nat → Int} {w : Int} (c68 : h 68 = RG g w) {trr : Nat → Int} (c72 : h 72 = .inl (0, 700, trr)) {NC : Nat → Int} (c87 : h 87 = .inl (0, 1500, NC)) {OP SG BS : Nat → Int} (c89 : h 89 = .inl (0, 13, OP)) (c90 : h 90 = .inl (0, 13, SG)) (c91 : h 91 = .inl (0, 13, BS)) {t : Nat → Int} (ht : ∀ j, -128 ≤ t j ∧ t j ≤ 127) {le : Nat} (hle : le ≤ 700) (htt : ∀ j, j < le → trr j = t j % 256) {e : Nat} (rs : RS t le e g w) (h9 : g 9 = 0) {nd : Int} (e1 : g 1 = nd) (hnd : 0 ≤ nd ∧ nd ≤ 9) {tp o : Nat} (e51 : g 51 = (tp : Int)) (htp : tp + 2 ≤ 1500) (e52 : g 52 = (o : Int)) (ho : 1 ≤ o ∧ o ≤ 12) (hop : OP (o - 1) = 20)  : mSem yX9_goesOn cX9_goesOn 4 (some .boolean) 5 0 0 [.ref 68] 97 h (GnQ t le (.inr (.inr (1, va_up NC tp 8, e))) h g NC OP SG BS tp o) noX := by
  have n1 : g 52 - 1 = ((o - 1 : Nat) : Int) := by omega
  have hsb := sort_B rs
  refine mSem_of (own := RX9) (name := "goesOn") pn_X9 rfl rfl (Nat.le_of_ble_eq_true rfl) ?_
  refine r_aload_n dX9_goesOn_0 rfl rfl ?_
  refine r_getR (z := (g 52)) dX9_goesOn_1 fl_X9_326 (by decide) c68 rfl ?_
  refine r_iconst dX9_goesOn_4 ?_
  refine r_isub dX9_goesOn_5 ?_
  rw [n1]
  refine r_istore_n (lv2 := [(0, _), (1, _)]) dX9_goesOn_6 rfl (by decide) rfl rfl ?_
  refine r_aload_n dX9_goesOn_7 rfl rfl ?_
  refine r_get (fs := RGL _ _) dX9_goesOn_8 fl_X9_81 (by decide) c68 rfl ?_
  refine r_iload_n dX9_goesOn_11 rfl rfl ?_
  refine r_ald dX9_goesOn_12 (by decide) c89 (by omega) (by omega) (by decide) ?_
  rw [Int.toNat_natCast, hop]
  refine r_istore_n (lv2 := [(0, _), (1, _), (2, _)]) dX9_goesOn_13 rfl (by decide) rfl rfl ?_
  refine r_iload_n dX9_goesOn_14 rfl rfl ?_
  refine r_bipush dX9_goesOn_15 rfl ?_
  refine r_icmp_ne (tgt := 31) dX9_goesOn_17 (by decide) ⟨by omega, by omega⟩ ⟨by omega, by omega⟩ (fun g17 => ?_) (fun g17 => absurd g17 (by omega))
  refine r_iload_n dX9_goesOn_31 rfl rfl ?_
  refine r_bipush dX9_goesOn_32 rfl ?_
  refine r_icmp_ne (tgt := 44) dX9_goesOn_34 (by decide) ⟨by omega, by omega⟩ ⟨by omega, by omega⟩ (fun g34 => ?_) (fun g34 => absurd g34 (by omega))
  refine r_iload_n dX9_goesOn_44 rfl rfl ?_
  refine r_bipush dX9_goesOn_45 rfl ?_
  refine r_icmp_ne (tgt := 57) dX9_goesOn_47 (by decide) ⟨by omega, by omega⟩ ⟨by omega, by omega⟩ (fun g47 => absurd g47 (by omega)) (fun g47 => ?_)
  refine r_aload_n dX9_goesOn_50 rfl rfl ?_
  refine r_bipush dX9_goesOn_51 rfl ?_
  refine r_iconst dX9_goesOn_53 ?_
  refine r_callV 68 [_, _] (s_X9_works (g := g) (tp := tp) (o := o) c68 c87 e51 (by omega) e52 (by omega) ⟨by decide, by decide⟩) dX9_goesOn_54 cs_X9_341 im_X9_works (by decide) c68 rfl (by decide) (by decide) (by decide) rfl rfl (Nat.le_of_ble_eq_true rfl) (fun _ _ _ q => q.elim) (fun v n2 h2 q => ?_)
  obtain ⟨rfl, rfl, hh⟩ := q
  rw [if_neg (by decide)] at hh
  obtain rfl := hh.symm
  refine ⟨rfl, ?_⟩
  dsimp only [Option.toList, List.cons_append, List.nil_append]
  refine r_iload_n dX9_goesOn_57 rfl rfl ?_
  refine r_bipush dX9_goesOn_58 rfl ?_
  refine r_icmp_eq (tgt := 75) dX9_goesOn_60 (by decide) ⟨by omega, by omega⟩ ⟨by omega, by omega⟩ (fun g60 => absurd g60 (by omega)) (fun g60 => ?_)
  refine r_iload_n dX9_goesOn_63 rfl rfl ?_
  refine r_bipush dX9_goesOn_64 rfl ?_
  refine r_icmp_eq (tgt := 75) dX9_goesOn_66 (by decide) ⟨by omega, by omega⟩ ⟨by omega, by omega⟩ (fun g66 => absurd g66 (by omega)) (fun g66 => ?_)
  refine r_iload_n dX9_goesOn_69 rfl rfl ?_
  refine r_bipush dX9_goesOn_70 rfl ?_
  refine r_icmp_ne (tgt := 77) dX9_goesOn_72 (by decide) ⟨by omega, by omega⟩ ⟨by omega, by omega⟩ (fun g72 => absurd g72 (by omega)) (fun g72 => ?_)
  refine r_iconst dX9_goesOn_75 ?_
  refine r_zret dX9_goesOn_76 (nar_z (by omega)) ?_
  exact ⟨rfl, _, _, _, SG, (wt_mk rfl rfl (by exact c89) (by exact c90) (by exact c91) (fun j a b c d e => by simp only [va_up, a, b, c, d, e, if_false])), Or.inr (Or.inr ⟨1, _, e, rfl, rfl, RS_kp rs (fun k hk => by rw [va_up_ne _ _ (by omega), va_up_ne _ _ (by omega)]), h9, rfl, by show (tp : Int) + 1 = _; omega, rfl, rfl, fun j hj => rfl⟩), (fun k h1 h2 h3 => by (repeat rw [va_up_ne _ _ (by omega)]))⟩

theorem s_X9_goes15_0 {h : aH} {g : Nat → Int} {w : Int} (c68 : h 68 = RG g w) {trr : Nat → Int} (c72 : h 72 = .inl (0, 700, trr)) {NC : Nat → Int} (c87 : h 87 = .inl (0, 1500, NC)) {OP SG BS : Nat → Int} (c89 : h 89 = .inl (0, 13, OP)) (c90 : h 90 = .inl (0, 13, SG)) (c91 : h 91 = .inl (0, 13, BS)) {t : Nat → Int} (ht : ∀ j, -128 ≤ t j ∧ t j ≤ 127) {le : Nat} (hle : le ≤ 700) (htt : ∀ j, j < le → trr j = t j % 256) {e : Nat} (rs : RS t le e g w) (h9 : g 9 = 0) {nd : Int} (e1 : g 1 = nd) (hnd : 0 ≤ nd ∧ nd ≤ 9) {tp o : Nat} (e51 : g 51 = (tp : Int)) (htp : tp + 2 ≤ 1500) (e52 : g 52 = (o : Int)) (ho : 1 ≤ o ∧ o ≤ 12) (hop : OP (o - 1) = 15) (hst : SG (o - 1) = 0)  : mSem yX9_goesOn cX9_goesOn 4 (some .boolean) 5 0 0 [.ref 68] 97 h (GnQ t le (if wordAt t le e 20 = true then .inr (.inl (tkE t le e)) else .inl (1, tkS t le e)) h g NC OP SG BS tp o) noX := by
  have n1 : g 52 - 1 = ((o - 1 : Nat) : Int) := by omega
  have hsb := sort_B rs
  refine mSem_of (own := RX9) (name := "goesOn") pn_X9 rfl rfl (Nat.le_of_ble_eq_true rfl) ?_
  refine r_aload_n dX9_goesOn_0 rfl rfl ?_
  refine r_getR (z := (g 52)) dX9_goesOn_1 fl_X9_326 (by decide) c68 rfl ?_
  refine r_iconst dX9_goesOn_4 ?_
  refine r_isub dX9_goesOn_5 ?_
  rw [n1]
  refine r_istore_n (lv2 := [(0, _), (1, _)]) dX9_goesOn_6 rfl (by decide) rfl rfl ?_
  refine r_aload_n dX9_goesOn_7 rfl rfl ?_
  refine r_get (fs := RGL _ _) dX9_goesOn_8 fl_X9_81 (by decide) c68 rfl ?_
  refine r_iload_n dX9_goesOn_11 rfl rfl ?_
  refine r_ald dX9_goesOn_12 (by decide) c89 (by omega) (by omega) (by decide) ?_
  rw [Int.toNat_natCast, hop]
  refine r_istore_n (lv2 := [(0, _), (1, _), (2, _)]) dX9_goesOn_13 rfl (by decide) rfl rfl ?_
  refine r_iload_n dX9_goesOn_14 rfl rfl ?_
  refine r_bipush dX9_goesOn_15 rfl ?_
  refine r_icmp_ne (tgt := 31) dX9_goesOn_17 (by decide) ⟨by omega, by omega⟩ ⟨by omega, by omega⟩ (fun g17 => ?_) (fun g17 => absurd g17 (by omega))
  refine r_iload_n dX9_goesOn_31 rfl rfl ?_
  refine r_bipush dX9_goesOn_32 rfl ?_
  refine r_icmp_ne (tgt := 44) dX9_goesOn_34 (by decide) ⟨by omega, by omega⟩ ⟨by omega, by omega⟩ (fun g34 => ?_) (fun g34 => absurd g34 (by omega))
  refine r_iload_n dX9_goesOn_44 rfl rfl ?_
  refine r_bipush dX9_goesOn_45 rfl ?_
  refine r_icmp_ne (tgt := 57) dX9_goesOn_47 (by decide) ⟨by omega, by omega⟩ ⟨by omega, by omega⟩ (fun g47 => ?_) (fun g47 => absurd g47 (by omega))
  refine r_iload_n dX9_goesOn_57 rfl rfl ?_
  refine r_bipush dX9_goesOn_58 rfl ?_
  refine r_icmp_eq (tgt := 75) dX9_goesOn_60 (by decide) ⟨by omega, by omega⟩ ⟨by omega, by omega⟩ (fun g60 => absurd g60 (by omega)) (fun g60 => ?_)
  refine r_iload_n dX9_goesOn_63 rfl rfl ?_
  refine r_bipush dX9_goesOn_64 rfl ?_
  refine r_icmp_eq (tgt := 75) dX9_goesOn_66 (by decide) ⟨by omega, by omega⟩ ⟨by omega, by omega⟩ (fun g66 => absurd g66 (by omega)) (fun g66 => ?_)
  refine r_iload_n dX9_goesOn_69 rfl rfl ?_
  refine r_bipush dX9_goesOn_70 rfl ?_
  refine r_icmp_ne (tgt := 77) dX9_goesOn_72 (by decide) ⟨by omega, by omega⟩ ⟨by omega, by omega⟩ (fun g72 => ?_) (fun g72 => absurd g72 (by omega))
  refine r_aload_n dX9_goesOn_77 rfl rfl ?_
  refine r_get (fs := RGL _ _) dX9_goesOn_78 fl_X9_84 (by decide) c68 rfl ?_
  refine r_iload_n dX9_goesOn_81 rfl rfl ?_
  refine r_dup2 dX9_goesOn_82 rfl rfl ?_
  refine r_ald dX9_goesOn_83 (by decide) c90 (by omega) (by omega) (by decide) ?_
  rw [Int.toNat_natCast, hst]
  refine r_iconst dX9_goesOn_84 ?_
  refine r_iadd dX9_goesOn_85 ?_
  refine r_ast dX9_goesOn_86 (by decide) c90 (by omega) (by omega) (by decide) ?_
  try rw [Int.toNat_natCast]
  refine r_iload_n dX9_goesOn_87 rfl rfl ?_
  refine r_bipush dX9_goesOn_88 rfl ?_
  refine r_icmp_ne (tgt := 166) dX9_goesOn_90 (by decide) ⟨by omega, by omega⟩ ⟨by omega, by omega⟩ (fun g90 => absurd g90 (by omega)) (fun g90 => ?_)
  refine r_aload_n dX9_goesOn_93 rfl rfl ?_
  refine r_aload_n dX9_goesOn_94 rfl rfl ?_
  refine r_aload_n dX9_goesOn_95 rfl rfl ?_
  refine r_get (fs := RGL _ _) dX9_goesOn_96 fl_X9_84 (by decide) c68 rfl ?_
  refine r_iload_n dX9_goesOn_99 rfl rfl ?_
  refine r_ald dX9_goesOn_100 (by decide) rfl (by omega) (by omega) (by decide) ?_
  rw [Int.toNat_natCast, va_up_self]
  refine r_iconst dX9_goesOn_101 ?_
  refine r_icmp_ne (tgt := 110) dX9_goesOn_102 (by decide) ⟨by omega, by omega⟩ ⟨by omega, by omega⟩ (fun g102 => absurd g102 (by omega)) (fun g102 => ?_)
  refine r_bipush dX9_goesOn_105 rfl ?_
  refine r_goto (tgt := 127) dX9_goesOn_107 (by decide) ?_
  refine r_callV 68 [_] (s_X9_is (g := g) (k := 16) (by exact c68) (by exact c72) ht hle htt rs (by decide) (by decide)) dX9_goesOn_127 cs_X9_178 im_X9_is (by decide) c68 rfl (by decide) (by decide) (by decide) rfl rfl (Nat.le_of_ble_eq_true rfl) (fun _ _ _ q => q.elim) (fun v n2 h2 q => ?_)
  obtain ⟨rfl, rfl, hh⟩ := q
  obtain rfl := hh.symm
  refine ⟨rfl, ?_⟩
  dsimp only [Option.toList, List.cons_append, List.nil_append]
  rw [show wIx 16 = 20 from rfl]
  refine r_callV 68 [_] (s_X9_need (g := g) (b := wordAt t le e 20) (by exact c68) (by exact c72) ht hle htt rs h9) dX9_goesOn_130 cs_X9_181 im_X9_need (by decide) c68 rfl (by decide) (by decide) (by decide) rfl rfl (Nat.le_of_ble_eq_true rfl) (fun _ _ _ q => q.elim) (fun v n2 h2 q => ?_)
  obtain ⟨rfl, rfl, hq7⟩ := q
  rcases hq7 with ⟨hb7, g7, w7, rfl, rs7, kp7⟩ | ⟨hb7, rfl⟩
  · have p51 : g7 51 = (tp : Int) := (kp7 51 (by decide)).trans e51
    have p52 : g7 52 = (o : Int) := (kp7 52 (by decide)).trans e52
    refine ⟨rfl, ?_⟩
    dsimp only [Option.toList, List.cons_append, List.nil_append]
    refine r_aload_n dX9_goesOn_133 rfl rfl ?_
    refine r_get (fs := RGL _ _) dX9_goesOn_134 fl_X9_84 (by decide) rfl rfl ?_
    refine r_iload_n dX9_goesOn_137 rfl rfl ?_
    refine r_ald dX9_goesOn_138 (by decide) rfl (by omega) (by omega) (by decide) ?_
    rw [Int.toNat_natCast, va_up_self]
    refine r_iconst dX9_goesOn_139 ?_
    refine r_icmp_ne (tgt := 150) dX9_goesOn_140 (by decide) ⟨by omega, by omega⟩ ⟨by omega, by omega⟩ (fun g140 => ?_) (fun g140 => absurd g140 (by omega))
    refine r_aload_n dX9_goesOn_150 rfl rfl ?_
    refine r_get (fs := RGL _ _) dX9_goesOn_151 fl_X9_84 (by decide) rfl rfl ?_
    refine r_iload_n dX9_goesOn_154 rfl rfl ?_
    refine r_ald dX9_goesOn_155 (by decide) rfl (by omega) (by omega) (by decide) ?_
    rw [Int.toNat_natCast, va_up_self]
    refine r_iconst dX9_goesOn_156 ?_
    refine r_icmp_ne (tgt := 164) dX9_goesOn_157 (by decide) ⟨by omega, by omega⟩ ⟨by omega, by omega⟩ (fun g157 => ?_) (fun g157 => absurd g157 (by omega))
    refine r_iconst dX9_goesOn_164 ?_
    refine r_zret dX9_goesOn_165 (nar_z (by omega)) ?_
    exact ⟨rfl, _, _, NC, _, (wt_mk rfl (by exact c87) (by exact c89) rfl (by exact c91) (fun j a b c d e => by simp only [va_up, a, b, c, d, e, if_false])), Or.inr (Or.inl ⟨tkE t le e, by rw [if_pos hb7], rfl, rs7, (kp7 9 (by decide)).trans h9, kp7 10 (by decide), p51, p52, rfl, by first | rfl | rw [hst]⟩), fun k h1 h2 h3 => kp7 k h2⟩
  · skip
    refine ⟨rfl, ?_⟩
    dsimp only [Option.toList, List.cons_append, List.nil_append]
    refine r_aload_n dX9_goesOn_133 rfl rfl ?_
    refine r_get (fs := RGL _ _) dX9_goesOn_134 fl_X9_84 (by decide) rfl rfl ?_
    refine r_iload_n dX9_goesOn_137 rfl rfl ?_
    refine r_ald dX9_goesOn_138 (by decide) rfl (by omega) (by omega) (by decide) ?_
    rw [Int.toNat_natCast, va_up_self]
    refine r_iconst dX9_goesOn_139 ?_
    refine r_icmp_ne (tgt := 150) dX9_goesOn_140 (by decide) ⟨by omega, by omega⟩ ⟨by omega, by omega⟩ (fun g140 => ?_) (fun g140 => absurd g140 (by omega))
    refine r_aload_n dX9_goesOn_150 rfl rfl ?_
    refine r_get (fs := RGL _ _) dX9_goesOn_151 fl_X9_84 (by decide) rfl rfl ?_
    refine r_iload_n dX9_goesOn_154 rfl rfl ?_
    refine r_ald dX9_goesOn_155 (by decide) rfl (by omega) (by omega) (by decide) ?_
    rw [Int.toNat_natCast, va_up_self]
    refine r_iconst dX9_goesOn_156 ?_
    refine r_icmp_ne (tgt := 164) dX9_goesOn_157 (by decide) ⟨by omega, by omega⟩ ⟨by omega, by omega⟩ (fun g157 => ?_) (fun g157 => absurd g157 (by omega))
    refine r_iconst dX9_goesOn_164 ?_
    refine r_zret dX9_goesOn_165 (nar_z (by omega)) ?_
    exact ⟨rfl, _, _, NC, _, (wt_mk rfl (by exact c87) (by exact c89) rfl (by exact c91) (fun j a b c d e => by simp only [va_up, a, b, c, d, e, if_false])), Or.inl ⟨1, tkS t le e, by rw [if_neg (by rw [hb7]; decide)], by decide, rfl, rfl, 0, rfl, by decide⟩, (fun k h1 h2 h3 => by (repeat rw [va_up_ne _ _ (by omega)]))⟩

theorem s_X9_goes15_1 {h : aH} {g : Nat → Int} {w : Int} (c68 : h 68 = RG g w) {trr : Nat → Int} (c72 : h 72 = .inl (0, 700, trr)) {NC : Nat → Int} (c87 : h 87 = .inl (0, 1500, NC)) {OP SG BS : Nat → Int} (c89 : h 89 = .inl (0, 13, OP)) (c90 : h 90 = .inl (0, 13, SG)) (c91 : h 91 = .inl (0, 13, BS)) {t : Nat → Int} (ht : ∀ j, -128 ≤ t j ∧ t j ≤ 127) {le : Nat} (hle : le ≤ 700) (htt : ∀ j, j < le → trr j = t j % 256) {e : Nat} (rs : RS t le e g w) (h9 : g 9 = 0) {nd : Int} (e1 : g 1 = nd) (hnd : 0 ≤ nd ∧ nd ≤ 9) {tp o : Nat} (e51 : g 51 = (tp : Int)) (htp : tp + 2 ≤ 1500) (e52 : g 52 = (o : Int)) (ho : 1 ≤ o ∧ o ≤ 12) (hop : OP (o - 1) = 15) (hst : SG (o - 1) = 1)  : mSem yX9_goesOn cX9_goesOn 4 (some .boolean) 5 0 0 [.ref 68] 97 h (GnQ t le (if wordAt t le e 21 = true then .inr (.inl (tkE t le e)) else .inl (1, tkS t le e)) h g NC OP SG BS tp o) noX := by
  have n1 : g 52 - 1 = ((o - 1 : Nat) : Int) := by omega
  have hsb := sort_B rs
  refine mSem_of (own := RX9) (name := "goesOn") pn_X9 rfl rfl (Nat.le_of_ble_eq_true rfl) ?_
  refine r_aload_n dX9_goesOn_0 rfl rfl ?_
  refine r_getR (z := (g 52)) dX9_goesOn_1 fl_X9_326 (by decide) c68 rfl ?_
  refine r_iconst dX9_goesOn_4 ?_
  refine r_isub dX9_goesOn_5 ?_
  rw [n1]
  refine r_istore_n (lv2 := [(0, _), (1, _)]) dX9_goesOn_6 rfl (by decide) rfl rfl ?_
  refine r_aload_n dX9_goesOn_7 rfl rfl ?_
  refine r_get (fs := RGL _ _) dX9_goesOn_8 fl_X9_81 (by decide) c68 rfl ?_
  refine r_iload_n dX9_goesOn_11 rfl rfl ?_
  refine r_ald dX9_goesOn_12 (by decide) c89 (by omega) (by omega) (by decide) ?_
  rw [Int.toNat_natCast, hop]
  refine r_istore_n (lv2 := [(0, _), (1, _), (2, _)]) dX9_goesOn_13 rfl (by decide) rfl rfl ?_
  refine r_iload_n dX9_goesOn_14 rfl rfl ?_
  refine r_bipush dX9_goesOn_15 rfl ?_
  refine r_icmp_ne (tgt := 31) dX9_goesOn_17 (by decide) ⟨by omega, by omega⟩ ⟨by omega, by omega⟩ (fun g17 => ?_) (fun g17 => absurd g17 (by omega))
  refine r_iload_n dX9_goesOn_31 rfl rfl ?_
  refine r_bipush dX9_goesOn_32 rfl ?_
  refine r_icmp_ne (tgt := 44) dX9_goesOn_34 (by decide) ⟨by omega, by omega⟩ ⟨by omega, by omega⟩ (fun g34 => ?_) (fun g34 => absurd g34 (by omega))
  refine r_iload_n dX9_goesOn_44 rfl rfl ?_
  refine r_bipush dX9_goesOn_45 rfl ?_
  refine r_icmp_ne (tgt := 57) dX9_goesOn_47 (by decide) ⟨by omega, by omega⟩ ⟨by omega, by omega⟩ (fun g47 => ?_) (fun g47 => absurd g47 (by omega))
  refine r_iload_n dX9_goesOn_57 rfl rfl ?_
  refine r_bipush dX9_goesOn_58 rfl ?_
  refine r_icmp_eq (tgt := 75) dX9_goesOn_60 (by decide) ⟨by omega, by omega⟩ ⟨by omega, by omega⟩ (fun g60 => absurd g60 (by omega)) (fun g60 => ?_)
  refine r_iload_n dX9_goesOn_63 rfl rfl ?_
  refine r_bipush dX9_goesOn_64 rfl ?_
  refine r_icmp_eq (tgt := 75) dX9_goesOn_66 (by decide) ⟨by omega, by omega⟩ ⟨by omega, by omega⟩ (fun g66 => absurd g66 (by omega)) (fun g66 => ?_)
  refine r_iload_n dX9_goesOn_69 rfl rfl ?_
  refine r_bipush dX9_goesOn_70 rfl ?_
  refine r_icmp_ne (tgt := 77) dX9_goesOn_72 (by decide) ⟨by omega, by omega⟩ ⟨by omega, by omega⟩ (fun g72 => ?_) (fun g72 => absurd g72 (by omega))
  refine r_aload_n dX9_goesOn_77 rfl rfl ?_
  refine r_get (fs := RGL _ _) dX9_goesOn_78 fl_X9_84 (by decide) c68 rfl ?_
  refine r_iload_n dX9_goesOn_81 rfl rfl ?_
  refine r_dup2 dX9_goesOn_82 rfl rfl ?_
  refine r_ald dX9_goesOn_83 (by decide) c90 (by omega) (by omega) (by decide) ?_
  rw [Int.toNat_natCast, hst]
  refine r_iconst dX9_goesOn_84 ?_
  refine r_iadd dX9_goesOn_85 ?_
  refine r_ast dX9_goesOn_86 (by decide) c90 (by omega) (by omega) (by decide) ?_
  try rw [Int.toNat_natCast]
  refine r_iload_n dX9_goesOn_87 rfl rfl ?_
  refine r_bipush dX9_goesOn_88 rfl ?_
  refine r_icmp_ne (tgt := 166) dX9_goesOn_90 (by decide) ⟨by omega, by omega⟩ ⟨by omega, by omega⟩ (fun g90 => absurd g90 (by omega)) (fun g90 => ?_)
  refine r_aload_n dX9_goesOn_93 rfl rfl ?_
  refine r_aload_n dX9_goesOn_94 rfl rfl ?_
  refine r_aload_n dX9_goesOn_95 rfl rfl ?_
  refine r_get (fs := RGL _ _) dX9_goesOn_96 fl_X9_84 (by decide) c68 rfl ?_
  refine r_iload_n dX9_goesOn_99 rfl rfl ?_
  refine r_ald dX9_goesOn_100 (by decide) rfl (by omega) (by omega) (by decide) ?_
  rw [Int.toNat_natCast, va_up_self]
  refine r_iconst dX9_goesOn_101 ?_
  refine r_icmp_ne (tgt := 110) dX9_goesOn_102 (by decide) ⟨by omega, by omega⟩ ⟨by omega, by omega⟩ (fun g102 => ?_) (fun g102 => absurd g102 (by omega))
  refine r_aload_n dX9_goesOn_110 rfl rfl ?_
  refine r_get (fs := RGL _ _) dX9_goesOn_111 fl_X9_84 (by decide) c68 rfl ?_
  refine r_iload_n dX9_goesOn_114 rfl rfl ?_
  refine r_ald dX9_goesOn_115 (by decide) rfl (by omega) (by omega) (by decide) ?_
  rw [Int.toNat_natCast, va_up_self]
  refine r_iconst dX9_goesOn_116 ?_
  refine r_icmp_ne (tgt := 125) dX9_goesOn_117 (by decide) ⟨by omega, by omega⟩ ⟨by omega, by omega⟩ (fun g117 => absurd g117 (by omega)) (fun g117 => ?_)
  refine r_bipush dX9_goesOn_120 rfl ?_
  refine r_goto (tgt := 127) dX9_goesOn_122 (by decide) ?_
  refine r_callV 68 [_] (s_X9_is (g := g) (k := 17) (by exact c68) (by exact c72) ht hle htt rs (by decide) (by decide)) dX9_goesOn_127 cs_X9_178 im_X9_is (by decide) c68 rfl (by decide) (by decide) (by decide) rfl rfl (Nat.le_of_ble_eq_true rfl) (fun _ _ _ q => q.elim) (fun v n2 h2 q => ?_)
  obtain ⟨rfl, rfl, hh⟩ := q
  obtain rfl := hh.symm
  refine ⟨rfl, ?_⟩
  dsimp only [Option.toList, List.cons_append, List.nil_append]
  rw [show wIx 17 = 21 from rfl]
  refine r_callV 68 [_] (s_X9_need (g := g) (b := wordAt t le e 21) (by exact c68) (by exact c72) ht hle htt rs h9) dX9_goesOn_130 cs_X9_181 im_X9_need (by decide) c68 rfl (by decide) (by decide) (by decide) rfl rfl (Nat.le_of_ble_eq_true rfl) (fun _ _ _ q => q.elim) (fun v n2 h2 q => ?_)
  obtain ⟨rfl, rfl, hq7⟩ := q
  rcases hq7 with ⟨hb7, g7, w7, rfl, rs7, kp7⟩ | ⟨hb7, rfl⟩
  · have p51 : g7 51 = (tp : Int) := (kp7 51 (by decide)).trans e51
    have p52 : g7 52 = (o : Int) := (kp7 52 (by decide)).trans e52
    refine ⟨rfl, ?_⟩
    dsimp only [Option.toList, List.cons_append, List.nil_append]
    refine r_aload_n dX9_goesOn_133 rfl rfl ?_
    refine r_get (fs := RGL _ _) dX9_goesOn_134 fl_X9_84 (by decide) rfl rfl ?_
    refine r_iload_n dX9_goesOn_137 rfl rfl ?_
    refine r_ald dX9_goesOn_138 (by decide) rfl (by omega) (by omega) (by decide) ?_
    rw [Int.toNat_natCast, va_up_self]
    refine r_iconst dX9_goesOn_139 ?_
    refine r_icmp_ne (tgt := 150) dX9_goesOn_140 (by decide) ⟨by omega, by omega⟩ ⟨by omega, by omega⟩ (fun g140 => ?_) (fun g140 => absurd g140 (by omega))
    refine r_aload_n dX9_goesOn_150 rfl rfl ?_
    refine r_get (fs := RGL _ _) dX9_goesOn_151 fl_X9_84 (by decide) rfl rfl ?_
    refine r_iload_n dX9_goesOn_154 rfl rfl ?_
    refine r_ald dX9_goesOn_155 (by decide) rfl (by omega) (by omega) (by decide) ?_
    rw [Int.toNat_natCast, va_up_self]
    refine r_iconst dX9_goesOn_156 ?_
    refine r_icmp_ne (tgt := 164) dX9_goesOn_157 (by decide) ⟨by omega, by omega⟩ ⟨by omega, by omega⟩ (fun g157 => ?_) (fun g157 => absurd g157 (by omega))
    refine r_iconst dX9_goesOn_164 ?_
    refine r_zret dX9_goesOn_165 (nar_z (by omega)) ?_
    exact ⟨rfl, _, _, NC, _, (wt_mk rfl (by exact c87) (by exact c89) rfl (by exact c91) (fun j a b c d e => by simp only [va_up, a, b, c, d, e, if_false])), Or.inr (Or.inl ⟨tkE t le e, by rw [if_pos hb7], rfl, rs7, (kp7 9 (by decide)).trans h9, kp7 10 (by decide), p51, p52, rfl, by first | rfl | rw [hst]⟩), fun k h1 h2 h3 => kp7 k h2⟩
  · skip
    refine ⟨rfl, ?_⟩
    dsimp only [Option.toList, List.cons_append, List.nil_append]
    refine r_aload_n dX9_goesOn_133 rfl rfl ?_
    refine r_get (fs := RGL _ _) dX9_goesOn_134 fl_X9_84 (by decide) rfl rfl ?_
    refine r_iload_n dX9_goesOn_137 rfl rfl ?_
    refine r_ald dX9_goesOn_138 (by decide) rfl (by omega) (by omega) (by decide) ?_
    rw [Int.toNat_natCast, va_up_self]
    refine r_iconst dX9_goesOn_139 ?_
    refine r_icmp_ne (tgt := 150) dX9_goesOn_140 (by decide) ⟨by omega, by omega⟩ ⟨by omega, by omega⟩ (fun g140 => ?_) (fun g140 => absurd g140 (by omega))
    refine r_aload_n dX9_goesOn_150 rfl rfl ?_
    refine r_get (fs := RGL _ _) dX9_goesOn_151 fl_X9_84 (by decide) rfl rfl ?_
    refine r_iload_n dX9_goesOn_154 rfl rfl ?_
    refine r_ald dX9_goesOn_155 (by decide) rfl (by omega) (by omega) (by decide) ?_
    rw [Int.toNat_natCast, va_up_self]
    refine r_iconst dX9_goesOn_156 ?_
    refine r_icmp_ne (tgt := 164) dX9_goesOn_157 (by decide) ⟨by omega, by omega⟩ ⟨by omega, by omega⟩ (fun g157 => ?_) (fun g157 => absurd g157 (by omega))
    refine r_iconst dX9_goesOn_164 ?_
    refine r_zret dX9_goesOn_165 (nar_z (by omega)) ?_
    exact ⟨rfl, _, _, NC, _, (wt_mk rfl (by exact c87) (by exact c89) rfl (by exact c91) (fun j a b c d e => by simp only [va_up, a, b, c, d, e, if_false])), Or.inl ⟨1, tkS t le e, by rw [if_neg (by rw [hb7]; decide)], by decide, rfl, rfl, 0, rfl, by decide⟩, (fun k h1 h2 h3 => by (repeat rw [va_up_ne _ _ (by omega)]))⟩

theorem s_X9_goes15_2 {h : aH} {g : Nat → Int} {w : Int} (c68 : h 68 = RG g w) {trr : Nat → Int} (c72 : h 72 = .inl (0, 700, trr)) {NC : Nat → Int} (c87 : h 87 = .inl (0, 1500, NC)) {OP SG BS : Nat → Int} (c89 : h 89 = .inl (0, 13, OP)) (c90 : h 90 = .inl (0, 13, SG)) (c91 : h 91 = .inl (0, 13, BS)) {t : Nat → Int} (ht : ∀ j, -128 ≤ t j ∧ t j ≤ 127) {le : Nat} (hle : le ≤ 700) (htt : ∀ j, j < le → trr j = t j % 256) {e : Nat} (rs : RS t le e g w) (h9 : g 9 = 0) {nd : Int} (e1 : g 1 = nd) (hnd : 0 ≤ nd ∧ nd ≤ 9) {tp o : Nat} (e51 : g 51 = (tp : Int)) (htp : tp + 2 ≤ 1500) (e52 : g 52 = (o : Int)) (ho : 1 ≤ o ∧ o ≤ 12) (hop : OP (o - 1) = 15) (hst : SG (o - 1) = 2)  : mSem yX9_goesOn cX9_goesOn 4 (some .boolean) 5 0 0 [.ref 68] 97 h (GnQ t le (if wordAt t le e 22 = true then .inr (.inr (1, va_up NC tp 6, tkE t le e)) else .inl (1, tkS t le e)) h g NC OP SG BS tp o) noX := by
  have n1 : g 52 - 1 = ((o - 1 : Nat) : Int) := by omega
  have hsb := sort_B rs
  refine mSem_of (own := RX9) (name := "goesOn") pn_X9 rfl rfl (Nat.le_of_ble_eq_true rfl) ?_
  refine r_aload_n dX9_goesOn_0 rfl rfl ?_
  refine r_getR (z := (g 52)) dX9_goesOn_1 fl_X9_326 (by decide) c68 rfl ?_
  refine r_iconst dX9_goesOn_4 ?_
  refine r_isub dX9_goesOn_5 ?_
  rw [n1]
  refine r_istore_n (lv2 := [(0, _), (1, _)]) dX9_goesOn_6 rfl (by decide) rfl rfl ?_
  refine r_aload_n dX9_goesOn_7 rfl rfl ?_
  refine r_get (fs := RGL _ _) dX9_goesOn_8 fl_X9_81 (by decide) c68 rfl ?_
  refine r_iload_n dX9_goesOn_11 rfl rfl ?_
  refine r_ald dX9_goesOn_12 (by decide) c89 (by omega) (by omega) (by decide) ?_
  rw [Int.toNat_natCast, hop]
  refine r_istore_n (lv2 := [(0, _), (1, _), (2, _)]) dX9_goesOn_13 rfl (by decide) rfl rfl ?_
  refine r_iload_n dX9_goesOn_14 rfl rfl ?_
  refine r_bipush dX9_goesOn_15 rfl ?_
  refine r_icmp_ne (tgt := 31) dX9_goesOn_17 (by decide) ⟨by omega, by omega⟩ ⟨by omega, by omega⟩ (fun g17 => ?_) (fun g17 => absurd g17 (by omega))
  refine r_iload_n dX9_goesOn_31 rfl rfl ?_
  refine r_bipush dX9_goesOn_32 rfl ?_
  refine r_icmp_ne (tgt := 44) dX9_goesOn_34 (by decide) ⟨by omega, by omega⟩ ⟨by omega, by omega⟩ (fun g34 => ?_) (fun g34 => absurd g34 (by omega))
  refine r_iload_n dX9_goesOn_44 rfl rfl ?_
  refine r_bipush dX9_goesOn_45 rfl ?_
  refine r_icmp_ne (tgt := 57) dX9_goesOn_47 (by decide) ⟨by omega, by omega⟩ ⟨by omega, by omega⟩ (fun g47 => ?_) (fun g47 => absurd g47 (by omega))
  refine r_iload_n dX9_goesOn_57 rfl rfl ?_
  refine r_bipush dX9_goesOn_58 rfl ?_
  refine r_icmp_eq (tgt := 75) dX9_goesOn_60 (by decide) ⟨by omega, by omega⟩ ⟨by omega, by omega⟩ (fun g60 => absurd g60 (by omega)) (fun g60 => ?_)
  refine r_iload_n dX9_goesOn_63 rfl rfl ?_
  refine r_bipush dX9_goesOn_64 rfl ?_
  refine r_icmp_eq (tgt := 75) dX9_goesOn_66 (by decide) ⟨by omega, by omega⟩ ⟨by omega, by omega⟩ (fun g66 => absurd g66 (by omega)) (fun g66 => ?_)
  refine r_iload_n dX9_goesOn_69 rfl rfl ?_
  refine r_bipush dX9_goesOn_70 rfl ?_
  refine r_icmp_ne (tgt := 77) dX9_goesOn_72 (by decide) ⟨by omega, by omega⟩ ⟨by omega, by omega⟩ (fun g72 => ?_) (fun g72 => absurd g72 (by omega))
  refine r_aload_n dX9_goesOn_77 rfl rfl ?_
  refine r_get (fs := RGL _ _) dX9_goesOn_78 fl_X9_84 (by decide) c68 rfl ?_
  refine r_iload_n dX9_goesOn_81 rfl rfl ?_
  refine r_dup2 dX9_goesOn_82 rfl rfl ?_
  refine r_ald dX9_goesOn_83 (by decide) c90 (by omega) (by omega) (by decide) ?_
  rw [Int.toNat_natCast, hst]
  refine r_iconst dX9_goesOn_84 ?_
  refine r_iadd dX9_goesOn_85 ?_
  refine r_ast dX9_goesOn_86 (by decide) c90 (by omega) (by omega) (by decide) ?_
  try rw [Int.toNat_natCast]
  refine r_iload_n dX9_goesOn_87 rfl rfl ?_
  refine r_bipush dX9_goesOn_88 rfl ?_
  refine r_icmp_ne (tgt := 166) dX9_goesOn_90 (by decide) ⟨by omega, by omega⟩ ⟨by omega, by omega⟩ (fun g90 => absurd g90 (by omega)) (fun g90 => ?_)
  refine r_aload_n dX9_goesOn_93 rfl rfl ?_
  refine r_aload_n dX9_goesOn_94 rfl rfl ?_
  refine r_aload_n dX9_goesOn_95 rfl rfl ?_
  refine r_get (fs := RGL _ _) dX9_goesOn_96 fl_X9_84 (by decide) c68 rfl ?_
  refine r_iload_n dX9_goesOn_99 rfl rfl ?_
  refine r_ald dX9_goesOn_100 (by decide) rfl (by omega) (by omega) (by decide) ?_
  rw [Int.toNat_natCast, va_up_self]
  refine r_iconst dX9_goesOn_101 ?_
  refine r_icmp_ne (tgt := 110) dX9_goesOn_102 (by decide) ⟨by omega, by omega⟩ ⟨by omega, by omega⟩ (fun g102 => ?_) (fun g102 => absurd g102 (by omega))
  refine r_aload_n dX9_goesOn_110 rfl rfl ?_
  refine r_get (fs := RGL _ _) dX9_goesOn_111 fl_X9_84 (by decide) c68 rfl ?_
  refine r_iload_n dX9_goesOn_114 rfl rfl ?_
  refine r_ald dX9_goesOn_115 (by decide) rfl (by omega) (by omega) (by decide) ?_
  rw [Int.toNat_natCast, va_up_self]
  refine r_iconst dX9_goesOn_116 ?_
  refine r_icmp_ne (tgt := 125) dX9_goesOn_117 (by decide) ⟨by omega, by omega⟩ ⟨by omega, by omega⟩ (fun g117 => ?_) (fun g117 => absurd g117 (by omega))
  refine r_bipush dX9_goesOn_125 rfl ?_
  refine r_callV 68 [_] (s_X9_is (g := g) (k := 18) (by exact c68) (by exact c72) ht hle htt rs (by decide) (by decide)) dX9_goesOn_127 cs_X9_178 im_X9_is (by decide) c68 rfl (by decide) (by decide) (by decide) rfl rfl (Nat.le_of_ble_eq_true rfl) (fun _ _ _ q => q.elim) (fun v n2 h2 q => ?_)
  obtain ⟨rfl, rfl, hh⟩ := q
  obtain rfl := hh.symm
  refine ⟨rfl, ?_⟩
  dsimp only [Option.toList, List.cons_append, List.nil_append]
  rw [show wIx 18 = 22 from rfl]
  refine r_callV 68 [_] (s_X9_need (g := g) (b := wordAt t le e 22) (by exact c68) (by exact c72) ht hle htt rs h9) dX9_goesOn_130 cs_X9_181 im_X9_need (by decide) c68 rfl (by decide) (by decide) (by decide) rfl rfl (Nat.le_of_ble_eq_true rfl) (fun _ _ _ q => q.elim) (fun v n2 h2 q => ?_)
  obtain ⟨rfl, rfl, hq7⟩ := q
  rcases hq7 with ⟨hb7, g7, w7, rfl, rs7, kp7⟩ | ⟨hb7, rfl⟩
  · have p51 : g7 51 = (tp : Int) := (kp7 51 (by decide)).trans e51
    have p52 : g7 52 = (o : Int) := (kp7 52 (by decide)).trans e52
    refine ⟨rfl, ?_⟩
    dsimp only [Option.toList, List.cons_append, List.nil_append]
    refine r_aload_n dX9_goesOn_133 rfl rfl ?_
    refine r_get (fs := RGL _ _) dX9_goesOn_134 fl_X9_84 (by decide) rfl rfl ?_
    refine r_iload_n dX9_goesOn_137 rfl rfl ?_
    refine r_ald dX9_goesOn_138 (by decide) rfl (by omega) (by omega) (by decide) ?_
    rw [Int.toNat_natCast, va_up_self]
    refine r_iconst dX9_goesOn_139 ?_
    refine r_icmp_ne (tgt := 150) dX9_goesOn_140 (by decide) ⟨by omega, by omega⟩ ⟨by omega, by omega⟩ (fun g140 => absurd g140 (by omega)) (fun g140 => ?_)
    refine r_aload_n dX9_goesOn_143 rfl rfl ?_
    refine r_bipush dX9_goesOn_144 rfl ?_
    refine r_iconst dX9_goesOn_146 ?_
    refine r_callV 68 [_, _] (s_X9_works (g := g7) (tp := tp) (o := o) (by rfl) (by exact c87) p51 (by omega) p52 (by omega) ⟨by decide, by decide⟩) dX9_goesOn_147 cs_X9_341 im_X9_works (by decide) rfl rfl (by decide) (by decide) (by decide) rfl rfl (Nat.le_of_ble_eq_true rfl) (fun _ _ _ q => q.elim) (fun v n2 h2 q => ?_)
    obtain ⟨rfl, rfl, hh⟩ := q
    rw [if_neg (by decide)] at hh
    obtain rfl := hh.symm
    refine ⟨rfl, ?_⟩
    dsimp only [Option.toList, List.cons_append, List.nil_append]
    refine r_aload_n dX9_goesOn_150 rfl rfl ?_
    refine r_get (fs := RGL _ _) dX9_goesOn_151 fl_X9_84 (by decide) rfl rfl ?_
    refine r_iload_n dX9_goesOn_154 rfl rfl ?_
    refine r_ald dX9_goesOn_155 (by decide) rfl (by omega) (by omega) (by decide) ?_
    rw [Int.toNat_natCast, va_up_self]
    refine r_iconst dX9_goesOn_156 ?_
    refine r_icmp_ne (tgt := 164) dX9_goesOn_157 (by decide) ⟨by omega, by omega⟩ ⟨by omega, by omega⟩ (fun g157 => absurd g157 (by omega)) (fun g157 => ?_)
    refine r_iconst dX9_goesOn_160 ?_
    refine r_goto (tgt := 165) dX9_goesOn_161 (by decide) ?_
    refine r_zret dX9_goesOn_165 (nar_z (by omega)) ?_
    exact ⟨rfl, _, _, _, _, (wt_mk rfl rfl (by exact c89) rfl (by exact c91) (fun j a b c d e => by simp only [va_up, a, b, c, d, e, if_false])), Or.inr (Or.inr ⟨1, _, tkE t le e, by rw [if_pos hb7], rfl, RS_kp rs7 (fun k hk => by rw [va_up_ne _ _ (by omega), va_up_ne _ _ (by omega)]), (kp7 9 (by decide)).trans h9, kp7 10 (by decide), by show (tp : Int) + 1 = _; omega, rfl, rfl, fun j hj => va_up_ne _ _ (by omega)⟩), fun k h1 h2 h3 => by rw [va_up_ne _ _ (by omega), va_up_ne _ _ (by omega)]; exact kp7 k h2⟩
  · skip
    refine ⟨rfl, ?_⟩
    dsimp only [Option.toList, List.cons_append, List.nil_append]
    refine r_aload_n dX9_goesOn_133 rfl rfl ?_
    refine r_get (fs := RGL _ _) dX9_goesOn_134 fl_X9_84 (by decide) rfl rfl ?_
    refine r_iload_n dX9_goesOn_137 rfl rfl ?_
    refine r_ald dX9_goesOn_138 (by decide) rfl (by omega) (by omega) (by decide) ?_
    rw [Int.toNat_natCast, va_up_self]
    refine r_iconst dX9_goesOn_139 ?_
    refine r_icmp_ne (tgt := 150) dX9_goesOn_140 (by decide) ⟨by omega, by omega⟩ ⟨by omega, by omega⟩ (fun g140 => absurd g140 (by omega)) (fun g140 => ?_)
    refine r_aload_n dX9_goesOn_143 rfl rfl ?_
    refine r_bipush dX9_goesOn_144 rfl ?_
    refine r_iconst dX9_goesOn_146 ?_
    refine r_callV 68 [_, _] (s_X9_works (g := (va_up (va_up g 9 1) 10 (tkS t le e : Int))) (tp := tp) (o := o) (by rfl) (by exact c87) (by exact e51) (by omega) (by exact e52) (by omega) ⟨by decide, by decide⟩) dX9_goesOn_147 cs_X9_341 im_X9_works (by decide) rfl rfl (by decide) (by decide) (by decide) rfl rfl (Nat.le_of_ble_eq_true rfl) (fun _ _ _ q => q.elim) (fun v n2 h2 q => ?_)
    obtain ⟨rfl, rfl, hh⟩ := q
    rw [if_neg (by decide)] at hh
    obtain rfl := hh.symm
    refine ⟨rfl, ?_⟩
    dsimp only [Option.toList, List.cons_append, List.nil_append]
    refine r_aload_n dX9_goesOn_150 rfl rfl ?_
    refine r_get (fs := RGL _ _) dX9_goesOn_151 fl_X9_84 (by decide) rfl rfl ?_
    refine r_iload_n dX9_goesOn_154 rfl rfl ?_
    refine r_ald dX9_goesOn_155 (by decide) rfl (by omega) (by omega) (by decide) ?_
    rw [Int.toNat_natCast, va_up_self]
    refine r_iconst dX9_goesOn_156 ?_
    refine r_icmp_ne (tgt := 164) dX9_goesOn_157 (by decide) ⟨by omega, by omega⟩ ⟨by omega, by omega⟩ (fun g157 => absurd g157 (by omega)) (fun g157 => ?_)
    refine r_iconst dX9_goesOn_160 ?_
    refine r_goto (tgt := 165) dX9_goesOn_161 (by decide) ?_
    refine r_zret dX9_goesOn_165 (nar_z (by omega)) ?_
    exact ⟨rfl, _, _, _, _, (wt_mk rfl rfl (by exact c89) rfl (by exact c91) (fun j a b c d e => by simp only [va_up, a, b, c, d, e, if_false])), Or.inl ⟨1, tkS t le e, by rw [if_neg (by rw [hb7]; decide)], by decide, rfl, rfl, 1, rfl, by decide⟩, (fun k h1 h2 h3 => by (repeat rw [va_up_ne _ _ (by omega)]))⟩

theorem s_X9_goes13_0 {h : aH} {g : Nat → Int} {w : Int} (c68 : h 68 = RG g w) {trr : Nat → Int} (c72 : h 72 = .inl (0, 700, trr)) {NC : Nat → Int} (c87 : h 87 = .inl (0, 1500, NC)) {OP SG BS : Nat → Int} (c89 : h 89 = .inl (0, 13, OP)) (c90 : h 90 = .inl (0, 13, SG)) (c91 : h 91 = .inl (0, 13, BS)) {t : Nat → Int} (ht : ∀ j, -128 ≤ t j ∧ t j ≤ 127) {le : Nat} (hle : le ≤ 700) (htt : ∀ j, j < le → trr j = t j % 256) {e : Nat} (rs : RS t le e g w) (h9 : g 9 = 0) {nd : Int} (e1 : g 1 = nd) (hnd : 0 ≤ nd ∧ nd ≤ 9) {tp o : Nat} (e51 : g 51 = (tp : Int)) (htp : tp + 2 ≤ 1500) (e52 : g 52 = (o : Int)) (ho : 1 ≤ o ∧ o ≤ 12) (hop : OP (o - 1) = 13) (hst : SG (o - 1) = 0)  : mSem yX9_goesOn cX9_goesOn 4 (some .boolean) 5 0 0 [.ref 68] 97 h (GnQ t le (if signAt t le e 44 = true then .inr (.inl (tkE t le e)) else .inl (1, tkS t le e)) h g NC OP SG BS tp o) noX := by
  have n1 : g 52 - 1 = ((o - 1 : Nat) : Int) := by omega
  have hsb := sort_B rs
  refine mSem_of (own := RX9) (name := "goesOn") pn_X9 rfl rfl (Nat.le_of_ble_eq_true rfl) ?_
  refine r_aload_n dX9_goesOn_0 rfl rfl ?_
  refine r_getR (z := (g 52)) dX9_goesOn_1 fl_X9_326 (by decide) c68 rfl ?_
  refine r_iconst dX9_goesOn_4 ?_
  refine r_isub dX9_goesOn_5 ?_
  rw [n1]
  refine r_istore_n (lv2 := [(0, _), (1, _)]) dX9_goesOn_6 rfl (by decide) rfl rfl ?_
  refine r_aload_n dX9_goesOn_7 rfl rfl ?_
  refine r_get (fs := RGL _ _) dX9_goesOn_8 fl_X9_81 (by decide) c68 rfl ?_
  refine r_iload_n dX9_goesOn_11 rfl rfl ?_
  refine r_ald dX9_goesOn_12 (by decide) c89 (by omega) (by omega) (by decide) ?_
  rw [Int.toNat_natCast, hop]
  refine r_istore_n (lv2 := [(0, _), (1, _), (2, _)]) dX9_goesOn_13 rfl (by decide) rfl rfl ?_
  refine r_iload_n dX9_goesOn_14 rfl rfl ?_
  refine r_bipush dX9_goesOn_15 rfl ?_
  refine r_icmp_ne (tgt := 31) dX9_goesOn_17 (by decide) ⟨by omega, by omega⟩ ⟨by omega, by omega⟩ (fun g17 => ?_) (fun g17 => absurd g17 (by omega))
  refine r_iload_n dX9_goesOn_31 rfl rfl ?_
  refine r_bipush dX9_goesOn_32 rfl ?_
  refine r_icmp_ne (tgt := 44) dX9_goesOn_34 (by decide) ⟨by omega, by omega⟩ ⟨by omega, by omega⟩ (fun g34 => ?_) (fun g34 => absurd g34 (by omega))
  refine r_iload_n dX9_goesOn_44 rfl rfl ?_
  refine r_bipush dX9_goesOn_45 rfl ?_
  refine r_icmp_ne (tgt := 57) dX9_goesOn_47 (by decide) ⟨by omega, by omega⟩ ⟨by omega, by omega⟩ (fun g47 => ?_) (fun g47 => absurd g47 (by omega))
  refine r_iload_n dX9_goesOn_57 rfl rfl ?_
  refine r_bipush dX9_goesOn_58 rfl ?_
  refine r_icmp_eq (tgt := 75) dX9_goesOn_60 (by decide) ⟨by omega, by omega⟩ ⟨by omega, by omega⟩ (fun g60 => absurd g60 (by omega)) (fun g60 => ?_)
  refine r_iload_n dX9_goesOn_63 rfl rfl ?_
  refine r_bipush dX9_goesOn_64 rfl ?_
  refine r_icmp_eq (tgt := 75) dX9_goesOn_66 (by decide) ⟨by omega, by omega⟩ ⟨by omega, by omega⟩ (fun g66 => absurd g66 (by omega)) (fun g66 => ?_)
  refine r_iload_n dX9_goesOn_69 rfl rfl ?_
  refine r_bipush dX9_goesOn_70 rfl ?_
  refine r_icmp_ne (tgt := 77) dX9_goesOn_72 (by decide) ⟨by omega, by omega⟩ ⟨by omega, by omega⟩ (fun g72 => ?_) (fun g72 => absurd g72 (by omega))
  refine r_aload_n dX9_goesOn_77 rfl rfl ?_
  refine r_get (fs := RGL _ _) dX9_goesOn_78 fl_X9_84 (by decide) c68 rfl ?_
  refine r_iload_n dX9_goesOn_81 rfl rfl ?_
  refine r_dup2 dX9_goesOn_82 rfl rfl ?_
  refine r_ald dX9_goesOn_83 (by decide) c90 (by omega) (by omega) (by decide) ?_
  rw [Int.toNat_natCast, hst]
  refine r_iconst dX9_goesOn_84 ?_
  refine r_iadd dX9_goesOn_85 ?_
  refine r_ast dX9_goesOn_86 (by decide) c90 (by omega) (by omega) (by decide) ?_
  try rw [Int.toNat_natCast]
  refine r_iload_n dX9_goesOn_87 rfl rfl ?_
  refine r_bipush dX9_goesOn_88 rfl ?_
  refine r_icmp_ne (tgt := 166) dX9_goesOn_90 (by decide) ⟨by omega, by omega⟩ ⟨by omega, by omega⟩ (fun g90 => ?_) (fun g90 => absurd g90 (by omega))
  refine r_iload_n dX9_goesOn_166 rfl rfl ?_
  refine r_bipush dX9_goesOn_167 rfl ?_
  refine r_icmp_ne (tgt := 181) dX9_goesOn_169 (by decide) ⟨by omega, by omega⟩ ⟨by omega, by omega⟩ (fun g169 => ?_) (fun g169 => absurd g169 (by omega))
  refine r_aload_n dX9_goesOn_181 rfl rfl ?_
  refine r_get (fs := RGL _ _) dX9_goesOn_182 fl_X9_84 (by decide) c68 rfl ?_
  refine r_iload_n dX9_goesOn_185 rfl rfl ?_
  refine r_ald dX9_goesOn_186 (by decide) rfl (by omega) (by omega) (by decide) ?_
  rw [Int.toNat_natCast, va_up_self]
  refine r_iconst dX9_goesOn_187 ?_
  refine r_icmp_ne (tgt := 195) dX9_goesOn_188 (by decide) ⟨by omega, by omega⟩ ⟨by omega, by omega⟩ (fun g188 => absurd g188 (by omega)) (fun g188 => ?_)
  refine r_iconst dX9_goesOn_191 ?_
  refine r_goto (tgt := 196) dX9_goesOn_192 (by decide) ?_
  refine r_istore_n (lv2 := [(0, _), (1, _), (2, _), (3, _)]) dX9_goesOn_196 rfl (by decide) rfl rfl ?_
  refine r_aload_n dX9_goesOn_197 rfl rfl ?_
  refine r_iload_n dX9_goesOn_198 rfl rfl ?_
  refine r_if_eq (tgt := 211) dX9_goesOn_199 (by decide) ⟨by omega, by omega⟩ (fun g199 => absurd g199 (by omega)) (fun g199 => ?_)
  refine r_aload_n dX9_goesOn_202 rfl rfl ?_
  refine r_bipush dX9_goesOn_203 rfl ?_
  refine r_callV 68 [_] (s_X9_isSign (g := g) (by exact c68) (by exact c72) ht hle htt rs (by decide)) dX9_goesOn_205 cs_X9_329 im_X9_isSign (by decide) c68 rfl (by decide) (by decide) (by decide) rfl rfl (Nat.le_of_ble_eq_true rfl) (fun _ _ _ q => q.elim) (fun v n2 h2 q => ?_)
  obtain ⟨rfl, rfl, hh⟩ := q
  obtain rfl := hh.symm
  refine ⟨rfl, ?_⟩
  dsimp only [Option.toList, List.cons_append, List.nil_append]
  refine r_goto (tgt := 217) dX9_goesOn_208 (by decide) ?_
  refine r_callV 68 [_] (s_X9_need (g := g) (b := signAt t le e 44) (by exact c68) (by exact c72) ht hle htt rs h9) dX9_goesOn_217 cs_X9_181 im_X9_need (by decide) c68 rfl (by decide) (by decide) (by decide) rfl rfl (Nat.le_of_ble_eq_true rfl) (fun _ _ _ q => q.elim) (fun v n2 h2 q => ?_)
  obtain ⟨rfl, rfl, hq7⟩ := q
  rcases hq7 with ⟨hb7, g7, w7, rfl, rs7, kp7⟩ | ⟨hb7, rfl⟩
  · have p51 : g7 51 = (tp : Int) := (kp7 51 (by decide)).trans e51
    have p52 : g7 52 = (o : Int) := (kp7 52 (by decide)).trans e52
    refine ⟨rfl, ?_⟩
    dsimp only [Option.toList, List.cons_append, List.nil_append]
    refine r_iload_n dX9_goesOn_220 rfl rfl ?_
    refine r_if_eq (tgt := 226) dX9_goesOn_221 (by decide) ⟨by omega, by omega⟩ (fun g221 => absurd g221 (by omega)) (fun g221 => ?_)
    refine r_iconst dX9_goesOn_224 ?_
    refine r_zret dX9_goesOn_225 (nar_z (by omega)) ?_
    exact ⟨rfl, _, _, NC, _, (wt_mk rfl (by exact c87) (by exact c89) rfl (by exact c91) (fun j a b c d e => by simp only [va_up, a, b, c, d, e, if_false])), Or.inr (Or.inl ⟨tkE t le e, by rw [if_pos hb7], rfl, rs7, (kp7 9 (by decide)).trans h9, kp7 10 (by decide), p51, p52, rfl, by first | rfl | rw [hst]⟩), fun k h1 h2 h3 => kp7 k h2⟩
  · skip
    refine ⟨rfl, ?_⟩
    dsimp only [Option.toList, List.cons_append, List.nil_append]
    refine r_iload_n dX9_goesOn_220 rfl rfl ?_
    refine r_if_eq (tgt := 226) dX9_goesOn_221 (by decide) ⟨by omega, by omega⟩ (fun g221 => absurd g221 (by omega)) (fun g221 => ?_)
    refine r_iconst dX9_goesOn_224 ?_
    refine r_zret dX9_goesOn_225 (nar_z (by omega)) ?_
    exact ⟨rfl, _, _, NC, _, (wt_mk rfl (by exact c87) (by exact c89) rfl (by exact c91) (fun j a b c d e => by simp only [va_up, a, b, c, d, e, if_false])), Or.inl ⟨1, tkS t le e, by rw [if_neg (by rw [hb7]; decide)], by decide, rfl, rfl, 0, rfl, by decide⟩, (fun k h1 h2 h3 => by (repeat rw [va_up_ne _ _ (by omega)]))⟩

theorem s_X9_goes13_1 {h : aH} {g : Nat → Int} {w : Int} (c68 : h 68 = RG g w) {trr : Nat → Int} (c72 : h 72 = .inl (0, 700, trr)) {NC : Nat → Int} (c87 : h 87 = .inl (0, 1500, NC)) {OP SG BS : Nat → Int} (c89 : h 89 = .inl (0, 13, OP)) (c90 : h 90 = .inl (0, 13, SG)) (c91 : h 91 = .inl (0, 13, BS)) {t : Nat → Int} (ht : ∀ j, -128 ≤ t j ∧ t j ≤ 127) {le : Nat} (hle : le ≤ 700) (htt : ∀ j, j < le → trr j = t j % 256) {e : Nat} (rs : RS t le e g w) (h9 : g 9 = 0) {nd : Int} (e1 : g 1 = nd) (hnd : 0 ≤ nd ∧ nd ≤ 9) {tp o : Nat} (e51 : g 51 = (tp : Int)) (htp : tp + 2 ≤ 1500) (e52 : g 52 = (o : Int)) (ho : 1 ≤ o ∧ o ≤ 12) (hop : OP (o - 1) = 13) (hst : SG (o - 1) = 1)  : mSem yX9_goesOn cX9_goesOn 4 (some .boolean) 5 0 0 [.ref 68] 97 h (GnQ t le (if signAt t le e 41 = true then .inr (.inr (1, va_up NC tp 4, tkE t le e)) else .inl (1, tkS t le e)) h g NC OP SG BS tp o) noX := by
  have n1 : g 52 - 1 = ((o - 1 : Nat) : Int) := by omega
  have hsb := sort_B rs
  refine mSem_of (own := RX9) (name := "goesOn") pn_X9 rfl rfl (Nat.le_of_ble_eq_true rfl) ?_
  refine r_aload_n dX9_goesOn_0 rfl rfl ?_
  refine r_getR (z := (g 52)) dX9_goesOn_1 fl_X9_326 (by decide) c68 rfl ?_
  refine r_iconst dX9_goesOn_4 ?_
  refine r_isub dX9_goesOn_5 ?_
  rw [n1]
  refine r_istore_n (lv2 := [(0, _), (1, _)]) dX9_goesOn_6 rfl (by decide) rfl rfl ?_
  refine r_aload_n dX9_goesOn_7 rfl rfl ?_
  refine r_get (fs := RGL _ _) dX9_goesOn_8 fl_X9_81 (by decide) c68 rfl ?_
  refine r_iload_n dX9_goesOn_11 rfl rfl ?_
  refine r_ald dX9_goesOn_12 (by decide) c89 (by omega) (by omega) (by decide) ?_
  rw [Int.toNat_natCast, hop]
  refine r_istore_n (lv2 := [(0, _), (1, _), (2, _)]) dX9_goesOn_13 rfl (by decide) rfl rfl ?_
  refine r_iload_n dX9_goesOn_14 rfl rfl ?_
  refine r_bipush dX9_goesOn_15 rfl ?_
  refine r_icmp_ne (tgt := 31) dX9_goesOn_17 (by decide) ⟨by omega, by omega⟩ ⟨by omega, by omega⟩ (fun g17 => ?_) (fun g17 => absurd g17 (by omega))
  refine r_iload_n dX9_goesOn_31 rfl rfl ?_
  refine r_bipush dX9_goesOn_32 rfl ?_
  refine r_icmp_ne (tgt := 44) dX9_goesOn_34 (by decide) ⟨by omega, by omega⟩ ⟨by omega, by omega⟩ (fun g34 => ?_) (fun g34 => absurd g34 (by omega))
  refine r_iload_n dX9_goesOn_44 rfl rfl ?_
  refine r_bipush dX9_goesOn_45 rfl ?_
  refine r_icmp_ne (tgt := 57) dX9_goesOn_47 (by decide) ⟨by omega, by omega⟩ ⟨by omega, by omega⟩ (fun g47 => ?_) (fun g47 => absurd g47 (by omega))
  refine r_iload_n dX9_goesOn_57 rfl rfl ?_
  refine r_bipush dX9_goesOn_58 rfl ?_
  refine r_icmp_eq (tgt := 75) dX9_goesOn_60 (by decide) ⟨by omega, by omega⟩ ⟨by omega, by omega⟩ (fun g60 => absurd g60 (by omega)) (fun g60 => ?_)
  refine r_iload_n dX9_goesOn_63 rfl rfl ?_
  refine r_bipush dX9_goesOn_64 rfl ?_
  refine r_icmp_eq (tgt := 75) dX9_goesOn_66 (by decide) ⟨by omega, by omega⟩ ⟨by omega, by omega⟩ (fun g66 => absurd g66 (by omega)) (fun g66 => ?_)
  refine r_iload_n dX9_goesOn_69 rfl rfl ?_
  refine r_bipush dX9_goesOn_70 rfl ?_
  refine r_icmp_ne (tgt := 77) dX9_goesOn_72 (by decide) ⟨by omega, by omega⟩ ⟨by omega, by omega⟩ (fun g72 => ?_) (fun g72 => absurd g72 (by omega))
  refine r_aload_n dX9_goesOn_77 rfl rfl ?_
  refine r_get (fs := RGL _ _) dX9_goesOn_78 fl_X9_84 (by decide) c68 rfl ?_
  refine r_iload_n dX9_goesOn_81 rfl rfl ?_
  refine r_dup2 dX9_goesOn_82 rfl rfl ?_
  refine r_ald dX9_goesOn_83 (by decide) c90 (by omega) (by omega) (by decide) ?_
  rw [Int.toNat_natCast, hst]
  refine r_iconst dX9_goesOn_84 ?_
  refine r_iadd dX9_goesOn_85 ?_
  refine r_ast dX9_goesOn_86 (by decide) c90 (by omega) (by omega) (by decide) ?_
  try rw [Int.toNat_natCast]
  refine r_iload_n dX9_goesOn_87 rfl rfl ?_
  refine r_bipush dX9_goesOn_88 rfl ?_
  refine r_icmp_ne (tgt := 166) dX9_goesOn_90 (by decide) ⟨by omega, by omega⟩ ⟨by omega, by omega⟩ (fun g90 => ?_) (fun g90 => absurd g90 (by omega))
  refine r_iload_n dX9_goesOn_166 rfl rfl ?_
  refine r_bipush dX9_goesOn_167 rfl ?_
  refine r_icmp_ne (tgt := 181) dX9_goesOn_169 (by decide) ⟨by omega, by omega⟩ ⟨by omega, by omega⟩ (fun g169 => ?_) (fun g169 => absurd g169 (by omega))
  refine r_aload_n dX9_goesOn_181 rfl rfl ?_
  refine r_get (fs := RGL _ _) dX9_goesOn_182 fl_X9_84 (by decide) c68 rfl ?_
  refine r_iload_n dX9_goesOn_185 rfl rfl ?_
  refine r_ald dX9_goesOn_186 (by decide) rfl (by omega) (by omega) (by decide) ?_
  rw [Int.toNat_natCast, va_up_self]
  refine r_iconst dX9_goesOn_187 ?_
  refine r_icmp_ne (tgt := 195) dX9_goesOn_188 (by decide) ⟨by omega, by omega⟩ ⟨by omega, by omega⟩ (fun g188 => ?_) (fun g188 => absurd g188 (by omega))
  refine r_iconst dX9_goesOn_195 ?_
  refine r_istore_n (lv2 := [(0, _), (1, _), (2, _), (3, _)]) dX9_goesOn_196 rfl (by decide) rfl rfl ?_
  refine r_aload_n dX9_goesOn_197 rfl rfl ?_
  refine r_iload_n dX9_goesOn_198 rfl rfl ?_
  refine r_if_eq (tgt := 211) dX9_goesOn_199 (by decide) ⟨by omega, by omega⟩ (fun g199 => ?_) (fun g199 => absurd g199 (by omega))
  refine r_aload_n dX9_goesOn_211 rfl rfl ?_
  refine r_bipush dX9_goesOn_212 rfl ?_
  refine r_callV 68 [_] (s_X9_isSign (g := g) (by exact c68) (by exact c72) ht hle htt rs (by decide)) dX9_goesOn_214 cs_X9_329 im_X9_isSign (by decide) c68 rfl (by decide) (by decide) (by decide) rfl rfl (Nat.le_of_ble_eq_true rfl) (fun _ _ _ q => q.elim) (fun v n2 h2 q => ?_)
  obtain ⟨rfl, rfl, hh⟩ := q
  obtain rfl := hh.symm
  refine ⟨rfl, ?_⟩
  dsimp only [Option.toList, List.cons_append, List.nil_append]
  refine r_callV 68 [_] (s_X9_need (g := g) (b := signAt t le e 41) (by exact c68) (by exact c72) ht hle htt rs h9) dX9_goesOn_217 cs_X9_181 im_X9_need (by decide) c68 rfl (by decide) (by decide) (by decide) rfl rfl (Nat.le_of_ble_eq_true rfl) (fun _ _ _ q => q.elim) (fun v n2 h2 q => ?_)
  obtain ⟨rfl, rfl, hq7⟩ := q
  rcases hq7 with ⟨hb7, g7, w7, rfl, rs7, kp7⟩ | ⟨hb7, rfl⟩
  · have p51 : g7 51 = (tp : Int) := (kp7 51 (by decide)).trans e51
    have p52 : g7 52 = (o : Int) := (kp7 52 (by decide)).trans e52
    refine ⟨rfl, ?_⟩
    dsimp only [Option.toList, List.cons_append, List.nil_append]
    refine r_iload_n dX9_goesOn_220 rfl rfl ?_
    refine r_if_eq (tgt := 226) dX9_goesOn_221 (by decide) ⟨by omega, by omega⟩ (fun g221 => ?_) (fun g221 => absurd g221 (by omega))
    refine r_aload_n dX9_goesOn_226 rfl rfl ?_
    refine r_iload_n dX9_goesOn_227 rfl rfl ?_
    refine r_bipush dX9_goesOn_228 rfl ?_
    refine r_icmp_ne (tgt := 237) dX9_goesOn_230 (by decide) ⟨by omega, by omega⟩ ⟨by omega, by omega⟩ (fun g230 => ?_) (fun g230 => absurd g230 (by omega))
    refine r_iload_n dX9_goesOn_237 rfl rfl ?_
    refine r_bipush dX9_goesOn_238 rfl ?_
    refine r_icmp_ne (tgt := 247) dX9_goesOn_240 (by decide) ⟨by omega, by omega⟩ ⟨by omega, by omega⟩ (fun g240 => absurd g240 (by omega)) (fun g240 => ?_)
    refine r_iconst dX9_goesOn_243 ?_
    refine r_goto (tgt := 249) dX9_goesOn_244 (by decide) ?_
    refine r_aload_n dX9_goesOn_249 rfl rfl ?_
    refine r_get (fs := RGL _ _) dX9_goesOn_250 fl_X9_84 (by decide) rfl rfl ?_
    refine r_iload_n dX9_goesOn_253 rfl rfl ?_
    refine r_ald dX9_goesOn_254 (by decide) rfl (by omega) (by omega) (by decide) ?_
    rw [Int.toNat_natCast, va_up_self]
    refine r_callV 68 [_, _] (s_X9_works (g := g7) (tp := tp) (o := o) (by rfl) (by exact c87) p51 (by omega) p52 (by omega) ⟨by decide, by decide⟩) dX9_goesOn_255 cs_X9_341 im_X9_works (by decide) rfl rfl (by decide) (by decide) (by decide) rfl rfl (Nat.le_of_ble_eq_true rfl) (fun _ _ _ q => q.elim) (fun v n2 h2 q => ?_)
    obtain ⟨rfl, rfl, hh⟩ := q
    rw [if_neg (by decide)] at hh
    obtain rfl := hh.symm
    refine ⟨rfl, ?_⟩
    dsimp only [Option.toList, List.cons_append, List.nil_append]
    refine r_iconst dX9_goesOn_258 ?_
    refine r_zret dX9_goesOn_259 (nar_z (by omega)) ?_
    exact ⟨rfl, _, _, _, _, (wt_mk rfl rfl (by exact c89) rfl (by exact c91) (fun j a b c d e => by simp only [va_up, a, b, c, d, e, if_false])), Or.inr (Or.inr ⟨1, _, tkE t le e, by rw [if_pos hb7], rfl, RS_kp rs7 (fun k hk => by rw [va_up_ne _ _ (by omega), va_up_ne _ _ (by omega)]), (kp7 9 (by decide)).trans h9, kp7 10 (by decide), by show (tp : Int) + 1 = _; omega, rfl, rfl, fun j hj => va_up_ne _ _ (by omega)⟩), fun k h1 h2 h3 => by rw [va_up_ne _ _ (by omega), va_up_ne _ _ (by omega)]; exact kp7 k h2⟩
  · skip
    refine ⟨rfl, ?_⟩
    dsimp only [Option.toList, List.cons_append, List.nil_append]
    refine r_iload_n dX9_goesOn_220 rfl rfl ?_
    refine r_if_eq (tgt := 226) dX9_goesOn_221 (by decide) ⟨by omega, by omega⟩ (fun g221 => ?_) (fun g221 => absurd g221 (by omega))
    refine r_aload_n dX9_goesOn_226 rfl rfl ?_
    refine r_iload_n dX9_goesOn_227 rfl rfl ?_
    refine r_bipush dX9_goesOn_228 rfl ?_
    refine r_icmp_ne (tgt := 237) dX9_goesOn_230 (by decide) ⟨by omega, by omega⟩ ⟨by omega, by omega⟩ (fun g230 => ?_) (fun g230 => absurd g230 (by omega))
    refine r_iload_n dX9_goesOn_237 rfl rfl ?_
    refine r_bipush dX9_goesOn_238 rfl ?_
    refine r_icmp_ne (tgt := 247) dX9_goesOn_240 (by decide) ⟨by omega, by omega⟩ ⟨by omega, by omega⟩ (fun g240 => absurd g240 (by omega)) (fun g240 => ?_)
    refine r_iconst dX9_goesOn_243 ?_
    refine r_goto (tgt := 249) dX9_goesOn_244 (by decide) ?_
    refine r_aload_n dX9_goesOn_249 rfl rfl ?_
    refine r_get (fs := RGL _ _) dX9_goesOn_250 fl_X9_84 (by decide) rfl rfl ?_
    refine r_iload_n dX9_goesOn_253 rfl rfl ?_
    refine r_ald dX9_goesOn_254 (by decide) rfl (by omega) (by omega) (by decide) ?_
    rw [Int.toNat_natCast, va_up_self]
    refine r_callV 68 [_, _] (s_X9_works (g := (va_up (va_up g 9 1) 10 (tkS t le e : Int))) (tp := tp) (o := o) (by rfl) (by exact c87) (by exact e51) (by omega) (by exact e52) (by omega) ⟨by decide, by decide⟩) dX9_goesOn_255 cs_X9_341 im_X9_works (by decide) rfl rfl (by decide) (by decide) (by decide) rfl rfl (Nat.le_of_ble_eq_true rfl) (fun _ _ _ q => q.elim) (fun v n2 h2 q => ?_)
    obtain ⟨rfl, rfl, hh⟩ := q
    rw [if_neg (by decide)] at hh
    obtain rfl := hh.symm
    refine ⟨rfl, ?_⟩
    dsimp only [Option.toList, List.cons_append, List.nil_append]
    refine r_iconst dX9_goesOn_258 ?_
    refine r_zret dX9_goesOn_259 (nar_z (by omega)) ?_
    exact ⟨rfl, _, _, _, _, (wt_mk rfl rfl (by exact c89) rfl (by exact c91) (fun j a b c d e => by simp only [va_up, a, b, c, d, e, if_false])), Or.inl ⟨1, tkS t le e, by rw [if_neg (by rw [hb7]; decide)], by decide, rfl, rfl, 1, rfl, by decide⟩, (fun k h1 h2 h3 => by (repeat rw [va_up_ne _ _ (by omega)]))⟩

theorem s_X9_goes22_0 {h : aH} {g : Nat → Int} {w : Int} (c68 : h 68 = RG g w) {trr : Nat → Int} (c72 : h 72 = .inl (0, 700, trr)) {NC : Nat → Int} (c87 : h 87 = .inl (0, 1500, NC)) {OP SG BS : Nat → Int} (c89 : h 89 = .inl (0, 13, OP)) (c90 : h 90 = .inl (0, 13, SG)) (c91 : h 91 = .inl (0, 13, BS)) {t : Nat → Int} (ht : ∀ j, -128 ≤ t j ∧ t j ≤ 127) {le : Nat} (hle : le ≤ 700) (htt : ∀ j, j < le → trr j = t j % 256) {e : Nat} (rs : RS t le e g w) (h9 : g 9 = 0) {nd : Int} (e1 : g 1 = nd) (hnd : 0 ≤ nd ∧ nd ≤ 9) {tp o : Nat} (e51 : g 51 = (tp : Int)) (htp : tp + 2 ≤ 1500) (e52 : g 52 = (o : Int)) (ho : 1 ≤ o ∧ o ≤ 12) (hop : OP (o - 1) = 22) (hst : SG (o - 1) = 0)  : mSem yX9_goesOn cX9_goesOn 4 (some .boolean) 5 0 0 [.ref 68] 97 h (GnQ t le (if signAt t le e 44 = true then .inr (.inl (tkE t le e)) else .inl (1, tkS t le e)) h g NC OP SG BS tp o) noX := by
  have n1 : g 52 - 1 = ((o - 1 : Nat) : Int) := by omega
  have hsb := sort_B rs
  refine mSem_of (own := RX9) (name := "goesOn") pn_X9 rfl rfl (Nat.le_of_ble_eq_true rfl) ?_
  refine r_aload_n dX9_goesOn_0 rfl rfl ?_
  refine r_getR (z := (g 52)) dX9_goesOn_1 fl_X9_326 (by decide) c68 rfl ?_
  refine r_iconst dX9_goesOn_4 ?_
  refine r_isub dX9_goesOn_5 ?_
  rw [n1]
  refine r_istore_n (lv2 := [(0, _), (1, _)]) dX9_goesOn_6 rfl (by decide) rfl rfl ?_
  refine r_aload_n dX9_goesOn_7 rfl rfl ?_
  refine r_get (fs := RGL _ _) dX9_goesOn_8 fl_X9_81 (by decide) c68 rfl ?_
  refine r_iload_n dX9_goesOn_11 rfl rfl ?_
  refine r_ald dX9_goesOn_12 (by decide) c89 (by omega) (by omega) (by decide) ?_
  rw [Int.toNat_natCast, hop]
  refine r_istore_n (lv2 := [(0, _), (1, _), (2, _)]) dX9_goesOn_13 rfl (by decide) rfl rfl ?_
  refine r_iload_n dX9_goesOn_14 rfl rfl ?_
  refine r_bipush dX9_goesOn_15 rfl ?_
  refine r_icmp_ne (tgt := 31) dX9_goesOn_17 (by decide) ⟨by omega, by omega⟩ ⟨by omega, by omega⟩ (fun g17 => ?_) (fun g17 => absurd g17 (by omega))
  refine r_iload_n dX9_goesOn_31 rfl rfl ?_
  refine r_bipush dX9_goesOn_32 rfl ?_
  refine r_icmp_ne (tgt := 44) dX9_goesOn_34 (by decide) ⟨by omega, by omega⟩ ⟨by omega, by omega⟩ (fun g34 => ?_) (fun g34 => absurd g34 (by omega))
  refine r_iload_n dX9_goesOn_44 rfl rfl ?_
  refine r_bipush dX9_goesOn_45 rfl ?_
  refine r_icmp_ne (tgt := 57) dX9_goesOn_47 (by decide) ⟨by omega, by omega⟩ ⟨by omega, by omega⟩ (fun g47 => ?_) (fun g47 => absurd g47 (by omega))
  refine r_iload_n dX9_goesOn_57 rfl rfl ?_
  refine r_bipush dX9_goesOn_58 rfl ?_
  refine r_icmp_eq (tgt := 75) dX9_goesOn_60 (by decide) ⟨by omega, by omega⟩ ⟨by omega, by omega⟩ (fun g60 => absurd g60 (by omega)) (fun g60 => ?_)
  refine r_iload_n dX9_goesOn_63 rfl rfl ?_
  refine r_bipush dX9_goesOn_64 rfl ?_
  refine r_icmp_eq (tgt := 75) dX9_goesOn_66 (by decide) ⟨by omega, by omega⟩ ⟨by omega, by omega⟩ (fun g66 => absurd g66 (by omega)) (fun g66 => ?_)
  refine r_iload_n dX9_goesOn_69 rfl rfl ?_
  refine r_bipush dX9_goesOn_70 rfl ?_
  refine r_icmp_ne (tgt := 77) dX9_goesOn_72 (by decide) ⟨by omega, by omega⟩ ⟨by omega, by omega⟩ (fun g72 => ?_) (fun g72 => absurd g72 (by omega))
  refine r_aload_n dX9_goesOn_77 rfl rfl ?_
  refine r_get (fs := RGL _ _) dX9_goesOn_78 fl_X9_84 (by decide) c68 rfl ?_
  refine r_iload_n dX9_goesOn_81 rfl rfl ?_
  refine r_dup2 dX9_goesOn_82 rfl rfl ?_
  refine r_ald dX9_goesOn_83 (by decide) c90 (by omega) (by omega) (by decide) ?_
  rw [Int.toNat_natCast, hst]
  refine r_iconst dX9_goesOn_84 ?_
  refine r_iadd dX9_goesOn_85 ?_
  refine r_ast dX9_goesOn_86 (by decide) c90 (by omega) (by omega) (by decide) ?_
  try rw [Int.toNat_natCast]
  refine r_iload_n dX9_goesOn_87 rfl rfl ?_
  refine r_bipush dX9_goesOn_88 rfl ?_
  refine r_icmp_ne (tgt := 166) dX9_goesOn_90 (by decide) ⟨by omega, by omega⟩ ⟨by omega, by omega⟩ (fun g90 => ?_) (fun g90 => absurd g90 (by omega))
  refine r_iload_n dX9_goesOn_166 rfl rfl ?_
  refine r_bipush dX9_goesOn_167 rfl ?_
  refine r_icmp_ne (tgt := 181) dX9_goesOn_169 (by decide) ⟨by omega, by omega⟩ ⟨by omega, by omega⟩ (fun g169 => ?_) (fun g169 => absurd g169 (by omega))
  refine r_aload_n dX9_goesOn_181 rfl rfl ?_
  refine r_get (fs := RGL _ _) dX9_goesOn_182 fl_X9_84 (by decide) c68 rfl ?_
  refine r_iload_n dX9_goesOn_185 rfl rfl ?_
  refine r_ald dX9_goesOn_186 (by decide) rfl (by omega) (by omega) (by decide) ?_
  rw [Int.toNat_natCast, va_up_self]
  refine r_iconst dX9_goesOn_187 ?_
  refine r_icmp_ne (tgt := 195) dX9_goesOn_188 (by decide) ⟨by omega, by omega⟩ ⟨by omega, by omega⟩ (fun g188 => absurd g188 (by omega)) (fun g188 => ?_)
  refine r_iconst dX9_goesOn_191 ?_
  refine r_goto (tgt := 196) dX9_goesOn_192 (by decide) ?_
  refine r_istore_n (lv2 := [(0, _), (1, _), (2, _), (3, _)]) dX9_goesOn_196 rfl (by decide) rfl rfl ?_
  refine r_aload_n dX9_goesOn_197 rfl rfl ?_
  refine r_iload_n dX9_goesOn_198 rfl rfl ?_
  refine r_if_eq (tgt := 211) dX9_goesOn_199 (by decide) ⟨by omega, by omega⟩ (fun g199 => absurd g199 (by omega)) (fun g199 => ?_)
  refine r_aload_n dX9_goesOn_202 rfl rfl ?_
  refine r_bipush dX9_goesOn_203 rfl ?_
  refine r_callV 68 [_] (s_X9_isSign (g := g) (by exact c68) (by exact c72) ht hle htt rs (by decide)) dX9_goesOn_205 cs_X9_329 im_X9_isSign (by decide) c68 rfl (by decide) (by decide) (by decide) rfl rfl (Nat.le_of_ble_eq_true rfl) (fun _ _ _ q => q.elim) (fun v n2 h2 q => ?_)
  obtain ⟨rfl, rfl, hh⟩ := q
  obtain rfl := hh.symm
  refine ⟨rfl, ?_⟩
  dsimp only [Option.toList, List.cons_append, List.nil_append]
  refine r_goto (tgt := 217) dX9_goesOn_208 (by decide) ?_
  refine r_callV 68 [_] (s_X9_need (g := g) (b := signAt t le e 44) (by exact c68) (by exact c72) ht hle htt rs h9) dX9_goesOn_217 cs_X9_181 im_X9_need (by decide) c68 rfl (by decide) (by decide) (by decide) rfl rfl (Nat.le_of_ble_eq_true rfl) (fun _ _ _ q => q.elim) (fun v n2 h2 q => ?_)
  obtain ⟨rfl, rfl, hq7⟩ := q
  rcases hq7 with ⟨hb7, g7, w7, rfl, rs7, kp7⟩ | ⟨hb7, rfl⟩
  · have p51 : g7 51 = (tp : Int) := (kp7 51 (by decide)).trans e51
    have p52 : g7 52 = (o : Int) := (kp7 52 (by decide)).trans e52
    refine ⟨rfl, ?_⟩
    dsimp only [Option.toList, List.cons_append, List.nil_append]
    refine r_iload_n dX9_goesOn_220 rfl rfl ?_
    refine r_if_eq (tgt := 226) dX9_goesOn_221 (by decide) ⟨by omega, by omega⟩ (fun g221 => absurd g221 (by omega)) (fun g221 => ?_)
    refine r_iconst dX9_goesOn_224 ?_
    refine r_zret dX9_goesOn_225 (nar_z (by omega)) ?_
    exact ⟨rfl, _, _, NC, _, (wt_mk rfl (by exact c87) (by exact c89) rfl (by exact c91) (fun j a b c d e => by simp only [va_up, a, b, c, d, e, if_false])), Or.inr (Or.inl ⟨tkE t le e, by rw [if_pos hb7], rfl, rs7, (kp7 9 (by decide)).trans h9, kp7 10 (by decide), p51, p52, rfl, by first | rfl | rw [hst]⟩), fun k h1 h2 h3 => kp7 k h2⟩
  · skip
    refine ⟨rfl, ?_⟩
    dsimp only [Option.toList, List.cons_append, List.nil_append]
    refine r_iload_n dX9_goesOn_220 rfl rfl ?_
    refine r_if_eq (tgt := 226) dX9_goesOn_221 (by decide) ⟨by omega, by omega⟩ (fun g221 => absurd g221 (by omega)) (fun g221 => ?_)
    refine r_iconst dX9_goesOn_224 ?_
    refine r_zret dX9_goesOn_225 (nar_z (by omega)) ?_
    exact ⟨rfl, _, _, NC, _, (wt_mk rfl (by exact c87) (by exact c89) rfl (by exact c91) (fun j a b c d e => by simp only [va_up, a, b, c, d, e, if_false])), Or.inl ⟨1, tkS t le e, by rw [if_neg (by rw [hb7]; decide)], by decide, rfl, rfl, 0, rfl, by decide⟩, (fun k h1 h2 h3 => by (repeat rw [va_up_ne _ _ (by omega)]))⟩

theorem s_X9_goes22_1 {h : aH} {g : Nat → Int} {w : Int} (c68 : h 68 = RG g w) {trr : Nat → Int} (c72 : h 72 = .inl (0, 700, trr)) {NC : Nat → Int} (c87 : h 87 = .inl (0, 1500, NC)) {OP SG BS : Nat → Int} (c89 : h 89 = .inl (0, 13, OP)) (c90 : h 90 = .inl (0, 13, SG)) (c91 : h 91 = .inl (0, 13, BS)) {t : Nat → Int} (ht : ∀ j, -128 ≤ t j ∧ t j ≤ 127) {le : Nat} (hle : le ≤ 700) (htt : ∀ j, j < le → trr j = t j % 256) {e : Nat} (rs : RS t le e g w) (h9 : g 9 = 0) {nd : Int} (e1 : g 1 = nd) (hnd : 0 ≤ nd ∧ nd ≤ 9) {tp o : Nat} (e51 : g 51 = (tp : Int)) (htp : tp + 2 ≤ 1500) (e52 : g 52 = (o : Int)) (ho : 1 ≤ o ∧ o ≤ 12) (hop : OP (o - 1) = 22) (hst : SG (o - 1) = 1)  : mSem yX9_goesOn cX9_goesOn 4 (some .boolean) 5 0 0 [.ref 68] 97 h (GnQ t le (if signAt t le e 41 = true then .inr (.inr (1, va_up NC tp 10, tkE t le e)) else .inl (1, tkS t le e)) h g NC OP SG BS tp o) noX := by
  have n1 : g 52 - 1 = ((o - 1 : Nat) : Int) := by omega
  have hsb := sort_B rs
  refine mSem_of (own := RX9) (name := "goesOn") pn_X9 rfl rfl (Nat.le_of_ble_eq_true rfl) ?_
  refine r_aload_n dX9_goesOn_0 rfl rfl ?_
  refine r_getR (z := (g 52)) dX9_goesOn_1 fl_X9_326 (by decide) c68 rfl ?_
  refine r_iconst dX9_goesOn_4 ?_
  refine r_isub dX9_goesOn_5 ?_
  rw [n1]
  refine r_istore_n (lv2 := [(0, _), (1, _)]) dX9_goesOn_6 rfl (by decide) rfl rfl ?_
  refine r_aload_n dX9_goesOn_7 rfl rfl ?_
  refine r_get (fs := RGL _ _) dX9_goesOn_8 fl_X9_81 (by decide) c68 rfl ?_
  refine r_iload_n dX9_goesOn_11 rfl rfl ?_
  refine r_ald dX9_goesOn_12 (by decide) c89 (by omega) (by omega) (by decide) ?_
  rw [Int.toNat_natCast, hop]
  refine r_istore_n (lv2 := [(0, _), (1, _), (2, _)]) dX9_goesOn_13 rfl (by decide) rfl rfl ?_
  refine r_iload_n dX9_goesOn_14 rfl rfl ?_
  refine r_bipush dX9_goesOn_15 rfl ?_
  refine r_icmp_ne (tgt := 31) dX9_goesOn_17 (by decide) ⟨by omega, by omega⟩ ⟨by omega, by omega⟩ (fun g17 => ?_) (fun g17 => absurd g17 (by omega))
  refine r_iload_n dX9_goesOn_31 rfl rfl ?_
  refine r_bipush dX9_goesOn_32 rfl ?_
  refine r_icmp_ne (tgt := 44) dX9_goesOn_34 (by decide) ⟨by omega, by omega⟩ ⟨by omega, by omega⟩ (fun g34 => ?_) (fun g34 => absurd g34 (by omega))
  refine r_iload_n dX9_goesOn_44 rfl rfl ?_
  refine r_bipush dX9_goesOn_45 rfl ?_
  refine r_icmp_ne (tgt := 57) dX9_goesOn_47 (by decide) ⟨by omega, by omega⟩ ⟨by omega, by omega⟩ (fun g47 => ?_) (fun g47 => absurd g47 (by omega))
  refine r_iload_n dX9_goesOn_57 rfl rfl ?_
  refine r_bipush dX9_goesOn_58 rfl ?_
  refine r_icmp_eq (tgt := 75) dX9_goesOn_60 (by decide) ⟨by omega, by omega⟩ ⟨by omega, by omega⟩ (fun g60 => absurd g60 (by omega)) (fun g60 => ?_)
  refine r_iload_n dX9_goesOn_63 rfl rfl ?_
  refine r_bipush dX9_goesOn_64 rfl ?_
  refine r_icmp_eq (tgt := 75) dX9_goesOn_66 (by decide) ⟨by omega, by omega⟩ ⟨by omega, by omega⟩ (fun g66 => absurd g66 (by omega)) (fun g66 => ?_)
  refine r_iload_n dX9_goesOn_69 rfl rfl ?_
  refine r_bipush dX9_goesOn_70 rfl ?_
  refine r_icmp_ne (tgt := 77) dX9_goesOn_72 (by decide) ⟨by omega, by omega⟩ ⟨by omega, by omega⟩ (fun g72 => ?_) (fun g72 => absurd g72 (by omega))
  refine r_aload_n dX9_goesOn_77 rfl rfl ?_
  refine r_get (fs := RGL _ _) dX9_goesOn_78 fl_X9_84 (by decide) c68 rfl ?_
  refine r_iload_n dX9_goesOn_81 rfl rfl ?_
  refine r_dup2 dX9_goesOn_82 rfl rfl ?_
  refine r_ald dX9_goesOn_83 (by decide) c90 (by omega) (by omega) (by decide) ?_
  rw [Int.toNat_natCast, hst]
  refine r_iconst dX9_goesOn_84 ?_
  refine r_iadd dX9_goesOn_85 ?_
  refine r_ast dX9_goesOn_86 (by decide) c90 (by omega) (by omega) (by decide) ?_
  try rw [Int.toNat_natCast]
  refine r_iload_n dX9_goesOn_87 rfl rfl ?_
  refine r_bipush dX9_goesOn_88 rfl ?_
  refine r_icmp_ne (tgt := 166) dX9_goesOn_90 (by decide) ⟨by omega, by omega⟩ ⟨by omega, by omega⟩ (fun g90 => ?_) (fun g90 => absurd g90 (by omega))
  refine r_iload_n dX9_goesOn_166 rfl rfl ?_
  refine r_bipush dX9_goesOn_167 rfl ?_
  refine r_icmp_ne (tgt := 181) dX9_goesOn_169 (by decide) ⟨by omega, by omega⟩ ⟨by omega, by omega⟩ (fun g169 => ?_) (fun g169 => absurd g169 (by omega))
  refine r_aload_n dX9_goesOn_181 rfl rfl ?_
  refine r_get (fs := RGL _ _) dX9_goesOn_182 fl_X9_84 (by decide) c68 rfl ?_
  refine r_iload_n dX9_goesOn_185 rfl rfl ?_
  refine r_ald dX9_goesOn_186 (by decide) rfl (by omega) (by omega) (by decide) ?_
  rw [Int.toNat_natCast, va_up_self]
  refine r_iconst dX9_goesOn_187 ?_
  refine r_icmp_ne (tgt := 195) dX9_goesOn_188 (by decide) ⟨by omega, by omega⟩ ⟨by omega, by omega⟩ (fun g188 => ?_) (fun g188 => absurd g188 (by omega))
  refine r_iconst dX9_goesOn_195 ?_
  refine r_istore_n (lv2 := [(0, _), (1, _), (2, _), (3, _)]) dX9_goesOn_196 rfl (by decide) rfl rfl ?_
  refine r_aload_n dX9_goesOn_197 rfl rfl ?_
  refine r_iload_n dX9_goesOn_198 rfl rfl ?_
  refine r_if_eq (tgt := 211) dX9_goesOn_199 (by decide) ⟨by omega, by omega⟩ (fun g199 => ?_) (fun g199 => absurd g199 (by omega))
  refine r_aload_n dX9_goesOn_211 rfl rfl ?_
  refine r_bipush dX9_goesOn_212 rfl ?_
  refine r_callV 68 [_] (s_X9_isSign (g := g) (by exact c68) (by exact c72) ht hle htt rs (by decide)) dX9_goesOn_214 cs_X9_329 im_X9_isSign (by decide) c68 rfl (by decide) (by decide) (by decide) rfl rfl (Nat.le_of_ble_eq_true rfl) (fun _ _ _ q => q.elim) (fun v n2 h2 q => ?_)
  obtain ⟨rfl, rfl, hh⟩ := q
  obtain rfl := hh.symm
  refine ⟨rfl, ?_⟩
  dsimp only [Option.toList, List.cons_append, List.nil_append]
  refine r_callV 68 [_] (s_X9_need (g := g) (b := signAt t le e 41) (by exact c68) (by exact c72) ht hle htt rs h9) dX9_goesOn_217 cs_X9_181 im_X9_need (by decide) c68 rfl (by decide) (by decide) (by decide) rfl rfl (Nat.le_of_ble_eq_true rfl) (fun _ _ _ q => q.elim) (fun v n2 h2 q => ?_)
  obtain ⟨rfl, rfl, hq7⟩ := q
  rcases hq7 with ⟨hb7, g7, w7, rfl, rs7, kp7⟩ | ⟨hb7, rfl⟩
  · have p51 : g7 51 = (tp : Int) := (kp7 51 (by decide)).trans e51
    have p52 : g7 52 = (o : Int) := (kp7 52 (by decide)).trans e52
    refine ⟨rfl, ?_⟩
    dsimp only [Option.toList, List.cons_append, List.nil_append]
    refine r_iload_n dX9_goesOn_220 rfl rfl ?_
    refine r_if_eq (tgt := 226) dX9_goesOn_221 (by decide) ⟨by omega, by omega⟩ (fun g221 => ?_) (fun g221 => absurd g221 (by omega))
    refine r_aload_n dX9_goesOn_226 rfl rfl ?_
    refine r_iload_n dX9_goesOn_227 rfl rfl ?_
    refine r_bipush dX9_goesOn_228 rfl ?_
    refine r_icmp_ne (tgt := 237) dX9_goesOn_230 (by decide) ⟨by omega, by omega⟩ ⟨by omega, by omega⟩ (fun g230 => ?_) (fun g230 => absurd g230 (by omega))
    refine r_iload_n dX9_goesOn_237 rfl rfl ?_
    refine r_bipush dX9_goesOn_238 rfl ?_
    refine r_icmp_ne (tgt := 247) dX9_goesOn_240 (by decide) ⟨by omega, by omega⟩ ⟨by omega, by omega⟩ (fun g240 => ?_) (fun g240 => absurd g240 (by omega))
    refine r_bipush dX9_goesOn_247 rfl ?_
    refine r_aload_n dX9_goesOn_249 rfl rfl ?_
    refine r_get (fs := RGL _ _) dX9_goesOn_250 fl_X9_84 (by decide) rfl rfl ?_
    refine r_iload_n dX9_goesOn_253 rfl rfl ?_
    refine r_ald dX9_goesOn_254 (by decide) rfl (by omega) (by omega) (by decide) ?_
    rw [Int.toNat_natCast, va_up_self]
    refine r_callV 68 [_, _] (s_X9_works (g := g7) (tp := tp) (o := o) (by rfl) (by exact c87) p51 (by omega) p52 (by omega) ⟨by decide, by decide⟩) dX9_goesOn_255 cs_X9_341 im_X9_works (by decide) rfl rfl (by decide) (by decide) (by decide) rfl rfl (Nat.le_of_ble_eq_true rfl) (fun _ _ _ q => q.elim) (fun v n2 h2 q => ?_)
    obtain ⟨rfl, rfl, hh⟩ := q
    rw [if_neg (by decide)] at hh
    obtain rfl := hh.symm
    refine ⟨rfl, ?_⟩
    dsimp only [Option.toList, List.cons_append, List.nil_append]
    refine r_iconst dX9_goesOn_258 ?_
    refine r_zret dX9_goesOn_259 (nar_z (by omega)) ?_
    exact ⟨rfl, _, _, _, _, (wt_mk rfl rfl (by exact c89) rfl (by exact c91) (fun j a b c d e => by simp only [va_up, a, b, c, d, e, if_false])), Or.inr (Or.inr ⟨1, _, tkE t le e, by rw [if_pos hb7], rfl, RS_kp rs7 (fun k hk => by rw [va_up_ne _ _ (by omega), va_up_ne _ _ (by omega)]), (kp7 9 (by decide)).trans h9, kp7 10 (by decide), by show (tp : Int) + 1 = _; omega, rfl, rfl, fun j hj => va_up_ne _ _ (by omega)⟩), fun k h1 h2 h3 => by rw [va_up_ne _ _ (by omega), va_up_ne _ _ (by omega)]; exact kp7 k h2⟩
  · skip
    refine ⟨rfl, ?_⟩
    dsimp only [Option.toList, List.cons_append, List.nil_append]
    refine r_iload_n dX9_goesOn_220 rfl rfl ?_
    refine r_if_eq (tgt := 226) dX9_goesOn_221 (by decide) ⟨by omega, by omega⟩ (fun g221 => ?_) (fun g221 => absurd g221 (by omega))
    refine r_aload_n dX9_goesOn_226 rfl rfl ?_
    refine r_iload_n dX9_goesOn_227 rfl rfl ?_
    refine r_bipush dX9_goesOn_228 rfl ?_
    refine r_icmp_ne (tgt := 237) dX9_goesOn_230 (by decide) ⟨by omega, by omega⟩ ⟨by omega, by omega⟩ (fun g230 => ?_) (fun g230 => absurd g230 (by omega))
    refine r_iload_n dX9_goesOn_237 rfl rfl ?_
    refine r_bipush dX9_goesOn_238 rfl ?_
    refine r_icmp_ne (tgt := 247) dX9_goesOn_240 (by decide) ⟨by omega, by omega⟩ ⟨by omega, by omega⟩ (fun g240 => ?_) (fun g240 => absurd g240 (by omega))
    refine r_bipush dX9_goesOn_247 rfl ?_
    refine r_aload_n dX9_goesOn_249 rfl rfl ?_
    refine r_get (fs := RGL _ _) dX9_goesOn_250 fl_X9_84 (by decide) rfl rfl ?_
    refine r_iload_n dX9_goesOn_253 rfl rfl ?_
    refine r_ald dX9_goesOn_254 (by decide) rfl (by omega) (by omega) (by decide) ?_
    rw [Int.toNat_natCast, va_up_self]
    refine r_callV 68 [_, _] (s_X9_works (g := (va_up (va_up g 9 1) 10 (tkS t le e : Int))) (tp := tp) (o := o) (by rfl) (by exact c87) (by exact e51) (by omega) (by exact e52) (by omega) ⟨by decide, by decide⟩) dX9_goesOn_255 cs_X9_341 im_X9_works (by decide) rfl rfl (by decide) (by decide) (by decide) rfl rfl (Nat.le_of_ble_eq_true rfl) (fun _ _ _ q => q.elim) (fun v n2 h2 q => ?_)
    obtain ⟨rfl, rfl, hh⟩ := q
    rw [if_neg (by decide)] at hh
    obtain rfl := hh.symm
    refine ⟨rfl, ?_⟩
    dsimp only [Option.toList, List.cons_append, List.nil_append]
    refine r_iconst dX9_goesOn_258 ?_
    refine r_zret dX9_goesOn_259 (nar_z (by omega)) ?_
    exact ⟨rfl, _, _, _, _, (wt_mk rfl rfl (by exact c89) rfl (by exact c91) (fun j a b c d e => by simp only [va_up, a, b, c, d, e, if_false])), Or.inl ⟨1, tkS t le e, by rw [if_neg (by rw [hb7]; decide)], by decide, rfl, rfl, 1, rfl, by decide⟩, (fun k h1 h2 h3 => by (repeat rw [va_up_ne _ _ (by omega)]))⟩

theorem s_X9_goes12 {h : aH} {g : Nat → Int} {w : Int} (c68 : h 68 = RG g w) {trr : Nat → Int} (c72 : h 72 = .inl (0, 700, trr)) {NC : Nat → Int} (c87 : h 87 = .inl (0, 1500, NC)) {OP SG BS : Nat → Int} (c89 : h 89 = .inl (0, 13, OP)) (c90 : h 90 = .inl (0, 13, SG)) (c91 : h 91 = .inl (0, 13, BS)) {t : Nat → Int} (ht : ∀ j, -128 ≤ t j ∧ t j ≤ 127) {le : Nat} (hle : le ≤ 700) (htt : ∀ j, j < le → trr j = t j % 256) {e : Nat} (rs : RS t le e g w) (h9 : g 9 = 0) {nd : Int} (e1 : g 1 = nd) (hnd : 0 ≤ nd ∧ nd ≤ 9) {tp o : Nat} (e51 : g 51 = (tp : Int)) (htp : tp + 2 ≤ 1500) (e52 : g 52 = (o : Int)) (ho : 1 ≤ o ∧ o ≤ 12) (hop : OP (o - 1) = 12)  : mSem yX9_goesOn cX9_goesOn 4 (some .boolean) 5 0 0 [.ref 68] 97 h (GnQ t le (if signAt t le e 44 = true then .inr (.inl (tkE t le e)) else if signAt t le e 41 = true then .inr (.inr (2, va_up (va_up NC tp 3) (tp + 1) (SG (o - 1) + 1), tkE t le e)) else .inl (1, tkS t le e)) h g NC OP SG BS tp o) noX := by
  have n1 : g 52 - 1 = ((o - 1 : Nat) : Int) := by omega
  have hsb := sort_B rs
  refine mSem_of (own := RX9) (name := "goesOn") pn_X9 rfl rfl (Nat.le_of_ble_eq_true rfl) ?_
  refine r_aload_n dX9_goesOn_0 rfl rfl ?_
  refine r_getR (z := (g 52)) dX9_goesOn_1 fl_X9_326 (by decide) c68 rfl ?_
  refine r_iconst dX9_goesOn_4 ?_
  refine r_isub dX9_goesOn_5 ?_
  rw [n1]
  refine r_istore_n (lv2 := [(0, _), (1, _)]) dX9_goesOn_6 rfl (by decide) rfl rfl ?_
  refine r_aload_n dX9_goesOn_7 rfl rfl ?_
  refine r_get (fs := RGL _ _) dX9_goesOn_8 fl_X9_81 (by decide) c68 rfl ?_
  refine r_iload_n dX9_goesOn_11 rfl rfl ?_
  refine r_ald dX9_goesOn_12 (by decide) c89 (by omega) (by omega) (by decide) ?_
  rw [Int.toNat_natCast, hop]
  refine r_istore_n (lv2 := [(0, _), (1, _), (2, _)]) dX9_goesOn_13 rfl (by decide) rfl rfl ?_
  refine r_iload_n dX9_goesOn_14 rfl rfl ?_
  refine r_bipush dX9_goesOn_15 rfl ?_
  refine r_icmp_ne (tgt := 31) dX9_goesOn_17 (by decide) ⟨by omega, by omega⟩ ⟨by omega, by omega⟩ (fun g17 => ?_) (fun g17 => absurd g17 (by omega))
  refine r_iload_n dX9_goesOn_31 rfl rfl ?_
  refine r_bipush dX9_goesOn_32 rfl ?_
  refine r_icmp_ne (tgt := 44) dX9_goesOn_34 (by decide) ⟨by omega, by omega⟩ ⟨by omega, by omega⟩ (fun g34 => ?_) (fun g34 => absurd g34 (by omega))
  refine r_iload_n dX9_goesOn_44 rfl rfl ?_
  refine r_bipush dX9_goesOn_45 rfl ?_
  refine r_icmp_ne (tgt := 57) dX9_goesOn_47 (by decide) ⟨by omega, by omega⟩ ⟨by omega, by omega⟩ (fun g47 => ?_) (fun g47 => absurd g47 (by omega))
  refine r_iload_n dX9_goesOn_57 rfl rfl ?_
  refine r_bipush dX9_goesOn_58 rfl ?_
  refine r_icmp_eq (tgt := 75) dX9_goesOn_60 (by decide) ⟨by omega, by omega⟩ ⟨by omega, by omega⟩ (fun g60 => absurd g60 (by omega)) (fun g60 => ?_)
  refine r_iload_n dX9_goesOn_63 rfl rfl ?_
  refine r_bipush dX9_goesOn_64 rfl ?_
  refine r_icmp_eq (tgt := 75) dX9_goesOn_66 (by decide) ⟨by omega, by omega⟩ ⟨by omega, by omega⟩ (fun g66 => absurd g66 (by omega)) (fun g66 => ?_)
  refine r_iload_n dX9_goesOn_69 rfl rfl ?_
  refine r_bipush dX9_goesOn_70 rfl ?_
  refine r_icmp_ne (tgt := 77) dX9_goesOn_72 (by decide) ⟨by omega, by omega⟩ ⟨by omega, by omega⟩ (fun g72 => ?_) (fun g72 => absurd g72 (by omega))
  refine r_aload_n dX9_goesOn_77 rfl rfl ?_
  refine r_get (fs := RGL _ _) dX9_goesOn_78 fl_X9_84 (by decide) c68 rfl ?_
  refine r_iload_n dX9_goesOn_81 rfl rfl ?_
  refine r_dup2 dX9_goesOn_82 rfl rfl ?_
  refine r_ald dX9_goesOn_83 (by decide) c90 (by omega) (by omega) (by decide) ?_
  rw [Int.toNat_natCast]
  refine r_iconst dX9_goesOn_84 ?_
  refine r_iadd dX9_goesOn_85 ?_
  refine r_ast dX9_goesOn_86 (by decide) c90 (by omega) (by omega) (by decide) ?_
  try rw [Int.toNat_natCast]
  refine r_iload_n dX9_goesOn_87 rfl rfl ?_
  refine r_bipush dX9_goesOn_88 rfl ?_
  refine r_icmp_ne (tgt := 166) dX9_goesOn_90 (by decide) ⟨by omega, by omega⟩ ⟨by omega, by omega⟩ (fun g90 => ?_) (fun g90 => absurd g90 (by omega))
  refine r_iload_n dX9_goesOn_166 rfl rfl ?_
  refine r_bipush dX9_goesOn_167 rfl ?_
  refine r_icmp_ne (tgt := 181) dX9_goesOn_169 (by decide) ⟨by omega, by omega⟩ ⟨by omega, by omega⟩ (fun g169 => absurd g169 (by omega)) (fun g169 => ?_)
  refine r_aload_n dX9_goesOn_172 rfl rfl ?_
  refine r_bipush dX9_goesOn_173 rfl ?_
  refine r_callV 68 [_] (s_X9_isSign (g := g) (by exact c68) (by exact c72) ht hle htt rs (by decide)) dX9_goesOn_175 cs_X9_329 im_X9_isSign (by decide) c68 rfl (by decide) (by decide) (by decide) rfl rfl (Nat.le_of_ble_eq_true rfl) (fun _ _ _ q => q.elim) (fun v n2 h2 q => ?_)
  obtain ⟨rfl, rfl, hh⟩ := q
  obtain rfl := hh.symm
  refine ⟨rfl, ?_⟩
  dsimp only [Option.toList, List.cons_append, List.nil_append]
  refine r_goto (tgt := 196) dX9_goesOn_178 (by decide) ?_
  have b44 := b2i_01 (signAt t le e 44)
  refine r_istore_n (lv2 := [(0, _), (1, _), (2, _), (3, _)]) dX9_goesOn_196 rfl (by decide) rfl rfl ?_
  refine r_aload_n dX9_goesOn_197 rfl rfl ?_
  refine r_iload_n dX9_goesOn_198 rfl rfl ?_
  refine r_if_eq (tgt := 211) dX9_goesOn_199 (by decide) ⟨by omega, by omega⟩ (fun g199 => ?_) (fun g199 => ?_)
  · have h44 : ¬ signAt t le e 44 = true := by rw [b2i_0] at g199; rw [g199]; decide
    refine r_aload_n dX9_goesOn_211 rfl rfl ?_
    refine r_bipush dX9_goesOn_212 rfl ?_
    refine r_callV 68 [_] (s_X9_isSign (g := g) (by exact c68) (by exact c72) ht hle htt rs (by decide)) dX9_goesOn_214 cs_X9_329 im_X9_isSign (by decide) c68 rfl (by decide) (by decide) (by decide) rfl rfl (Nat.le_of_ble_eq_true rfl) (fun _ _ _ q => q.elim) (fun v n2 h2 q => ?_)
    obtain ⟨rfl, rfl, hh⟩ := q
    obtain rfl := hh.symm
    refine ⟨rfl, ?_⟩
    dsimp only [Option.toList, List.cons_append, List.nil_append]
    refine r_callV 68 [_] (s_X9_need (g := g) (b := signAt t le e 41) (by exact c68) (by exact c72) ht hle htt rs h9) dX9_goesOn_217 cs_X9_181 im_X9_need (by decide) c68 rfl (by decide) (by decide) (by decide) rfl rfl (Nat.le_of_ble_eq_true rfl) (fun _ _ _ q => q.elim) (fun v n2 h2 q => ?_)
    obtain ⟨rfl, rfl, hq7⟩ := q
    rcases hq7 with ⟨hb7, g7, w7, rfl, rs7, kp7⟩ | ⟨hb7, rfl⟩
    · have p51 : g7 51 = (tp : Int) := (kp7 51 (by decide)).trans e51
      have p52 : g7 52 = (o : Int) := (kp7 52 (by decide)).trans e52
      refine ⟨rfl, ?_⟩
      dsimp only [Option.toList, List.cons_append, List.nil_append]
      refine r_iload_n dX9_goesOn_220 rfl rfl ?_
      refine r_if_eq (tgt := 226) dX9_goesOn_221 (by decide) ⟨by omega, by omega⟩ (fun g221 => ?_) (fun g221 => absurd g221 (by omega))
      refine r_aload_n dX9_goesOn_226 rfl rfl ?_
      refine r_iload_n dX9_goesOn_227 rfl rfl ?_
      refine r_bipush dX9_goesOn_228 rfl ?_
      refine r_icmp_ne (tgt := 237) dX9_goesOn_230 (by decide) ⟨by omega, by omega⟩ ⟨by omega, by omega⟩ (fun g230 => absurd g230 (by omega)) (fun g230 => ?_)
      refine r_iconst dX9_goesOn_233 ?_
      refine r_goto (tgt := 249) dX9_goesOn_234 (by decide) ?_
      refine r_aload_n dX9_goesOn_249 rfl rfl ?_
      refine r_get (fs := RGL _ _) dX9_goesOn_250 fl_X9_84 (by decide) rfl rfl ?_
      refine r_iload_n dX9_goesOn_253 rfl rfl ?_
      refine r_ald dX9_goesOn_254 (by decide) rfl (by omega) (by omega) (by decide) ?_
      rw [Int.toNat_natCast, va_up_self]
      refine r_callV 68 [_, _] (s_X9_works (g := g7) (tp := tp) (o := o) (by rfl) (by exact c87) p51 (by omega) p52 (by omega) ⟨by decide, by decide⟩) dX9_goesOn_255 cs_X9_341 im_X9_works (by decide) rfl rfl (by decide) (by decide) (by decide) rfl rfl (Nat.le_of_ble_eq_true rfl) (fun _ _ _ q => q.elim) (fun v n2 h2 q => ?_)
      obtain ⟨rfl, rfl, hh⟩ := q
      rw [if_pos (by decide)] at hh
      obtain rfl := hh.symm
      refine ⟨rfl, ?_⟩
      dsimp only [Option.toList, List.cons_append, List.nil_append]
      refine r_iconst dX9_goesOn_258 ?_
      refine r_zret dX9_goesOn_259 (nar_z (by omega)) ?_
      exact ⟨rfl, _, _, _, _, (wt_mk rfl rfl (by exact c89) rfl (by exact c91) (fun j a b c d e => by simp only [va_up, a, b, c, d, e, if_false])), Or.inr (Or.inr ⟨2, _, tkE t le e, by rw [if_neg h44, if_pos hb7], rfl, RS_kp rs7 (fun k hk => by rw [va_up_ne _ _ (by omega), va_up_ne _ _ (by omega)]), (kp7 9 (by decide)).trans h9, kp7 10 (by decide), by show (tp : Int) + 2 = _; omega, rfl, rfl, fun j hj => va_up_ne _ _ (by omega)⟩), fun k h1 h2 h3 => by rw [va_up_ne _ _ (by omega), va_up_ne _ _ (by omega)]; exact kp7 k h2⟩
    · skip
      refine ⟨rfl, ?_⟩
      dsimp only [Option.toList, List.cons_append, List.nil_append]
      refine r_iload_n dX9_goesOn_220 rfl rfl ?_
      refine r_if_eq (tgt := 226) dX9_goesOn_221 (by decide) ⟨by omega, by omega⟩ (fun g221 => ?_) (fun g221 => absurd g221 (by omega))
      refine r_aload_n dX9_goesOn_226 rfl rfl ?_
      refine r_iload_n dX9_goesOn_227 rfl rfl ?_
      refine r_bipush dX9_goesOn_228 rfl ?_
      refine r_icmp_ne (tgt := 237) dX9_goesOn_230 (by decide) ⟨by omega, by omega⟩ ⟨by omega, by omega⟩ (fun g230 => absurd g230 (by omega)) (fun g230 => ?_)
      refine r_iconst dX9_goesOn_233 ?_
      refine r_goto (tgt := 249) dX9_goesOn_234 (by decide) ?_
      refine r_aload_n dX9_goesOn_249 rfl rfl ?_
      refine r_get (fs := RGL _ _) dX9_goesOn_250 fl_X9_84 (by decide) rfl rfl ?_
      refine r_iload_n dX9_goesOn_253 rfl rfl ?_
      refine r_ald dX9_goesOn_254 (by decide) rfl (by omega) (by omega) (by decide) ?_
      rw [Int.toNat_natCast, va_up_self]
      refine r_callV 68 [_, _] (s_X9_works (g := (va_up (va_up g 9 1) 10 (tkS t le e : Int))) (tp := tp) (o := o) (by rfl) (by exact c87) (by exact e51) (by omega) (by exact e52) (by omega) ⟨by decide, by decide⟩) dX9_goesOn_255 cs_X9_341 im_X9_works (by decide) rfl rfl (by decide) (by decide) (by decide) rfl rfl (Nat.le_of_ble_eq_true rfl) (fun _ _ _ q => q.elim) (fun v n2 h2 q => ?_)
      obtain ⟨rfl, rfl, hh⟩ := q
      rw [if_pos (by decide)] at hh
      obtain rfl := hh.symm
      refine ⟨rfl, ?_⟩
      dsimp only [Option.toList, List.cons_append, List.nil_append]
      refine r_iconst dX9_goesOn_258 ?_
      refine r_zret dX9_goesOn_259 (nar_z (by omega)) ?_
      exact ⟨rfl, _, _, _, _, (wt_mk rfl rfl (by exact c89) rfl (by exact c91) (fun j a b c d e => by simp only [va_up, a, b, c, d, e, if_false])), Or.inl ⟨1, tkS t le e, by rw [if_neg h44, if_neg (by rw [hb7]; decide)], by decide, rfl, rfl, 1, rfl, by decide⟩, (fun k h1 h2 h3 => by (repeat rw [va_up_ne _ _ (by omega)]))⟩
  · have h44 : signAt t le e 44 = true := by rw [b2i_0, Bool.not_eq_false] at g199; exact g199
    refine r_aload_n dX9_goesOn_202 rfl rfl ?_
    refine r_bipush dX9_goesOn_203 rfl ?_
    refine r_callV 68 [_] (s_X9_isSign (g := g) (by exact c68) (by exact c72) ht hle htt rs (by decide)) dX9_goesOn_205 cs_X9_329 im_X9_isSign (by decide) c68 rfl (by decide) (by decide) (by decide) rfl rfl (Nat.le_of_ble_eq_true rfl) (fun _ _ _ q => q.elim) (fun v n2 h2 q => ?_)
    obtain ⟨rfl, rfl, hh⟩ := q
    obtain rfl := hh.symm
    refine ⟨rfl, ?_⟩
    dsimp only [Option.toList, List.cons_append, List.nil_append]
    refine r_goto (tgt := 217) dX9_goesOn_208 (by decide) ?_
    refine r_callV 68 [_] (s_X9_need (g := g) (b := signAt t le e 44) (by exact c68) (by exact c72) ht hle htt rs h9) dX9_goesOn_217 cs_X9_181 im_X9_need (by decide) c68 rfl (by decide) (by decide) (by decide) rfl rfl (Nat.le_of_ble_eq_true rfl) (fun _ _ _ q => q.elim) (fun v n2 h2 q => ?_)
    obtain ⟨rfl, rfl, hq7⟩ := q
    rcases hq7 with ⟨hb7, g7, w7, rfl, rs7, kp7⟩ | ⟨hb7, rfl⟩
    · have p51 : g7 51 = (tp : Int) := (kp7 51 (by decide)).trans e51
      have p52 : g7 52 = (o : Int) := (kp7 52 (by decide)).trans e52
      refine ⟨rfl, ?_⟩
      dsimp only [Option.toList, List.cons_append, List.nil_append]
      refine r_iload_n dX9_goesOn_220 rfl rfl ?_
      refine r_if_eq (tgt := 226) dX9_goesOn_221 (by decide) ⟨by omega, by omega⟩ (fun g221 => absurd g221 (by omega)) (fun g221 => ?_)
      refine r_iconst dX9_goesOn_224 ?_
      refine r_zret dX9_goesOn_225 (nar_z (by omega)) ?_
      exact ⟨rfl, _, _, NC, _, (wt_mk rfl (by exact c87) (by exact c89) rfl (by exact c91) (fun j a b c d e => by simp only [va_up, a, b, c, d, e, if_false])), Or.inr (Or.inl ⟨tkE t le e, by rw [if_pos h44], rfl, rs7, (kp7 9 (by decide)).trans h9, kp7 10 (by decide), p51, p52, rfl, by first | rfl | rw [hst]⟩), fun k h1 h2 h3 => kp7 k h2⟩
    · skip
      refine ⟨rfl, ?_⟩
      dsimp only [Option.toList, List.cons_append, List.nil_append]
      refine r_iload_n dX9_goesOn_220 rfl rfl ?_
      refine r_if_eq (tgt := 226) dX9_goesOn_221 (by decide) ⟨by omega, by omega⟩ (fun g221 => absurd g221 (by omega)) (fun g221 => ?_)
      refine r_iconst dX9_goesOn_224 ?_
      refine r_zret dX9_goesOn_225 (nar_z (by omega)) ?_
      exact ⟨rfl, _, _, NC, _, (wt_mk rfl (by exact c87) (by exact c89) rfl (by exact c91) (fun j a b c d e => by simp only [va_up, a, b, c, d, e, if_false])), Or.inl ⟨1, tkS t le e, by exact absurd (hb7.symm.trans h44) (by decide), by decide, rfl, rfl, 0, rfl, by decide⟩, (fun k h1 h2 h3 => by (repeat rw [va_up_ne _ _ (by omega)]))⟩

