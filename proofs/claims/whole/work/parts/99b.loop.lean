/-! ===== the law's loop ===== -/
section
variable {Z : ZT} {own name : String} {cc : ByteArray} {mL : Nat} {rt : Option FieldType} {d mc ms : Nat} {Q : Option Value → Nat → aH → Prop} {X : String → Nat → aH → Prop} {n : Nat} {h : aH} {pc : Nat} {lv : List (Nat × Value)} {st : List Value}
theorem g_tin {dflt lo hi : Int} {offs : Array Int} {len : Nat} {x off : Int} {tgt : Nat} (hd : decode cc pc = .ok (.tableswitch dflt lo hi offs, len)) (hx : inR x) (h1 : ¬ x < lo) (h2 : ¬ hi < x) (ho : offs[(x - lo).toNat]? = some off) (ht : (pc : Int) + off = (tgt : Int)) (k : EvG Z own name cc mL rt d mc ms Q X n h tgt lv st) : EvG Z own name cc mL rt d mc ms Q X n h pc lv (iv x :: st) := by
  intro p l e R s m args below meth c D tc n0 ad0 ad adK A H locs cells slots MC MS ls fx rm wd hn he hl
  exact lv_tableIn fx.1 fx.2.1 hd (by rw [tI hx]; exact h1) (by rw [tI hx]; exact h2) (by rw [tI hx]; exact ho) ht (k p l e R s m args below meth c D tc n0 ad0 ad adK A H locs cells slots MC MS ls fx rm wd hn he hl)
theorem g_tout {dflt lo hi : Int} {offs : Array Int} {len : Nat} {x : Int} {tgt : Nat} (hd : decode cc pc = .ok (.tableswitch dflt lo hi offs, len)) (hx : inR x) (h1 : x < lo ∨ hi < x) (ht : (pc : Int) + dflt = (tgt : Int)) (k : EvG Z own name cc mL rt d mc ms Q X n h tgt lv st) : EvG Z own name cc mL rt d mc ms Q X n h pc lv (iv x :: st) := by
  intro p l e R s m args below meth c D tc n0 ad0 ad adK A H locs cells slots MC MS ls fx rm wd hn he hl
  exact lv_tableOut fx.1 fx.2.1 hd (by rw [tI hx]; exact h1) ht (k p l e R s m args below meth c D tc n0 ad0 ad adK A H locs cells slots MC MS ls fx rm wd hn he hl)
end
theorem and31 (x : Int32) : ∃ z : Int, 0 ≤ z ∧ z < 32 ∧ x &&& Int32.ofInt 31 = Int32.ofInt z := by
  refine ⟨(x &&& Int32.ofInt 31).toInt, ?_⟩
  have h1 : (x &&& Int32.ofInt 31).toBitVec.toNat ≤ 31 := by
    rw [Int32.toBitVec_and, BitVec.toNat_and]
    exact Nat.and_le_right
  have h2 : (x &&& Int32.ofInt 31).toInt = ((x &&& Int32.ofInt 31).toBitVec.toNat : Int) := BitVec.toInt_eq_toNat_of_lt (by omega)
  rw [h2]
  refine ⟨by omega, by omega, ?_⟩
  rw [← h2, Int32.ofInt_toInt]
abbrev LQ1 : Option Value → Nat → aH → Prop := fun v _ _ => v = some (iv 1)
theorem law_loop {b0 L0 : Nat} {xs : Nat → Int32} (hL : L0 ≤ 3072) {d : Nat} (hd : 40 ≤ d) : ∀ (k i mc ms : Nat) (h : aH), Inv h → L0 < i + 6 * k + 6 → i ≤ 3078 → 5 * k ≤ mc → 30 * k ≤ ms → EvG (zS b0 L0 xs) RL "law" cL_law_ 7 (some .boolean) d mc ms LQ1 noX 97 h 23 (LV (i : Nat)) [] := by
  intro k
  induction k with
  | zero =>
    intro i mc ms h hI h1 hi3 h2 h3
    refine g_iload dL_law__23 rfl ?_
    refine g_aload_n dL_law__25 rfl rfl ?_
    refine g_slen dL_law__26 ?_
    refine g_bipush dL_law__27 rfl ?_
    refine g_isub dL_law__29 ?_
    refine g_icmp_gt (tgt := 2075) dL_law__30 (by decide) ⟨by omega, by omega⟩ ⟨by omega, by omega⟩ (fun _ => ?_) (fun h9 => absurd h9 (by omega))
    refine g_iconst dL_law__2075 ?_
    exact g_zret dL_law__2076 (nar_z (Or.inr rfl)) rfl
  | succ k ih =>
    intro i mc ms h hI h1 hi3 h2 h3
    refine g_iload dL_law__23 rfl ?_
    refine g_aload_n dL_law__25 rfl rfl ?_
    refine g_slen dL_law__26 ?_
    refine g_bipush dL_law__27 rfl ?_
    refine g_isub dL_law__29 ?_
    refine g_icmp_gt (tgt := 2075) dL_law__30 (by decide) ⟨by omega, by omega⟩ ⟨by omega, by omega⟩ (fun _ => ?_) (fun h9 => ?_)
    · refine g_iconst dL_law__2075 ?_
      exact g_zret dL_law__2076 (nar_z (Or.inr rfl)) rfl
    have nxt : ∀ (mc2 ms2 : Nat) (h2 : aH), Inv h2 → 5 * k ≤ mc2 → 30 * k ≤ ms2 → EvG (zS b0 L0 xs) RL "law" cL_law_ 7 (some .boolean) d mc2 ms2 LQ1 noX 97 h2 2069 (LV (i : Nat)) [] := by
      intro mc2 ms2 h2 i2 e1 e2
      refine g_iinc (lv2 := LV ((i : Nat) + 6)) dL_law__2069 (by decide) rfl rfl rfl ?_
      refine g_goto (tgt := 23) dL_law__2072 (by decide) ?_
      rw [show ((i : Nat) : Int) + 6 = ((i + 6 : Nat) : Int) by omega]
      exact ih (i + 6) mc2 ms2 h2 i2 (by omega) (by omega) e1 e2
    refine g_aload_n dL_law__33 rfl rfl ?_
    refine g_iload dL_law__34 rfl ?_
    refine g_sld dL_law__36 (by omega) (by omega) hL ?_
    refine g_bipush dL_law__37 rfl ?_
    obtain ⟨z, z0, z1, hz⟩ := and31 (Int32.ofInt (xs ((i : Nat) : Int).toNat).toInt)
    refine g_iand z dL_law__39 hz ?_
    have hc : z = 0 ∨ z = 1 ∨ z = 2 ∨ z = 3 ∨ z = 4 ∨ z = 5 ∨ z = 6 ∨ z = 7 ∨ z = 8 ∨ z = 9 ∨ z = 10 ∨ z = 11 ∨ z = 12 ∨ z = 13 ∨ z = 14 ∨ z = 15 ∨ z = 16 ∨ z = 17 ∨ z = 18 ∨ z = 19 ∨ z = 20 ∨ z = 21 ∨ z = 22 ∨ z = 23 ∨ z = 24 ∨ z = 25 ∨ z = 26 ∨ z = 27 ∨ z = 28 ∨ z = 29 ∨ z = 30 ∨ z = 31 := by omega
    rcases hc with rfl | rfl | rfl | rfl | rfl | rfl | rfl | rfl | rfl | rfl | rfl | rfl | rfl | rfl | rfl | rfl | rfl | rfl | rfl | rfl | rfl | rfl | rfl | rfl | rfl | rfl | rfl | rfl | rfl | rfl | rfl | rfl
    · refine g_tin (tgt := 180) dL_law__40 (by decide) (by decide) (by decide) rfl (by decide) ?_
      exact lc_feed hd hI ⟨by omega, by omega⟩ hL (fun h2 i2 => nxt _ _ h2 i2 (by omega) (by omega))
    · refine g_tin (tgt := 253) dL_law__40 (by decide) (by decide) (by decide) rfl (by decide) ?_
      exact lc_port hd (by omega) (by omega) hI ⟨by omega, by omega⟩ hL (fun h2 i2 => nxt _ _ h2 i2 (by omega) (by omega))
    · refine g_tin (tgt := 309) dL_law__40 (by decide) (by decide) (by decide) rfl (by decide) ?_
      exact lc_law hd (by omega) (by omega) hI ⟨by omega, by omega⟩ hL (fun h2 i2 => nxt _ _ h2 i2 (by omega) (by omega))
    · refine g_tin (tgt := 365) dL_law__40 (by decide) (by decide) (by decide) rfl (by decide) ?_
      exact lc_lawful hd (by omega) (by omega) hI ⟨by omega, by omega⟩ hL (fun h2 i2 => nxt _ _ h2 i2 (by omega) (by omega))
    · refine g_tin (tgt := 433) dL_law__40 (by decide) (by decide) (by decide) rfl (by decide) ?_
      exact lc_judged hd (by omega) (by omega) hI ⟨by omega, by omega⟩ hL (fun h2 i2 => nxt _ _ h2 i2 (by omega) (by omega))
    · refine g_tin (tgt := 501) dL_law__40 (by decide) (by decide) (by decide) rfl (by decide) ?_
      exact lc_fault hd hI ⟨by omega, by omega⟩ hL (fun h2 i2 => nxt _ _ h2 i2 (by omega) (by omega))
    · refine g_tin (tgt := 514) dL_law__40 (by decide) (by decide) (by decide) rfl (by decide) ?_
      exact lc_count hd (by omega) (by omega) hI ⟨by omega, by omega⟩ hL (fun h2 i2 => nxt _ _ h2 i2 (by omega) (by omega))
    · refine g_tin (tgt := 570) dL_law__40 (by decide) (by decide) (by decide) rfl (by decide) ?_
      exact lc_dial hd (by omega) (by omega) hI ⟨by omega, by omega⟩ hL (fun h2 i2 => nxt _ _ h2 i2 (by omega) (by omega))
    · refine g_tin (tgt := 638) dL_law__40 (by decide) (by decide) (by decide) rfl (by decide) ?_
      exact lc_day hd (by omega) (by omega) hI ⟨by omega, by omega⟩ hL (fun h2 i2 => nxt _ _ h2 i2 (by omega) (by omega))
    · refine g_tin (tgt := 706) dL_law__40 (by decide) (by decide) (by decide) rfl (by decide) ?_
      exact lc_tells hd (by omega) (by omega) hI ⟨by omega, by omega⟩ hL (fun h2 i2 => nxt _ _ h2 i2 (by omega) (by omega))
    · refine g_tin (tgt := 786) dL_law__40 (by decide) (by decide) (by decide) rfl (by decide) ?_
      exact lc_turn hd (by omega) (by omega) hI ⟨by omega, by omega⟩ hL (fun h2 i2 => nxt _ _ h2 i2 (by omega) (by omega))
    · refine g_tin (tgt := 854) dL_law__40 (by decide) (by decide) (by decide) rfl (by decide) ?_
      exact lc_read hd (by omega) (by omega) hI ⟨by omega, by omega⟩ hL (fun h2 i2 => nxt _ _ h2 i2 (by omega) (by omega))
    · refine g_tin (tgt := 946) dL_law__40 (by decide) (by decide) (by decide) rfl (by decide) ?_
      exact lc_unread hd hI ⟨by omega, by omega⟩ hL (fun h2 i2 => nxt _ _ h2 i2 (by omega) (by omega))
    · refine g_tin (tgt := 959) dL_law__40 (by decide) (by decide) (by decide) rfl (by decide) ?_
      exact lc_faults hd (by omega) (by omega) hI ⟨by omega, by omega⟩ hL (fun h2 i2 => nxt _ _ h2 i2 (by omega) (by omega))
    · refine g_tin (tgt := 1027) dL_law__40 (by decide) (by decide) (by decide) rfl (by decide) ?_
      exact lc_next hd (by omega) (by omega) hI ⟨by omega, by omega⟩ hL (fun h2 i2 => nxt _ _ h2 i2 (by omega) (by omega))
    · refine g_tin (tgt := 1107) dL_law__40 (by decide) (by decide) (by decide) rfl (by decide) ?_
      exact lc_see hd (by omega) (by omega) hI ⟨by omega, by omega⟩ hL (fun h2 i2 => nxt _ _ h2 i2 (by omega) (by omega))
    · refine g_tin (tgt := 1175) dL_law__40 (by decide) (by decide) (by decide) rfl (by decide) ?_
      exact lc_forget hd hI ⟨by omega, by omega⟩ hL (fun h2 i2 => nxt _ _ h2 i2 (by omega) (by omega))
    · refine g_tin (tgt := 1188) dL_law__40 (by decide) (by decide) (by decide) rfl (by decide) ?_
      exact lc_minutes hd (by omega) (by omega) hI ⟨by omega, by omega⟩ hL (fun h2 i2 => nxt _ _ h2 i2 (by omega) (by omega))
    · refine g_tin (tgt := 1256) dL_law__40 (by decide) (by decide) (by decide) rfl (by decide) ?_
      exact lc_days hd (by omega) (by omega) hI ⟨by omega, by omega⟩ hL (fun h2 i2 => nxt _ _ h2 i2 (by omega) (by omega))
    · refine g_tin (tgt := 1312) dL_law__40 (by decide) (by decide) (by decide) rfl (by decide) ?_
      exact lc_late hd (by omega) (by omega) hI ⟨by omega, by omega⟩ hL (fun h2 i2 => nxt _ _ h2 i2 (by omega) (by omega))
    · refine g_tin (tgt := 1404) dL_law__40 (by decide) (by decide) (by decide) rfl (by decide) ?_
      exact lc_meet hd (by omega) (by omega) hI ⟨by omega, by omega⟩ hL (fun h2 i2 => nxt _ _ h2 i2 (by omega) (by omega))
    · refine g_tin (tgt := 1508) dL_law__40 (by decide) (by decide) (by decide) rfl (by decide) ?_
      exact lc_mend hd (by omega) (by omega) hI ⟨by omega, by omega⟩ hL (fun h2 i2 => nxt _ _ h2 i2 (by omega) (by omega))
    · refine g_tin (tgt := 1588) dL_law__40 (by decide) (by decide) (by decide) rfl (by decide) ?_
      exact lc_undo hd hI ⟨by omega, by omega⟩ hL (fun h2 i2 => nxt _ _ h2 i2 (by omega) (by omega))
    · refine g_tin (tgt := 1601) dL_law__40 (by decide) (by decide) (by decide) rfl (by decide) ?_
      exact lc_best hd (by omega) (by omega) hI ⟨by omega, by omega⟩ hL (fun h2 i2 => nxt _ _ h2 i2 (by omega) (by omega))
    · refine g_tin (tgt := 1693) dL_law__40 (by decide) (by decide) (by decide) rfl (by decide) ?_
      exact lc_year hd (by omega) (by omega) hI ⟨by omega, by omega⟩ hL (fun h2 i2 => nxt _ _ h2 i2 (by omega) (by omega))
    · refine g_tin (tgt := 1773) dL_law__40 (by decide) (by decide) (by decide) rfl (by decide) ?_
      exact lc_live hd (by omega) (by omega) hI ⟨by omega, by omega⟩ hL (fun h2 i2 => nxt _ _ h2 i2 (by omega) (by omega))
    · refine g_tin (tgt := 1829) dL_law__40 (by decide) (by decide) (by decide) rfl (by decide) ?_
      exact lc_middle hd (by omega) (by omega) hI ⟨by omega, by omega⟩ hL (fun h2 i2 => nxt _ _ h2 i2 (by omega) (by omega))
    · refine g_tin (tgt := 1909) dL_law__40 (by decide) (by decide) (by decide) rfl (by decide) ?_
      exact lc_together hd (by omega) (by omega) hI ⟨by omega, by omega⟩ hL (fun h2 i2 => nxt _ _ h2 i2 (by omega) (by omega))
    · refine g_tin (tgt := 1977) dL_law__40 (by decide) (by decide) (by decide) rfl (by decide) ?_
      exact lc_takes hd (by omega) (by omega) hI ⟨by omega, by omega⟩ hL (fun h2 i2 => nxt _ _ h2 i2 (by omega) (by omega))
    · refine g_tin (tgt := 2045) dL_law__40 (by decide) (by decide) (by decide) rfl (by decide) ?_
      exact lc_image hd hI ⟨by omega, by omega⟩ hL (fun h2 i2 => nxt _ _ h2 i2 (by omega) (by omega))
    · refine g_tin (tgt := 2056) dL_law__40 (by decide) (by decide) (by decide) rfl (by decide) ?_
      exact lc_restore hd hI ⟨by omega, by omega⟩ hL (fun h2 i2 => nxt _ _ h2 i2 (by omega) (by omega))
    · refine g_tout (tgt := 2069) dL_law__40 (by decide) (Or.inr (by decide)) (by decide) ?_
      exact nxt _ _ _ hI (by omega) (by omega)
