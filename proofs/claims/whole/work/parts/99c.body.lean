theorem nw_L_8 : NW RL 8 8 20 [.null, iv 0, iv 0, .null, .null, .null, .null, .null, .null, .null, .null, iv 0, .null, .null, iv 0, .null, .null, .null, .null, .null] := ⟨RX8, TX8, tyX8, rfl, inX8, tyX8_ok, inT1 23 rfl rfl, inT1 24 rfl rfl, ini_X8, by decide +kernel, fun _ => rfl, fun _ => rfl⟩
theorem nw_L_91 : NW RL 91 9 58 [iv 0, iv 0, iv 0, iv 0, .null, .null, .null, .null, iv 0, iv 0, iv 0, .null, iv 0, iv 0, iv 0, iv 0, iv 0, iv 0, iv 0, lw 0, iv 0, iv 0, iv 0, iv 0, iv 0, .null, .null, .null, .null, .null, iv 0, iv 0, .null, iv 0, .null, .null, iv 0, .null, iv 0, .null, .null, iv 0, iv 0, .null, iv 0, .null, .null, .null, .null, .null, .null, iv 0, iv 0, iv 0, .null, .null, .null, .null] := ⟨RX9, TX9, tyX9, rfl, inX9, tyX9_ok, inT6 79 rfl rfl, inT6 80 rfl rfl, ini_X9, by decide +kernel, fun _ => rfl, fun _ => rfl⟩
theorem law_body {b0 L0 : Nat} {xs : Nat → Int32} (hL : L0 ≤ 3072) {h : aH} : EvG (zS b0 L0 xs) RL "law" cL_law_ 7 (some .boolean) 40 3000 40000 LQ1 noX 0 h 0 [(0, .ref 3001)] [] := by
  have w0 : WF 0 h := fun i hi => absurd hi (Nat.not_lt_zero i)
  refine g_new dL_law__0 nw_L_8 (by decide) (by decide) (by decide) rfl rfl w0 (fun w1 => ?_)
  refine g_dup dL_law__3 rfl ?_
  refine g_callI 0 [] (s_X8_init w1 rfl) (fun _ _ _ hx => hx) dL_law__4 cs_L_90 ⟨rfl, inT1 26 rfl rfl⟩ (by decide) (by decide) (by decide) rfl rfl (by decide) rfl rfl (fun v n2 h2 q => ?_)
  obtain ⟨rfl, rfl, w2, can⟩ := q
  dsimp only [Option.toList, List.cons_append, List.nil_append]
  refine g_astore_n (lv2 := [(0, .ref 3001), (1, .ref 0)]) dL_law__7 rfl (by decide) rfl rfl ?_
  refine g_new dL_law__8 nw_L_91 (by decide) (by decide) (by decide) rfl rfl w2 (fun w3 => ?_)
  refine g_dup dL_law__11 rfl ?_
  refine g_callI 68 [] (s_X9_init w3 rfl) (fun _ _ _ hx => hx) dL_law__12 cs_L_93 ⟨rfl, inT6 82 rfl rfl⟩ (by decide) (by decide) (by decide) rfl rfl (by decide) rfl rfl (fun v n2 h3 q => ?_)
  obtain ⟨rfl, rfl, w4, ref, keep⟩ := q
  dsimp only [Option.toList, List.cons_append, List.nil_append]
  refine g_astore_n (lv2 := [(0, .ref 3001), (1, .ref 0), (2, .ref 68)]) dL_law__15 rfl (by decide) rfl rfl ?_
  refine g_iconst dL_law__16 ?_
  refine g_newaJ (N := 1) dL_law__17 aC_long (by decide) (by decide) (by decide) (by decide) rfl rfl w4 (fun w5 => ?_)
  refine g_astore_n (lv2 := [(0, .ref 3001), (1, .ref 0), (2, .ref 68), (3, .ref 96)]) dL_law__19 rfl (by decide) rfl rfl ?_
  refine g_iconst dL_law__20 ?_
  refine g_istore (lv2 := LV (0 : Nat)) dL_law__21 (by decide) rfl rfl ?_
  refine law_loop hL (by decide) 512 0 _ _ _ ⟨S00, 0, fun _ => 0, cls_of (can_fr (fun j hj => ?_) can), ref_fr (fun j h1 h9 => ?_) ref, va_eq⟩ (by omega) (by omega) (by decide) (by decide)
  · rw [va_ne (by omega), keep j hj, va_ne (by omega)]
  · rw [va_ne (by omega)]
