/-! ===== a method's contract, the halves changed ===== -/
theorem sg_lt {a b : Bool} {i : Nat} (h : i < 97) : sg a b i < 97 := by
  unfold sg
  split
  · omega
  · split
    · omega
    · split
      · omega
      · split <;> omega
theorem sg_hi {a b : Bool} {i : Nat} (h : 68 ≤ i) : sg a b i = i := by
  unfold sg
  rw [if_neg (by omega), if_neg (by omega), if_neg (by omega), if_neg (by omega)]
theorem sg_sg (a b a2 b2 : Bool) (i : Nat) : sg a b (sg a2 b2 i) = sg (a != a2) (b != b2) i := by
  by_cases c : i < 68
  · have h : ∀ j : Fin 68, sg a b (sg a2 b2 j.val) = sg (a != a2) (b != b2) j.val := by
      cases a <;> cases b <;> cases a2 <;> cases b2 <;> decide +kernel
    exact h ⟨i, c⟩
  · rw [sg_hi (a := a2) (b := b2) (by omega), sg_hi (by omega), sg_hi (by omega)]
theorem sg_ff (i : Nat) : sg false false i = i := by simp [sg]
theorem sg_inv (a b : Bool) (i : Nat) : sg a b (sg a b i) = i := by
  rw [sg_sg]
  have h1 : (a != a) = false := by cases a <;> rfl
  have h2 : (b != b) = false := by cases b <;> rfl
  rw [h1, h2, sg_ff]
theorem cV_cV (f g : Nat → Nat) (v : Value) : cV f (cV g v) = cV (fun i => f (g i)) v := by cases v <;> rfl
theorem cV_id {f : Nat → Nat} (h : ∀ i, f i = i) (v : Value) : cV f v = v := by cases v <;> simp [cV, h]
theorem swH_eq (a b : Bool) (h : aH) (i : Nat) : swH a b h i = renE (sg a b) (h (sg a b i)) := sw_at rfl rfl
theorem ren_ren (f g : Nat → Nat) (e : aE) : renE f (renE g e) = renE (fun i => f (g i)) e := by
  cases e with
  | inl x => rfl
  | inr o =>
    unfold renE
    simp only [List.map_map]
    congr 3
    funext v
    exact cV_cV f g v
theorem ren_id {f : Nat → Nat} (h : ∀ i, f i = i) (e : aE) : renE f e = e := by
  cases e with
  | inl x => rfl
  | inr o =>
    unfold renE
    dsimp only
    rw [show cV f = id from funext (cV_id h), List.map_id]
theorem sw_sw (a b a2 b2 : Bool) (h : aH) : swH a b (swH a2 b2 h) = swH (a != a2) (b != b2) h := by
  funext i
  rw [swH_eq, swH_eq, swH_eq, ren_ren, sg_sg, show (fun i => sg a b (sg a2 b2 i)) = sg (a != a2) (b != b2) from funext (sg_sg a b a2 b2)]
  congr 2
  cases a <;> cases b <;> cases a2 <;> cases b2 <;> rfl
theorem sw_inv (a b : Bool) (h : aH) : swH a b (swH a b h) = h := by
  funext i
  rw [swH_eq, swH_eq, ren_ren, sg_inv]
  exact ren_id (sg_inv a b) _
theorem cE_sw (ad : Nat → Nat) (tc : Nat → ClassId) (a b : Bool) (e : aE) : cE (fun i => ad (sg a b i)) tc (renE (sg a b) e) = cE ad tc e := by
  cases e with
  | inl x => rfl
  | inr o =>
    unfold renE cE
    simp only [List.map_map]
    congr 3
    funext v
    show cV _ (cV _ v) = _
    rw [cV_cV]
    cases v <;> simp [cV, sg_inv]
theorem cW_sw (ad : Nat → Nat) (tc : Nat → ClassId) (a b : Bool) (h : aH) {i : Nat} (hi : i < 97) : (cW (fun i => ad (sg a b i)) tc 97 (swH a b h))[i]? = (cW ad tc 97 h)[sg a b i]? := by
  rw [cW_get hi, cW_get (sg_lt hi), swH_eq, cE_sw]
theorem cW_lt {ad : Nat → Nat} {tc : Nat → ClassId} {n : Nat} {h : aH} {i : Nat} {q : Nat × va_E} (hq : (cW ad tc n h)[i]? = some q) : i < n := by
  have := (List.getElem?_eq_some_iff.mp hq).1
  simpa [cW] using this
theorem cP_sw {D : va_G} {ad : Nat → Nat} {tc : Nat → ClassId} {a b : Bool} {h : aH} {H : Heap} (p : va_P D vwCl (cW ad tc 97 h) H) : va_P D vwCl (cW (fun i => ad (sg a b i)) tc 97 (swH a b h)) H := by
  intro k q hq
  rw [cW_sw ad tc a b h (cW_lt hq)] at hq
  exact p _ q hq
theorem cD_sw {A : Nat → Prop} {ad : Nat → Nat} {tc : Nat → ClassId} {a b : Bool} {h : aH} (p : va_D A (cW ad tc 97 h)) : va_D A (cW (fun i => ad (sg a b i)) tc 97 (swH a b h)) := by
  refine ⟨fun i j x y hx hy hxy => ?_, fun k q hq => ?_⟩
  · rw [cW_sw ad tc a b h (cW_lt hx)] at hx
    rw [cW_sw ad tc a b h (cW_lt hy)] at hy
    have := p.1 _ _ x y hx hy hxy
    rw [← sg_inv a b i, ← sg_inv a b j, this]
  · rw [cW_sw ad tc a b h (cW_lt hq)] at hq
    exact p.2 _ q hq
theorem cA_sw (ad : Nat → Nat) (tc : Nat → ClassId) (a b : Bool) (h : aH) (sz : Nat) : va_A (cW (fun i => ad (sg a b i)) tc 97 (swH a b h)) sz = va_A (cW ad tc 97 h) sz := by
  funext q
  apply propext
  constructor
  · rintro (⟨k, e, hk⟩ | hq)
    · have hl := cW_lt hk
      rw [cW_sw ad tc a b h hl] at hk
      exact Or.inl ⟨_, e, hk⟩
    · exact Or.inr hq
  · rintro (⟨k, e, hk⟩ | hq)
    · have hl := cW_lt hk
      refine Or.inl ⟨sg a b k, e, ?_⟩
      rw [cW_sw ad tc a b h (sg_lt hl), sg_inv]
      exact hk
    · exact Or.inr hq
/-- back: the world of the changed halves is the world -/
theorem wt_sw {D : va_G} {tc : Nat → ClassId} {ad adK : Nat → Nat} {A : Nat → Prop} {a b : Bool} {h : aH} {t : State} (w : Wt D tc ad adK A 97 h t) : Wt D tc (fun i => ad (sg a b i)) adK A 97 (swH a b h) t :=
  ⟨cP_sw w.1, cD_sw w.2.1, fun k => by show ad (sg a b (1000 + k)) = adK k; rw [sg_hi (by omega)]; exact w.2.2 k⟩
theorem mSem_sw {y : MethodName} {cc : ByteArray} {mL : Nat} {rt : Option FieldType} {d mc ms : Nat} {av : List Value} {h : aH} {Q1 Q : Option Value → Nat → aH → Prop} {X1 X : String → Nat → aH → Prop} (a b : Bool) (k : mSem y cc mL rt d mc ms av 97 (swH a b h) Q1 X1) (hav : av.map (cV (sg a b)) = av)
    (hq : ∀ v n2 h2, Q1 v n2 h2 → n2 = 97 ∧ v.map (cV (sg a b)) = v ∧ Q v 97 (swH a b h2)) (hx : ∀ E n2 h2, X1 E n2 h2 → n2 = 97 ∧ X E 97 (swH a b h2)) : mSem y cc mL rt d mc ms av 97 h Q X := by
  intro l D tc ad adK sz hl
  have k1 := k l D tc (fun i => ad (sg a b i)) adK sz hl
  rw [cA_sw ad tc a b h sz] at k1
  intro p e ha hc hk s m args below hf happ hp hu
  have hp1 : SP av 97 (swH a b h) D tc (fun i => ad (sg a b i)) adK sz args s := by
    obtain ⟨p1, p2, p3, p4⟩ := hp
    refine ⟨?_, p2, ?_, ?_⟩
    · rw [p1]
      congr 1
      conv => lhs; rw [← hav]
      rw [List.map_map]
      apply List.map_congr_left
      intro v _
      show cV ad (cV (sg a b) v) = _
      rw [cV_cV]
    · rw [cA_sw]; exact p3
    · rw [cA_sw]; exact wt_sw p4
  have back : ∀ (ad' : Nat → Nat), (∀ i, (fun i => ad' (sg a b i)) i = ad' (sg a b i)) := fun _ _ => rfl
  have hext : ∀ (n2 : Nat) (ad' : Nat → Nat), n2 = 97 → ext 97 n2 (fun i => ad (sg a b i)) ad' → ext 97 97 ad (fun i => ad' (sg a b i)) := by
    intro n2 ad' hn he
    subst hn
    have e := he.1 rfl
    subst e
    exact ⟨fun _ => funext (fun i => by show ad (sg a b (sg a b i)) = ad i; rw [sg_inv]), fun i _ => by show ad (sg a b (sg a b i)) = ad i; rw [sg_inv]⟩
  obtain ⟨k9, o, h1, h2, h3, b3⟩ := k1 p e ha hc hk s m args below hf happ hp1 hu
  refine ⟨k9, o, h1, h2, h3, ?_⟩
  rcases b3 with ⟨⟨⟨v, n2, h2, ad2, c1, c2, c3, c4, c5⟩, c6⟩, b4⟩ | ⟨q, e1, E, ce, L, ⟨⟨n2, h2, ad2, c1, c2, c3, c4⟩, c5⟩, c6⟩
  · obtain ⟨rfl, hv, hQ⟩ := hq v n2 h2 c2
    refine Or.inl ⟨⟨⟨v, 97, swH a b h2, fun i => ad2 (sg a b i), ?_, hQ, Nat.le_refl _, hext 97 ad2 rfl c4, wt_sw c5⟩, c6⟩, b4⟩
    rw [c1]
    congr 1
    cases v with
    | none => rfl
    | some w =>
      have hw : cV (sg a b) w = w := Option.some.inj hv
      show some (cV ad2 w) = some (cV (fun i => ad2 (sg a b i)) w)
      rw [← cV_cV ad2 (sg a b) w, hw]
  · obtain ⟨rfl, hX⟩ := hx E n2 h2 c1
    exact Or.inr ⟨q, e1, E, ce, L, ⟨⟨97, swH a b h2, fun i => ad2 (sg a b i), hX, Nat.le_refl _, hext 97 ad2 rfl c3, wt_sw c4⟩, c5⟩, c6⟩
theorem cls_sw {a b : Bool} {h : aH} {S : CSt} (c : Cls h S) : Cls (swH a b h) S := by
  obtain ⟨a2, b2, c⟩ := c
  refine ⟨a2 != a, b2 != b, ?_⟩
  rw [sw_sw]
  have e1 : ((a2 != a) != a) = a2 := by cases a <;> cases a2 <;> rfl
  have e2 : ((b2 != b) != b) = b2 := by cases b <;> cases b2 <;> rfl
  rw [e1, e2]
  exact c
theorem fr_sw {a b : Bool} {h0 h : aH} (f : FrC (swH a b h0) h) : FrC h0 (swH a b h) := by
  intro j hj
  rw [swH_eq, sg_hi hj, f j hj, swH_eq, sg_hi hj, ren_ren]
  exact ren_id (sg_inv a b) _
/-- a public method, whichever half is in use -/
theorem pub_sw {y : MethodName} {cc : ByteArray} {mL : Nat} {rt : Option FieldType} {d mc ms : Nat} {av : List Value} {oc : Nat} {v0 : Option Value} {S S2 : CSt} (hav : ∀ a b, av.map (cV (sg a b)) = av) (hv : ∀ a b, v0.map (cV (sg a b)) = v0)
    (k : ∀ h, CanC h S → mSem y cc mL rt d mc ms av 97 h (PubQ oc v0 h S2) (PubX oc h S)) {h : aH} (c : Cls h S) : mSem y cc mL rt d mc ms av 97 h (PubQ oc v0 h S2) (PubX oc h S) := by
  obtain ⟨a, b, cc⟩ := c
  refine mSem_sw a b (k _ cc) (hav a b) (fun v n2 h2 q => ?_) (fun E n2 h2 q => ?_)
  · obtain ⟨q1, q2, q3, q4, q5⟩ := q
    subst q2
    exact ⟨q3, hv a b, q1, rfl, rfl, cls_sw q4, fr_sw q5⟩
  · obtain ⟨q1, q3, q4, q5⟩ := q
    exact ⟨q3, q1, rfl, cls_sw q4, fr_sw q5⟩
