/-! ===== an array is what it holds below its length ===== -/
theorem arrV_eq {cA : ClassId} {n : Nat} {f g : Nat → Value} (h : ∀ j, j < n → f j = g j) : arrV cA n f = arrV cA n g := by
  unfold arrV
  congr 1
  apply Array.ext_getElem?
  intro i
  by_cases hi : i < n
  · simp [hi, h i hi]
  · simp [hi]
theorem cell_eq {tc : Nat → ClassId} {t N : Nat} {f g : Nat → Int} (h : ∀ j, j < N → f j = g j) : vp_cell (tc t) (N, cF t f) = vp_cell (tc t) (N, cF t g) := by
  unfold cF
  by_cases c : t = 3
  · simp only [c, if_true]
    exact arrV_eq (f := fun j => .long (Int64.ofInt (f j))) (g := fun j => .long (Int64.ofInt (g j))) (fun j hj => by rw [h j hj])
  · simp only [c, if_false]
    exact arrV_eq (f := fun j => .int (Int32.ofInt (f j))) (g := fun j => .int (Int32.ofInt (g j))) (fun j hj => by rw [h j hj])
theorem ev_arr {own name : String} {cc : ByteArray} {mL : Nat} {rt : Option FieldType} {d mc ms : Nat} {Q : Option Value → Nat → aH → Prop} {X : String → Nat → aH → Prop} {n : Nat} {h : aH} {pc : Nat} {lv : List (Nat × Value)} {st : List Value} (k : Nat) {t N : Nat} {f : Nat → Int} (g : Nat → Int) (hc : h k = .inl (t, N, f)) (hfg : ∀ j, j < N → f j = g j) (kk : Ev own name cc mL rt d mc ms Q X n (va_up h k (.inl (t, N, g))) pc lv st) : Ev own name cc mL rt d mc ms Q X n h pc lv st := by
  intro p l e R s m args below meth c D tc n0 ad0 ad adK A H locs cells slots MC MS ls fx rm wd hn he hl
  refine kk p l e R s m args below meth c D tc n0 ad0 ad adK A H locs cells slots MC MS ls fx rm ⟨?_, ?_, wd.2.2.1, wd.2.2.2⟩ hn he hl
  · intro i q hq
    have hi : i < n := by
      have := (List.getElem?_eq_some_iff.mp hq).1
      simpa [cW] using this
    rw [cW_get hi] at hq
    cases hq
    have h1 := wd.1 i _ (cW_get hi)
    by_cases c1 : i = k
    · subst c1
      rw [va_up_self]
      rw [hc] at h1
      show H[ad i]? = some (vp_cell (tc t) (N, cF t g))
      rw [← cell_eq hfg]
      exact h1
    · rw [va_up_ne _ _ c1]
      exact h1
  · refine ⟨fun i j x y hx hy hxy => ?_, fun i q hq => ?_⟩
    · have hi : i < n := by
        have := (List.getElem?_eq_some_iff.mp hx).1
        simpa [cW] using this
      have hj : j < n := by
        have := (List.getElem?_eq_some_iff.mp hy).1
        simpa [cW] using this
      rw [cW_get hi] at hx
      rw [cW_get hj] at hy
      cases hx
      cases hy
      exact wd.2.1.1 i j _ _ (cW_get hi) (cW_get hj) hxy
    · have hi : i < n := by
        have := (List.getElem?_eq_some_iff.mp hq).1
        simpa [cW] using this
      rw [cW_get hi] at hq
      cases hq
      exact wd.2.1.2 i (ad i, cE ad tc (h i)) (cW_get hi)
