/-! ===== a law's parts: the two ways of reading are one ===== -/
def leafS (a c : Int) : LSm := if a = 1 then (fun tf _ => tbI tf c) else if a = 2 then (fun tf _ => midI (midL tf c.toNat 9)) else (fun _ mo => if mo = c then 1 else 0)
def unR (op : Int → Int) (r : PRs) : PRs := match r with
  | .inl x => .inl x
  | .inr (s, e) => .inr (fun tf mo => op (s tf mo), e)
def fiR (t : Nat → Int) (le : Nat) (f : Nat → PRs) (e : Nat) : PRs := match f e with
  | .inl x => .inl x
  | .inr (s, e2) => pFs t le f 700 s e2
def cpR (t : Nat → Int) (le : Nat) (op : Int → Int → Int) (f : Nat → PRs) (e : Nat) : PRs := match f e with
  | .inl x => .inl x
  | .inr (s1, e1) => if signAt t le e1 44 = true then (match f (tkE t le e1) with
    | .inl x => .inl x
    | .inr (s2, e2) => pCl t le (fun tf mo => op (s1 tf mo) (s2 tf mo)) e2) else .inl (1, tkS t le e1)
def ifR (t : Nat → Int) (le : Nat) (f g : Nat → PRs) (e : Nat) : PRs := match g e with
  | .inl x => .inl x
  | .inr (s0, e1) => if wordAt t le e1 20 = true then (match f (tkE t le e1) with
    | .inl x => .inl x
    | .inr (s1, e2) => if wordAt t le e2 21 = true then (match f (tkE t le e2) with
      | .inl x => .inl x
      | .inr (s2, e3) => pWd t le 22 (fun tf mo => if s0 tf mo = 0 then s2 tf mo else s1 tf mo) e3) else .inl (1, tkS t le e2)) else .inl (1, tkS t le e1)
def opR (t : Nat → Int) (le : Nat) (nd : Int) (k : Nat) (a c : Int) (e : Nat) : PRs := if a = 14 then unR (fun z => laI z c) (pT t le nd k true e) else if a = 19 then unR ntI (pT t le nd k false e) else if a = 20 then unR dkI (pT t le nd k true e) else if a = 12 then fiR t le (pT t le nd k true) e else if a = 13 then cpR t le meI (pT t le nd k true) e else if a = 22 then cpR t le beI (pT t le nd k true) e else ifR t le (pT t le nd k true) (pT t le nd k false) e
def bgS (t : Nat → Int) (le : Nat) (nd : Int) (k : Nat) (r : BgR) : PRs := match r with
  | .inl x => .inl x
  | .inr (.inl y) => .inr (leafS y.1 y.2.1, y.2.2)
  | .inr (.inr y) => opR t le nd k y.1 y.2.1 y.2.2
theorem bgP_s {t : Nat → Int} {le : Nat} {nd : Int} {k : Nat} {a : Int} {e : Nat} : bgS t le nd k (bgP t le a e) = if signAt t le (tkE t le e) 40 = true then opR t le nd k a 1 (tkE t le (tkE t le e)) else .inl (1, tkS t le (tkE t le e)) := by
  unfold bgP
  split <;> rfl
theorem pT_T {t : Nat → Int} {le : Nat} {nd : Int} {k e : Nat} (hk : tkK t le e = 1) : pT t le nd (k + 1) true e = bgS t le nd k (bgT t le nd e) := by
  show (if tkK t le e = 1 then _ else _) = _
  rw [if_pos hk]
  unfold bgT
  by_cases w0 : wordAt t le e 0 = true
  · rw [if_pos w0, if_pos w0]
    unfold pDl
    cases pNum t le 0 (nd - 1) (tkE t le e) <;> rfl
  rw [if_neg w0, if_neg w0]
  by_cases w11 : wordAt t le e 11 = true
  · rw [if_pos w11, if_pos w11, pMd_i]
    cases pMdi t le nd (tkE t le e) with
    | inl x => rfl
    | inr y =>
      show (Sum.inr (_, y.2) : PRs) = Sum.inr (leafS 2 (y.1 : Int), y.2)
      unfold leafS
      rw [if_neg (by decide), if_pos rfl, Int.toNat_natCast]
  rw [if_neg w11, if_neg w11]
  by_cases w12 : wordAt t le e 12 = true
  · rw [if_pos w12, if_pos w12, bgP_s]
    unfold pFi
    split
    · unfold opR fiR
      rw [if_neg (by decide), if_neg (by decide), if_neg (by decide), if_pos rfl]
      rfl
    · rfl
  rw [if_neg w12, if_neg w12]
  by_cases w13 : wordAt t le e 13 = true
  · rw [if_pos w13, if_pos w13, bgP_s]
    unfold pCp
    split
    · unfold opR cpR
      rw [if_neg (by decide), if_neg (by decide), if_neg (by decide), if_neg (by decide), if_pos rfl]
      rfl
    · rfl
  rw [if_neg w13, if_neg w13]
  by_cases w14 : wordAt t le e 14 = true
  · rw [if_pos w14, if_pos w14]
    unfold pLt
    cases pSgn t le 720 (tkE t le e) with
    | inl x => rfl
    | inr y =>
      show _ = opR t le nd k 14 y.1 y.2
      unfold opR unR
      rw [if_pos rfl]
      dsimp only
      cases pT t le nd k true y.2 <;> rfl
  rw [if_neg w14, if_neg w14]
  by_cases w15 : wordAt t le e 15 = true
  · rw [if_pos w15, if_pos w15]
    show _ = opR t le nd k 15 1 (tkE t le e)
    unfold opR ifR pIf
    rw [if_neg (by decide), if_neg (by decide), if_neg (by decide), if_neg (by decide), if_neg (by decide), if_neg (by decide)]
    rfl
  rw [if_neg w15, if_neg w15]
  rfl
theorem pT_E {t : Nat → Int} {le : Nat} {nd : Int} {k e : Nat} (hk : tkK t le e = 1) : pT t le nd (k + 1) false e = bgS t le nd k (bgE t le e) := by
  show (if tkK t le e = 1 then _ else _) = _
  rw [if_pos hk]
  unfold bgE
  by_cases w16 : wordAt t le e 16 = true
  · rw [if_pos w16, if_pos w16]
    show _ = opR t le nd k 19 1 (tkE t le e)
    unfold opR unR pUn
    rw [if_neg (by decide), if_pos rfl]
    rfl
  rw [if_neg w16, if_neg w16]
  by_cases w17 : wordAt t le e 17 = true
  · rw [if_pos w17, if_pos w17]
    show _ = opR t le nd k 20 1 (tkE t le e)
    unfold opR unR pUn
    rw [if_neg (by decide), if_neg (by decide), if_pos rfl]
    rfl
  rw [if_neg w17, if_neg w17]
  by_cases w18 : wordAt t le e 18 = true
  · rw [if_pos w18, if_pos w18]
    unfold pMo
    cases pNum t le 0 11 (tkE t le e) with
    | inl x => rfl
    | inr y =>
      show (Sum.inr (_, y.2) : PRs) = Sum.inr (leafS 9 y.1, y.2)
      unfold leafS
      rw [if_neg (by decide), if_neg (by decide)]
  rw [if_neg w18, if_neg w18]
  by_cases w19 : wordAt t le e 19 = true
  · rw [if_pos w19, if_pos w19, bgP_s]
    unfold pCp
    split
    · unfold opR cpR
      rw [if_neg (by decide), if_neg (by decide), if_neg (by decide), if_neg (by decide), if_neg (by decide), if_pos rfl]
      rfl
    · rfl
  rw [if_neg w19, if_neg w19]
  rfl
theorem pT_bg {t : Nat → Int} {le : Nat} {nd : Int} {k e o : Nat} {b : Bool} (ho : ¬ o = 12) : pT t le nd (k + 1) b e = bgS t le nd k (bgR t le nd o b e) := by
  unfold bgR
  by_cases hk : tkK t le e = 1
  · rw [if_pos hk, if_neg ho]
    cases b with
    | true => rw [if_pos rfl, pT_T hk]
    | false => rw [if_neg (by decide), pT_E hk]
  · rw [if_neg hk]
    cases b with
    | true =>
      show (if tkK t le e = 1 then _ else _) = _
      rw [if_neg hk]
      rfl
    | false =>
      show (if tkK t le e = 1 then _ else _) = _
      rw [if_neg hk]
      rfl
theorem pT_b0 {t : Nat → Int} {le : Nat} {nd : Int} {e : Nat} {b : Bool} : pT t le nd 0 b e = bgS t le nd 0 (bgR t le nd 12 b e) := by
  unfold bgR
  show (if tkK t le e = 1 then _ else _) = _
  by_cases hk : tkK t le e = 1
  · rw [if_pos hk, if_pos hk, if_pos rfl]
    rfl
  · rw [if_neg hk, if_neg hk]
    rfl
theorem word_len {t : Nat → Int} {le e i : Nat} (he : e ≤ le) (h : wordAt t le e i = true) (hi : 2 ≤ sLen i) : e + 2 ≤ tkE t le e ∧ tkE t le e ≤ le := by
  have hB := tk_B t he
  unfold wordAt at h
  rw [Bool.and_eq_true, Bool.and_eq_true, decide_eq_true_eq, decide_eq_true_eq] at h
  omega
theorem pOt_m {t : Nat → Int} {le : Nat} {nd : Int} {b e b2 e2 : Nat} (he : e ≤ le) (h : pOt t le nd b e = .inr (b2, e2)) : e ≤ e2 ∧ e2 ≤ le := by
  have hB := tk_B t he
  unfold pOt at h
  split at h
  · split at h
    · simp only [Sum.inr.injEq, Prod.mk.injEq] at h
      omega
    · exact absurd h (by simp)
  · exact absurd h (by simp)
theorem pCl_m {α : Type} {t : Nat → Int} {le : Nat} {a a2 : α} {e e2 : Nat} (he : e ≤ le) (h : pCl t le a e = .inr (a2, e2)) : e < e2 ∧ e2 ≤ le ∧ a2 = a := by
  have hB := tk_B t he
  unfold pCl at h
  split at h
  · next hs =>
    unfold signAt at hs
    rw [Bool.and_eq_true, decide_eq_true_eq] at hs
    have h2 := hB.2.2.2.2.2 (by omega)
    simp only [Sum.inr.injEq, Prod.mk.injEq] at h
    exact ⟨by omega, by omega, h.1.symm⟩
  · exact absurd h (by simp)
theorem pMs_m {t : Nat → Int} {le : Nat} {nd : Int} : ∀ (w b e : Nat) {b2 e2 : Nat}, e ≤ le → pMs t le nd w b e = .inr (b2, e2) → e ≤ e2 ∧ e2 ≤ le := by
  intro w
  induction w with
  | zero => intro b e b2 e2 he h; have := pCl_m he h; omega
  | succ w ih =>
    intro b e b2 e2 he h
    have hB := tk_B t he
    rw [pMs_s] at h
    split at h
    · unfold pOs at h
      cases hq : pOt t le nd b (tkE t le e) with
      | inl x => rw [hq] at h; exact absurd h (by simp)
      | inr y =>
        rw [hq] at h
        have h1 := pOt_m (b2 := y.1) (e2 := y.2) hB.2.2.2.1 hq
        have h2 := ih y.1 y.2 h1.2 h
        omega
    · have := pCl_m he h
      omega
theorem pMdi_m {t : Nat → Int} {le : Nat} {nd : Int} {e b2 e2 : Nat} (he : e ≤ le) (h : pMdi t le nd e = .inr (b2, e2)) : e ≤ e2 ∧ e2 ≤ le := by
  have hB := tk_B t he
  unfold pMdi pOs at h
  split at h
  · cases hq : pOt t le nd 0 (tkE t le e) with
    | inl x => rw [hq] at h; exact absurd h (by simp)
    | inr y =>
      rw [hq] at h
      have h1 := pOt_m (b2 := y.1) (e2 := y.2) hB.2.2.2.1 hq
      have h2 := pMs_m 9 y.1 y.2 h1.2 h
      omega
  · exact absurd h (by simp)
theorem bgP_m {t : Nat → Int} {le e : Nat} {a : Int} {r : BgR} (he : tkE t le e ≤ le) (h : bgP t le a e = r) : (∃ x, r = .inl x) ∨ (∃ e2, r = .inr (.inr (a, 1, e2)) ∧ tkE t le e ≤ e2) := by
  have hB := tk_B t he
  unfold bgP at h
  split at h
  · exact Or.inr ⟨_, h.symm, by omega⟩
  · exact Or.inl ⟨_, h.symm⟩
/-- what a part may begin with -/
theorem bg_cases {t : Nat → Int} {le : Nat} {nd : Int} {o e : Nat} {b : Bool} (he : e ≤ le) {r : BgR} (h : bgR t le nd o b e = r) : (∃ x, r = .inl x) ∨ (∃ a c e2, r = .inr (.inl (a, c, e2)) ∧ e + 2 ≤ e2 ∧ ((b = true ∧ a = 1 ∧ 0 ≤ c ∧ c < nd) ∨ (b = true ∧ a = 2) ∨ (b = false ∧ a = 9 ∧ 0 ≤ c ∧ c ≤ 11))) ∨ (∃ a c e2, r = .inr (.inr (a, c, e2)) ∧ e + 2 ≤ e2 ∧ ((b = true ∧ (a = 12 ∨ a = 13 ∨ (a = 14 ∧ -720 ≤ c ∧ c ≤ 720) ∨ a = 15)) ∨ (b = false ∧ (a = 19 ∨ a = 20 ∨ a = 22)))) := by
  unfold bgR at h
  split at h
  · split at h
    · exact Or.inl ⟨_, h.symm⟩
    · split at h
      · next hb =>
        unfold bgT at h
        split at h
        · next w =>
          have wl := word_len he w (by decide)
          unfold bgN at h
          cases hq : pNum t le 0 (nd - 1) (tkE t le e) with
          | inl x => rw [hq] at h; exact Or.inl ⟨x, h.symm⟩
          | inr y =>
            rw [hq] at h
            have h1 := pNum_m (x := y.1) (e2 := y.2) wl.2 hq
            have h2 := pNum_ok (x := y.1) (e2 := y.2) hq
            exact Or.inr (Or.inl ⟨1, y.1, y.2, h.symm, by omega, Or.inl ⟨hb, rfl, by omega, by omega⟩⟩)
        split at h
        · next w =>
          have wl := word_len he w (by decide)
          unfold bgM at h
          cases hq : pMdi t le nd (tkE t le e) with
          | inl x => rw [hq] at h; exact Or.inl ⟨x, h.symm⟩
          | inr y =>
            rw [hq] at h
            have h1 := pMdi_m (b2 := y.1) (e2 := y.2) wl.2 hq
            exact Or.inr (Or.inl ⟨2, (y.1 : Int), y.2, h.symm, by omega, Or.inr (Or.inl ⟨hb, rfl⟩)⟩)
        split at h
        · next w =>
          have wl := word_len he w (by decide)
          rcases bgP_m wl.2 h with ⟨x, hx⟩ | ⟨e2, hx, hl⟩
          · exact Or.inl ⟨x, hx⟩
          · exact Or.inr (Or.inr ⟨12, 1, e2, hx, by omega, Or.inl ⟨hb, Or.inl rfl⟩⟩)
        split at h
        · next w =>
          have wl := word_len he w (by decide)
          rcases bgP_m wl.2 h with ⟨x, hx⟩ | ⟨e2, hx, hl⟩
          · exact Or.inl ⟨x, hx⟩
          · exact Or.inr (Or.inr ⟨13, 1, e2, hx, by omega, Or.inl ⟨hb, Or.inr (Or.inl rfl)⟩⟩)
        split at h
        · next w =>
          have wl := word_len he w (by decide)
          unfold bgL at h
          cases hq : pSgn t le 720 (tkE t le e) with
          | inl x => rw [hq] at h; exact Or.inl ⟨x, h.symm⟩
          | inr y =>
            rw [hq] at h
            have h1 := pSgn_m (x := y.1) (e2 := y.2) wl.2 hq
            have h2 := pSgn_ok (x := y.1) (e2 := y.2) hq
            exact Or.inr (Or.inr ⟨14, y.1, y.2, h.symm, by omega, Or.inl ⟨hb, Or.inr (Or.inr (Or.inl ⟨rfl, by omega, by omega⟩))⟩⟩)
        split at h
        · next w =>
          have wl := word_len he w (by decide)
          exact Or.inr (Or.inr ⟨15, 1, _, h.symm, wl.1, Or.inl ⟨hb, Or.inr (Or.inr (Or.inr rfl))⟩⟩)
        · exact Or.inl ⟨_, h.symm⟩
      · next hb =>
        have hb' : b = false := Bool.eq_false_iff.mpr hb
        unfold bgE at h
        split at h
        · next w =>
          have wl := word_len he w (by decide)
          exact Or.inr (Or.inr ⟨19, 1, _, h.symm, wl.1, Or.inr ⟨hb', Or.inl rfl⟩⟩)
        split at h
        · next w =>
          have wl := word_len he w (by decide)
          exact Or.inr (Or.inr ⟨20, 1, _, h.symm, wl.1, Or.inr ⟨hb', Or.inr (Or.inl rfl)⟩⟩)
        split at h
        · next w =>
          have wl := word_len he w (by decide)
          unfold bgN at h
          cases hq : pNum t le 0 11 (tkE t le e) with
          | inl x => rw [hq] at h; exact Or.inl ⟨x, h.symm⟩
          | inr y =>
            rw [hq] at h
            have h1 := pNum_m (x := y.1) (e2 := y.2) wl.2 hq
            have h2 := pNum_ok (x := y.1) (e2 := y.2) hq
            exact Or.inr (Or.inl ⟨9, y.1, y.2, h.symm, by omega, Or.inr (Or.inr ⟨hb', rfl, by omega, by omega⟩)⟩)
        split at h
        · next w =>
          have wl := word_len he w (by decide)
          rcases bgP_m wl.2 h with ⟨x, hx⟩ | ⟨e2, hx, hl⟩
          · exact Or.inl ⟨x, hx⟩
          · exact Or.inr (Or.inr ⟨22, 1, e2, hx, by omega, Or.inr ⟨hb', Or.inr (Or.inr rfl)⟩⟩)
        · exact Or.inl ⟨_, h.symm⟩
  · exact Or.inl ⟨_, h.symm⟩

