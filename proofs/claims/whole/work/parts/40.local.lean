/-! ===== a law that was read asks for dials of the port alone ===== -/
theorem midL_congr {f g : Nat → Int} {b : Nat} : ∀ k, (∀ j, j < k → b.testBit j = true → f j = g j) → midL f b k = midL g b k := by
  intro k
  induction k with
  | zero => intro _; rfl
  | succ k ih =>
    intro h
    unfold midL
    rw [ih (fun j hj => h j (by omega))]
    by_cases c : b.testBit k = true
    · rw [h k (by omega) c]
    · rw [if_neg (fun z => c z.1), if_neg (fun z => c z.1)]
theorem mid_loc {nd : Int} {b : Nat} (hn : 0 ≤ nd) (hb : b < 2 ^ nd.toNat) : LocL nd (fun tf _ => midI (midL tf b 9)) := by
  intro tf tf2 mo h
  show midI (midL tf b 9) = midI (midL tf2 b 9)
  rw [midL_congr (f := tf) (g := tf2) 9 (fun j _ hj => by
    by_cases c : (j : Int) < nd
    · exact h j c
    · have h1 : 2 ^ nd.toNat ≤ 2 ^ j := Nat.pow_le_pow_right (by decide) (by omega)
      rw [Nat.testBit_lt_two_pow (Nat.lt_of_lt_of_le hb h1)] at hj
      cases hj)]
theorem loc_un {nd : Int} {s : LSm} {op : Int → Int} (h : LocL nd s) : LocL nd (fun tf mo => op (s tf mo)) := fun tf tf2 mo hj => by
  show op (s tf mo) = op (s tf2 mo)
  rw [h tf tf2 mo hj]
theorem loc_bi {nd : Int} {s1 s2 : LSm} {op : Int → Int → Int} (h1 : LocL nd s1) (h2 : LocL nd s2) : LocL nd (fun tf mo => op (s1 tf mo) (s2 tf mo)) := fun tf tf2 mo hj => by
  show op (s1 tf mo) (s2 tf mo) = op (s1 tf2 mo) (s2 tf2 mo)
  rw [h1 tf tf2 mo hj, h2 tf tf2 mo hj]
theorem loc_fs {nd : Int} {s1 s2 : LSm} (h1 : LocL nd s1) (h2 : LocL nd s2) : LocL nd (fsO s1 s2) := fun tf tf2 mo hj => by
  unfold fsO
  rw [h1 tf tf2 mo hj, h2 tf tf2 mo hj]
theorem loc_if {nd : Int} {s0 s1 s2 : LSm} (h0 : LocL nd s0) (h1 : LocL nd s1) (h2 : LocL nd s2) : LocL nd (fun tf mo => if s0 tf mo = 0 then s2 tf mo else s1 tf mo) := fun tf tf2 mo hj => by
  show (if s0 tf mo = 0 then s2 tf mo else s1 tf mo) = (if s0 tf2 mo = 0 then s2 tf2 mo else s1 tf2 mo)
  rw [h0 tf tf2 mo hj, h1 tf tf2 mo hj, h2 tf tf2 mo hj]
section
variable {t : Nat → Int} {le : Nat} {nd : Int}
theorem pDl_loc {e : Nat} {s : LSm} {e2 : Nat} (h : pDl t le nd e = .inr (s, e2)) : LocL nd s := by
  unfold pDl at h
  cases hp : pNum t le 0 (nd - 1) (tkE t le e) with
  | inl x => rw [hp] at h; cases h
  | inr y =>
    obtain ⟨v, e3⟩ := y
    rw [hp] at h
    cases h
    have hb := pNum_ok hp
    intro tf tf2 mo hj
    show tbI tf v = tbI tf2 v
    unfold tbI
    rw [hj v.toNat (by omega)]
theorem pMo_loc {e : Nat} {s : LSm} {e2 : Nat} (h : pMo t le e = .inr (s, e2)) : LocL nd s := by
  unfold pMo at h
  cases hp : pNum t le 0 11 (tkE t le e) with
  | inl x => rw [hp] at h; cases h
  | inr y =>
    obtain ⟨v, e3⟩ := y
    rw [hp] at h
    cases h
    intro tf tf2 mo hj
    rfl
theorem pOt_lt {b e b2 e2 : Nat} (hb : b < 2 ^ nd.toNat) (h : pOt t le nd b e = .inr (b2, e2)) : b2 < 2 ^ nd.toNat := by
  unfold pOt at h
  split at h
  · next z =>
    split at h
    · cases h
      have hn := pNum_ok (t := t) (le := le) (e := e) (lo := 0) (hi := nd - 1) (x := numAt t le e) (e2 := tkE t le e) (by unfold pNum; rw [if_pos z])
      exact Nat.or_lt_two_pow hb (Nat.pow_lt_pow_right (by decide) (by omega))
    · cases h
  · cases h
theorem pCl_in {α : Type} {a a2 : α} {e e2 : Nat} (h : pCl t le a e = .inr (a2, e2)) : a2 = a := by
  unfold pCl at h
  split at h
  · cases h; rfl
  · cases h
theorem pMs_lt : ∀ (w b e : Nat) {b2 e2 : Nat}, b < 2 ^ nd.toNat → pMs t le nd w b e = .inr (b2, e2) → b2 < 2 ^ nd.toNat := by
  intro w
  induction w with
  | zero => intro b e b2 e2 hb h; rw [pCl_in (show pCl t le b e = .inr (b2, e2) from h)]; exact hb
  | succ w ih =>
    intro b e b2 e2 hb h
    unfold pMs at h
    split at h
    · cases ho : pOt t le nd b (tkE t le e) with
      | inl x => rw [ho] at h; cases h
      | inr y =>
        obtain ⟨b3, e3⟩ := y
        rw [ho] at h
        exact ih b3 e3 (pOt_lt hb ho) h
    · rw [pCl_in h]; exact hb
theorem pMd_loc (hn : 0 ≤ nd) {e : Nat} {s : LSm} {e2 : Nat} (h : pMd t le nd e = .inr (s, e2)) : LocL nd s := by
  unfold pMd at h
  split at h
  · cases ho : pOt t le nd 0 (tkE t le (tkE t le e)) with
    | inl x => rw [ho] at h; cases h
    | inr y =>
      obtain ⟨b3, e3⟩ := y
      rw [ho] at h
      dsimp only at h
      cases hm : pMs t le nd 9 b3 e3 with
      | inl x => rw [hm] at h; cases h
      | inr z =>
        obtain ⟨b4, e4⟩ := z
        rw [hm] at h
        cases h
        exact mid_loc hn (pMs_lt 9 b3 e3 (pOt_lt (Nat.pow_pos (by decide)) ho) hm)
  · cases h
theorem pFs_loc {f : Nat → PRs} (hf : ∀ e s e2, f e = .inr (s, e2) → LocL nd s) : ∀ (w : Nat) (a : LSm) (e : Nat) {s : LSm} {e2 : Nat}, LocL nd a → pFs t le f w a e = .inr (s, e2) → LocL nd s := by
  intro w
  induction w with
  | zero => intro a e s e2 ha h; rw [pCl_in (show pCl t le a e = .inr (s, e2) from h)]; exact ha
  | succ w ih =>
    intro a e s e2 ha h
    unfold pFs at h
    split at h
    · cases ho : f (tkE t le e) with
      | inl x => rw [ho] at h; cases h
      | inr y =>
        obtain ⟨s3, e3⟩ := y
        rw [ho] at h
        exact ih _ e3 (loc_fs ha (hf _ _ _ ho)) h
    · rw [pCl_in h]; exact ha
theorem pFi_loc {f : Nat → PRs} (hf : ∀ e s e2, f e = .inr (s, e2) → LocL nd s) {e : Nat} {s : LSm} {e2 : Nat} (h : pFi t le f e = .inr (s, e2)) : LocL nd s := by
  unfold pFi at h
  split at h
  · cases ho : f (tkE t le (tkE t le e)) with
    | inl x => rw [ho] at h; cases h
    | inr y =>
      obtain ⟨s3, e3⟩ := y
      rw [ho] at h
      exact pFs_loc hf 700 s3 e3 (hf _ _ _ ho) h
  · cases h
theorem pCp_loc {op : Int → Int → Int} {f : Nat → PRs} (hf : ∀ e s e2, f e = .inr (s, e2) → LocL nd s) {e : Nat} {s : LSm} {e2 : Nat} (h : pCp t le op f e = .inr (s, e2)) : LocL nd s := by
  unfold pCp at h
  split at h
  · cases ho : f (tkE t le (tkE t le e)) with
    | inl x => rw [ho] at h; cases h
    | inr y =>
      obtain ⟨s1, e1⟩ := y
      rw [ho] at h
      dsimp only at h
      split at h
      · cases hp : f (tkE t le e1) with
        | inl x => rw [hp] at h; cases h
        | inr z =>
          obtain ⟨s2, e3⟩ := z
          rw [hp] at h
          rw [pCl_in h]
          exact loc_bi (hf _ _ _ ho) (hf _ _ _ hp)
      · cases h
  · cases h
theorem pLt_loc {f : Nat → PRs} (hf : ∀ e s e2, f e = .inr (s, e2) → LocL nd s) {e : Nat} {s : LSm} {e2 : Nat} (h : pLt t le f e = .inr (s, e2)) : LocL nd s := by
  unfold pLt at h
  cases hp : pSgn t le 720 (tkE t le e) with
  | inl x => rw [hp] at h; cases h
  | inr y =>
    obtain ⟨v, e1⟩ := y
    rw [hp] at h
    dsimp only at h
    cases ho : f e1 with
    | inl x => rw [ho] at h; cases h
    | inr z =>
      obtain ⟨s1, e3⟩ := z
      rw [ho] at h
      cases h
      exact loc_un (op := fun x => laI x v) (hf _ _ _ ho)
theorem pUn_loc {op : Int → Int} {f : Nat → PRs} (hf : ∀ e s e2, f e = .inr (s, e2) → LocL nd s) {e : Nat} {s : LSm} {e2 : Nat} (h : pUn t le op f e = .inr (s, e2)) : LocL nd s := by
  unfold pUn at h
  cases ho : f (tkE t le e) with
  | inl x => rw [ho] at h; cases h
  | inr z =>
    obtain ⟨s1, e3⟩ := z
    rw [ho] at h
    cases h
    exact loc_un (hf _ _ _ ho)
theorem pIf_loc {f g : Nat → PRs} (hf : ∀ e s e2, f e = .inr (s, e2) → LocL nd s) (hg : ∀ e s e2, g e = .inr (s, e2) → LocL nd s) {e : Nat} {s : LSm} {e2 : Nat} (h : pIf t le f g e = .inr (s, e2)) : LocL nd s := by
  unfold pIf at h
  cases h0 : g (tkE t le e) with
  | inl x => rw [h0] at h; cases h
  | inr y =>
    obtain ⟨s0, e1⟩ := y
    rw [h0] at h
    dsimp only at h
    split at h
    · cases h1 : f (tkE t le e1) with
      | inl x => rw [h1] at h; cases h
      | inr y =>
        obtain ⟨s1, e3⟩ := y
        rw [h1] at h
        dsimp only at h
        split at h
        · cases h2 : f (tkE t le e3) with
          | inl x => rw [h2] at h; cases h
          | inr y =>
            obtain ⟨s2, e4⟩ := y
            rw [h2] at h
            dsimp only at h
            unfold pWd at h
            split at h
            · cases h
              exact loc_if (hg _ _ _ h0) (hf _ _ _ h1) (hf _ _ _ h2)
            · cases h
        · cases h
    · cases h
theorem pT_loc (hn : 0 ≤ nd) : ∀ (k : Nat) (b : Bool) (e : Nat) (s : LSm) (e2 : Nat), pT t le nd k b e = .inr (s, e2) → LocL nd s := by
  intro k
  induction k with
  | zero =>
    intro b e s e2 h
    unfold pT at h
    split at h <;> cases h
  | succ k ih =>
    intro b e s e2 h
    cases b with
    | true =>
      rw [pT_t] at h
      split at h
      · split at h
        · exact pDl_loc h
        · split at h
          · exact pMd_loc hn h
          · split at h
            · exact pFi_loc (ih true) h
            · split at h
              · exact pCp_loc (ih true) h
              · split at h
                · exact pLt_loc (ih true) h
                · split at h
                  · exact pIf_loc (ih true) (ih false) h
                  · cases h
      · cases h
    | false =>
      rw [pT_f] at h
      split at h
      · split at h
        · exact pUn_loc (ih false) h
        · split at h
          · exact pUn_loc (ih true) h
          · split at h
            · exact pMo_loc h
            · split at h
              · exact pCp_loc (ih true) h
              · cases h
      · cases h
theorem pLaw_loc (hn : 0 ≤ nd) {s : LSm} (h : pLaw t le nd = .inr s) : LocL nd s := by
  unfold pLaw at h
  cases hp : pT t le nd 12 true 0 with
  | inl x => rw [hp] at h; cases h
  | inr y =>
    obtain ⟨s1, e1⟩ := y
    rw [hp] at h
    dsimp only at h
    split at h
    · cases h
      exact pT_loc hn 12 true 0 _ _ hp
    · cases h
end
