/-! ===== the law's reader: what is read, and what the nodes then tell ===== -/
abbrev LSm : Type := (Nat → Int) → Int → Int
abbrev PRs : Type := (Int × Nat) ⊕ (LSm × Nat)
abbrev LDt : Type := Nat × (Nat → Int) × (Nat → Int) × (Nat → Int) × (Nat → Int)
def fsO (a b : LSm) : LSm := fun tf mo => if a tf mo = -1 then b tf mo else a tf mo
def pDl (t : Nat → Int) (le : Nat) (nd : Int) (e : Nat) : PRs := match pNum t le 0 (nd - 1) (tkE t le e) with
  | .inl x => .inl x
  | .inr (v, e2) => .inr (fun tf _ => tbI tf v, e2)
def pMo (t : Nat → Int) (le e : Nat) : PRs := match pNum t le 0 11 (tkE t le e) with
  | .inl x => .inl x
  | .inr (v, e2) => .inr (fun _ mo => if mo = v then 1 else 0, e2)
def pOt (t : Nat → Int) (le : Nat) (nd : Int) (b e : Nat) : (Int × Nat) ⊕ (Nat × Nat) := if numF t le e 0 (nd - 1) = 0 then (if b &&& 2 ^ (numAt t le e).toNat = 0 then .inr (b ||| 2 ^ (numAt t le e).toNat, tkE t le e) else .inl (3, tkS t le e)) else .inl (numF t le e 0 (nd - 1), tkS t le e)
def pCl {α : Type} (t : Nat → Int) (le : Nat) (a : α) (e : Nat) : (Int × Nat) ⊕ (α × Nat) := if signAt t le e 41 = true then .inr (a, tkE t le e) else .inl (1, tkS t le e)
def pMs (t : Nat → Int) (le : Nat) (nd : Int) : Nat → Nat → Nat → (Int × Nat) ⊕ (Nat × Nat)
  | 0, b, e => pCl t le b e
  | w + 1, b, e => if signAt t le e 44 = true then (match pOt t le nd b (tkE t le e) with
      | .inl x => .inl x
      | .inr (b2, e2) => pMs t le nd w b2 e2) else pCl t le b e
def pMd (t : Nat → Int) (le : Nat) (nd : Int) (e : Nat) : PRs := if signAt t le (tkE t le e) 40 = true then (match pOt t le nd 0 (tkE t le (tkE t le e)) with
  | .inl x => .inl x
  | .inr (b, e2) => match pMs t le nd 9 b e2 with
    | .inl x => .inl x
    | .inr (b3, e3) => .inr (fun tf _ => midI (midL tf b3 9), e3)) else .inl (1, tkS t le (tkE t le e))
def pFs (t : Nat → Int) (le : Nat) (f : Nat → PRs) : Nat → LSm → Nat → PRs
  | 0, a, e => pCl t le a e
  | w + 1, a, e => if signAt t le e 44 = true then (match f (tkE t le e) with
      | .inl x => .inl x
      | .inr (s, e2) => pFs t le f w (fsO a s) e2) else pCl t le a e
def pFi (t : Nat → Int) (le : Nat) (f : Nat → PRs) (e : Nat) : PRs := if signAt t le (tkE t le e) 40 = true then (match f (tkE t le (tkE t le e)) with
  | .inl x => .inl x
  | .inr (s, e2) => pFs t le f 700 s e2) else .inl (1, tkS t le (tkE t le e))
def pCp (t : Nat → Int) (le : Nat) (op : Int → Int → Int) (f : Nat → PRs) (e : Nat) : PRs := if signAt t le (tkE t le e) 40 = true then (match f (tkE t le (tkE t le e)) with
  | .inl x => .inl x
  | .inr (s1, e1) => if signAt t le e1 44 = true then (match f (tkE t le e1) with
    | .inl x => .inl x
    | .inr (s2, e2) => pCl t le (fun tf mo => op (s1 tf mo) (s2 tf mo)) e2) else .inl (1, tkS t le e1)) else .inl (1, tkS t le (tkE t le e))
def pLt (t : Nat → Int) (le : Nat) (f : Nat → PRs) (e : Nat) : PRs := match pSgn t le 720 (tkE t le e) with
  | .inl x => .inl x
  | .inr (v, e1) => match f e1 with
    | .inl x => .inl x
    | .inr (s, e2) => .inr (fun tf mo => laI (s tf mo) v, e2)
def pWd {α : Type} (t : Nat → Int) (le i : Nat) (a : α) (e : Nat) : (Int × Nat) ⊕ (α × Nat) := if wordAt t le e i = true then .inr (a, tkE t le e) else .inl (1, tkS t le e)
def pIf (t : Nat → Int) (le : Nat) (f g : Nat → PRs) (e : Nat) : PRs := match g (tkE t le e) with
  | .inl x => .inl x
  | .inr (s0, e1) => if wordAt t le e1 20 = true then (match f (tkE t le e1) with
    | .inl x => .inl x
    | .inr (s1, e2) => if wordAt t le e2 21 = true then (match f (tkE t le e2) with
      | .inl x => .inl x
      | .inr (s2, e3) => pWd t le 22 (fun tf mo => if s0 tf mo = 0 then s2 tf mo else s1 tf mo) e3) else .inl (1, tkS t le e2)) else .inl (1, tkS t le e1)
def pUn (t : Nat → Int) (le : Nat) (op : Int → Int) (f : Nat → PRs) (e : Nat) : PRs := match f (tkE t le e) with
  | .inl x => .inl x
  | .inr (s, e1) => .inr (fun tf mo => op (s tf mo), e1)
def dkI (a : Int) : Int := if a = -1 then 1 else 0
def ntI (a : Int) : Int := 1 - a
def pT (t : Nat → Int) (le : Nat) (nd : Int) : Nat → Bool → Nat → PRs
  | 0, _, e => if tkK t le e = 1 then .inl (2, tkS t le e) else .inl (1, tkS t le e)
  | k + 1, true, e => if tkK t le e = 1 then
      (if wordAt t le e 0 = true then pDl t le nd e else if wordAt t le e 11 = true then pMd t le nd e else if wordAt t le e 12 = true then pFi t le (pT t le nd k true) e else if wordAt t le e 13 = true then pCp t le meI (pT t le nd k true) e
        else if wordAt t le e 14 = true then pLt t le (pT t le nd k true) e else if wordAt t le e 15 = true then pIf t le (pT t le nd k true) (pT t le nd k false) e else .inl (4, tkS t le e)) else .inl (1, tkS t le e)
  | k + 1, false, e => if tkK t le e = 1 then
      (if wordAt t le e 16 = true then pUn t le ntI (pT t le nd k false) e else if wordAt t le e 17 = true then pUn t le dkI (pT t le nd k true) e else if wordAt t le e 18 = true then pMo t le e else if wordAt t le e 19 = true then pCp t le beI (pT t le nd k true) e
        else .inl (4, tkS t le e)) else .inl (1, tkS t le e)
def pLaw (t : Nat → Int) (le : Nat) (nd : Int) : (Int × Nat) ⊕ LSm := match pT t le nd 12 true 0 with
  | .inl x => .inl x
  | .inr (s, e) => if tkK t le e = 0 then .inr s else .inl (1, tkS t le e)
/-- two rows of nodes agree from lo to hi, but for what comes behind lo itself -/
def Agr (d d2 : LDt) (lo hi : Nat) : Prop := ∀ j, lo ≤ j → j < hi → d2.2.1 j = d.2.1 j ∧ d2.2.2.1 j = d.2.2.1 j ∧ d2.2.2.2.1 j = d.2.2.2.1 j ∧ (j = lo ∨ d2.2.2.2.2 j = d.2.2.2.2 j)
def evD (d : LDt) (tf : Nat → Int) (mo : Int) (k : Nat) (t : Bool) (p : Int) : Int := evI d.1 d.2.1 d.2.2.1 d.2.2.2.1 d.2.2.2.2 tf mo k t p
/-- the node lo, with its parts up to hi, tells s at level k -/
def DenL (d : LDt) (lo hi k : Nat) (t : Bool) (s : LSm) : Prop := lo < hi ∧ ∀ d2 : LDt, Agr d d2 lo hi → hi ≤ d2.1 → ∀ tf mo, evD d2 tf mo k t lo = s tf mo
theorem Agr.trans {a b c : LDt} {lo hi : Nat} (h1 : Agr a b lo hi) (h2 : Agr b c lo hi) : Agr a c lo hi := by
  intro j a1 a2
  obtain ⟨x1, x2, x3, x4⟩ := h1 j a1 a2
  obtain ⟨y1, y2, y3, y4⟩ := h2 j a1 a2
  refine ⟨y1.trans x1, y2.trans x2, y3.trans x3, ?_⟩
  rcases x4 with x4 | x4
  · exact Or.inl x4
  · rcases y4 with y4 | y4
    · exact Or.inl y4
    · exact Or.inr (y4.trans x4)
theorem DenL.move {a b : LDt} {lo hi k : Nat} {t : Bool} {s : LSm} (h : DenL a lo hi k t s) (g : Agr a b lo hi) : DenL b lo hi k t s := ⟨h.1, fun d2 ha => h.2 d2 (g.trans ha)⟩
theorem Agr.sub {a b : LDt} {lo hi lo2 hi2 : Nat} (h : Agr a b lo hi) (h1 : lo < lo2) (h2 : hi2 ≤ hi) : Agr a b lo2 hi2 := by
  intro j a1 a2
  obtain ⟨x1, x2, x3, x4⟩ := h j (by omega) (by omega)
  exact ⟨x1, x2, x3, Or.inr (x4.resolve_left (by omega))⟩
theorem nod_at {N : Nat} {d : LDt} (h : N < d.1) : nodI (d.1 : Int) (N : Int) = true := nod_T.mpr ⟨by omega, by omega⟩
theorem pt_0 {d : LDt} {N : Nat} (h : N < d.1) : ptI d.1 d.2.2.2.1 d.2.2.2.2 (N : Int) 0 = d.2.2.2.1 N := by
  unfold ptI parI
  rw [if_pos (nod_at h), Int.toNat_natCast]
theorem pt_1 {d : LDt} {N a : Nat} (h : N < d.1) (hf : d.2.2.2.1 N = a) (ha : a < d.1) : ptI d.1 d.2.2.2.1 d.2.2.2.2 (N : Int) 1 = d.2.2.2.2 a := by
  unfold ptI parI parI
  rw [if_pos (nod_at h), Int.toNat_natCast, hf, if_pos (nod_at ha), Int.toNat_natCast]
theorem pt_2 {d : LDt} {N a b : Nat} (h : N < d.1) (hf : d.2.2.2.1 N = a) (ha : a < d.1) (hn : d.2.2.2.2 a = b) (hb : b < d.1) : ptI d.1 d.2.2.2.1 d.2.2.2.2 (N : Int) 2 = d.2.2.2.2 b := by
  unfold ptI parI parI parI
  rw [if_pos (nod_at h), Int.toNat_natCast, hf, if_pos (nod_at ha), Int.toNat_natCast, hn, if_pos (nod_at hb), Int.toNat_natCast]
section
variable {D : LDt} {N M k : Nat}
theorem den_dial {v : Int} (hs : D.2.1 N = 0) (hv : D.2.2.1 N = v) : DenL D N (N + 1) (k + 1) true (fun tf _ => tbI tf v) := by
  refine ⟨Nat.lt_succ_self _, fun d2 ha hN tf mo => ?_⟩
  obtain ⟨a1, a2, a3, a4⟩ := ha N (Nat.le_refl _) (Nat.lt_succ_self _)
  unfold evD
  rw [ev_0 (nod_at hN) (by rw [Int.toNat_natCast, a1, hs]), Int.toNat_natCast, a2, hv]
theorem den_mid {b : Nat} (hs : D.2.1 N = 1) (hv : D.2.2.1 N = b) : DenL D N (N + 1) (k + 1) true (fun tf _ => midI (midL tf b 9)) := by
  refine ⟨Nat.lt_succ_self _, fun d2 ha hN tf mo => ?_⟩
  obtain ⟨a1, a2, a3, a4⟩ := ha N (Nat.le_refl _) (Nat.lt_succ_self _)
  unfold evD
  rw [ev_1 (nod_at hN) (by rw [Int.toNat_natCast, a1, hs]), Int.toNat_natCast, a2, hv, Int.toNat_natCast]
theorem den_month {v : Int} (hs : D.2.1 N = 8) (hv : D.2.2.1 N = v) : DenL D N (N + 1) (k + 1) false (fun _ mo => if mo = v then 1 else 0) := by
  refine ⟨Nat.lt_succ_self _, fun d2 ha hN tf mo => ?_⟩
  obtain ⟨a1, a2, a3, a4⟩ := ha N (Nat.le_refl _) (Nat.lt_succ_self _)
  unfold evD
  rw [ev_8 (nod_at hN) (by rw [Int.toNat_natCast, a1, hs]), Int.toNat_natCast, a2, hv]
theorem den_late {v : Int} {s : LSm} (hs : D.2.1 N = 4) (hv : D.2.2.1 N = v) (hf : D.2.2.2.1 N = ((N + 1 : Nat) : Int)) (h1 : DenL D (N + 1) M k true s) : DenL D N M (k + 1) true (fun tf mo => laI (s tf mo) v) := by
  refine ⟨by have := h1.1; omega, fun d2 ha hN tf mo => ?_⟩
  have l1 := h1.1
  obtain ⟨a1, a2, a3, a4⟩ := ha N (Nat.le_refl _) (by omega)
  have e1 := h1.2 d2 (ha.sub (by omega) (Nat.le_refl _)) hN tf mo
  unfold evD at e1 ⊢
  rw [ev_4 (nod_at (by omega)) (by rw [Int.toNat_natCast, a1, hs]), pt_0 (by omega), a3, hf, e1, Int.toNat_natCast, a2, hv]
theorem den_not {s : LSm} (hs : D.2.1 N = 6) (hf : D.2.2.2.1 N = ((N + 1 : Nat) : Int)) (h1 : DenL D (N + 1) M k false s) : DenL D N M (k + 1) false (fun tf mo => ntI (s tf mo)) := by
  refine ⟨by have := h1.1; omega, fun d2 ha hN tf mo => ?_⟩
  have l1 := h1.1
  obtain ⟨a1, a2, a3, a4⟩ := ha N (Nat.le_refl _) (by omega)
  have e1 := h1.2 d2 (ha.sub (by omega) (Nat.le_refl _)) hN tf mo
  unfold evD at e1 ⊢
  rw [ev_6 (nod_at (by omega)) (by rw [Int.toNat_natCast, a1, hs]), pt_0 (by omega), a3, hf, e1]
  rfl
theorem den_dark {s : LSm} (hs : D.2.1 N = 7) (hf : D.2.2.2.1 N = ((N + 1 : Nat) : Int)) (h1 : DenL D (N + 1) M k true s) : DenL D N M (k + 1) false (fun tf mo => dkI (s tf mo)) := by
  refine ⟨by have := h1.1; omega, fun d2 ha hN tf mo => ?_⟩
  have l1 := h1.1
  obtain ⟨a1, a2, a3, a4⟩ := ha N (Nat.le_refl _) (by omega)
  have e1 := h1.2 d2 (ha.sub (by omega) (Nat.le_refl _)) hN tf mo
  unfold evD at e1 ⊢
  rw [ev_7 (nod_at (by omega)) (by rw [Int.toNat_natCast, a1, hs]), pt_0 (by omega), a3, hf, e1]
  rfl
theorem den_mean {N1 : Nat} {s1 s2 : LSm} (hs : D.2.1 N = 3) (hf : D.2.2.2.1 N = ((N + 1 : Nat) : Int)) (hn : D.2.2.2.2 (N + 1) = (N1 : Int)) (h1 : DenL D (N + 1) N1 k true s1) (h2 : DenL D N1 M k true s2) : DenL D N M (k + 1) true (fun tf mo => meI (s1 tf mo) (s2 tf mo)) := by
  refine ⟨by have := h1.1; have := h2.1; omega, fun d2 ha hN tf mo => ?_⟩
  have l1 := h1.1
  have l2 := h2.1
  obtain ⟨a1, a2, a3, a4⟩ := ha N (Nat.le_refl _) (by omega)
  obtain ⟨b1, b2, b3, b4⟩ := ha (N + 1) (by omega) (by omega)
  have b5 := b4.resolve_left (by omega)
  have e1 := h1.2 d2 (ha.sub (by omega) (by omega)) (by omega) tf mo
  have e2 := h2.2 d2 (ha.sub (by omega) (Nat.le_refl _)) hN tf mo
  unfold evD at e1 e2 ⊢
  rw [ev_3 (nod_at (by omega)) (by rw [Int.toNat_natCast, a1, hs]), pt_0 (by omega), pt_1 (by omega) (a3.trans hf) (by omega), a3, hf, e1, b5, hn, e2]
theorem den_before {N1 : Nat} {s1 s2 : LSm} (hs : D.2.1 N = 9) (hf : D.2.2.2.1 N = ((N + 1 : Nat) : Int)) (hn : D.2.2.2.2 (N + 1) = (N1 : Int)) (h1 : DenL D (N + 1) N1 k true s1) (h2 : DenL D N1 M k true s2) : DenL D N M (k + 1) false (fun tf mo => beI (s1 tf mo) (s2 tf mo)) := by
  refine ⟨by have := h1.1; have := h2.1; omega, fun d2 ha hN tf mo => ?_⟩
  have l1 := h1.1
  have l2 := h2.1
  obtain ⟨a1, a2, a3, a4⟩ := ha N (Nat.le_refl _) (by omega)
  obtain ⟨b1, b2, b3, b4⟩ := ha (N + 1) (by omega) (by omega)
  have b5 := b4.resolve_left (by omega)
  have e1 := h1.2 d2 (ha.sub (by omega) (by omega)) (by omega) tf mo
  have e2 := h2.2 d2 (ha.sub (by omega) (Nat.le_refl _)) hN tf mo
  unfold evD at e1 e2 ⊢
  rw [ev_9 (nod_at (by omega)) (by rw [Int.toNat_natCast, a1, hs]), pt_0 (by omega), pt_1 (by omega) (a3.trans hf) (by omega), a3, hf, e1, b5, hn, e2]
theorem den_if {N1 N2 : Nat} {s0 s1 s2 : LSm} (hs : D.2.1 N = 5) (hf : D.2.2.2.1 N = ((N + 1 : Nat) : Int)) (hn : D.2.2.2.2 (N + 1) = (N1 : Int)) (hn2 : D.2.2.2.2 N1 = (N2 : Int)) (h0 : DenL D (N + 1) N1 k false s0) (h1 : DenL D N1 N2 k true s1) (h2 : DenL D N2 M k true s2) : DenL D N M (k + 1) true (fun tf mo => if s0 tf mo = 0 then s2 tf mo else s1 tf mo) := by
  refine ⟨by have := h1.1; have := h2.1; have := h0.1; omega, fun d2 ha hN tf mo => ?_⟩
  have l0 := h0.1
  have l1 := h1.1
  have l2 := h2.1
  obtain ⟨a1, a2, a3, a4⟩ := ha N (Nat.le_refl _) (by omega)
  obtain ⟨b1, b2, b3, b4⟩ := ha (N + 1) (by omega) (by omega)
  have b5 := b4.resolve_left (by omega)
  obtain ⟨c1, c2, c3, c4⟩ := ha N1 (by omega) (by omega)
  have c5 := c4.resolve_left (by omega)
  have e0 := h0.2 d2 (ha.sub (by omega) (by omega)) (by omega) tf mo
  have e1 := h1.2 d2 (ha.sub (by omega) (by omega)) (by omega) tf mo
  have e2 := h2.2 d2 (ha.sub (by omega) (Nat.le_refl _)) hN tf mo
  unfold evD at e0 e1 e2 ⊢
  rw [ev_5 (nod_at (by omega)) (by rw [Int.toNat_natCast, a1, hs]), pt_0 (by omega), a3, hf, e0]
  by_cases c : s0 tf mo = 0
  · rw [if_pos c, pt_2 (by omega) (a3.trans hf) (by omega) (b5.trans hn) (by omega), c5, hn2, e2]
    exact (if_pos c).symm
  · rw [if_neg c, pt_1 (by omega) (a3.trans hf) (by omega), b5, hn, e1]
    exact (if_neg c).symm
/-- a chain of m parts from lo to hi, whose last one is `la` -/
def Chn (d : LDt) (lo hi la m k : Nat) (a : LSm) : Prop := lo ≤ la ∧ la < hi ∧ m ≤ hi - lo ∧ ∀ d2 : LDt, (∀ j, lo ≤ j → j < hi → d2.2.1 j = d.2.1 j ∧ d2.2.2.1 j = d.2.2.1 j ∧ d2.2.2.2.1 j = d.2.2.2.1 j ∧ (j = la ∨ d2.2.2.2.2 j = d.2.2.2.2 j)) → hi ≤ d2.1 → ∀ tf mo w, fsC (evD d2 tf mo k true) d2.1 d2.2.2.2.2 (m + w) lo = if a tf mo = -1 then fsC (evD d2 tf mo k true) d2.1 d2.2.2.2.2 w (d2.2.2.2.2 la) else a tf mo
theorem chn_1 {lo hi : Nat} {s : LSm} (h : DenL D lo hi k true s) : Chn D lo hi lo 1 k s := by
  have l1 := h.1
  refine ⟨Nat.le_refl _, l1, by omega, fun d2 ha hN tf mo w => ?_⟩
  have e := h.2 d2 ha hN tf mo
  rw [Nat.add_comm]
  show (if nodI (d2.1 : Int) (lo : Int) = true then _ else _) = _
  rw [if_pos (nod_at (by omega)), e, Int.toNat_natCast]
theorem chn_s {D2 : LDt} {lo hi hi2 la m : Nat} {a s : LSm} (h : Chn D lo hi la m k a) (hg : ∀ j, lo ≤ j → j < hi → D2.2.1 j = D.2.1 j ∧ D2.2.2.1 j = D.2.2.1 j ∧ D2.2.2.2.1 j = D.2.2.2.1 j ∧ (j = la ∨ D2.2.2.2.2 j = D.2.2.2.2 j)) (hl : D2.2.2.2.2 la = (hi : Int)) (h2 : DenL D2 hi hi2 k true s) : Chn D2 lo hi2 hi (m + 1) k (fsO a s) := by
  obtain ⟨q1, q2, q3, q4⟩ := h
  have l2 := h2.1
  refine ⟨by omega, l2, by omega, fun d2 ha hN tf mo w => ?_⟩
  have e2 := h2.2 d2 (fun j a1 a2 => by
    obtain ⟨x1, x2, x3, x4⟩ := ha j (by omega) a2
    exact ⟨x1, x2, x3, x4⟩) hN tf mo
  have e1 := q4 d2 (fun j a1 a2 => by
    obtain ⟨x1, x2, x3, x4⟩ := ha j a1 (by omega)
    obtain ⟨y1, y2, y3, y4⟩ := hg j a1 a2
    refine ⟨x1.trans y1, x2.trans y2, x3.trans y3, ?_⟩
    rcases y4 with y4 | y4
    · exact Or.inl y4
    · exact Or.inr ((x4.resolve_left (by omega)).trans y4)) (by omega) tf mo (1 + w)
  obtain ⟨z1, z2, z3, z4⟩ := ha la q1 (by omega)
  have z5 := (z4.resolve_left (by omega)).trans hl
  rw [show m + 1 + w = m + (1 + w) by omega, e1, z5]
  have e3 : fsC (evD d2 tf mo k true) d2.1 d2.2.2.2.2 (1 + w) (hi : Int) = if s tf mo = -1 then fsC (evD d2 tf mo k true) d2.1 d2.2.2.2.2 w (d2.2.2.2.2 hi) else s tf mo := by
    rw [Nat.add_comm]
    show (if nodI (d2.1 : Int) (hi : Int) = true then _ else _) = _
    rw [if_pos (nod_at (by omega)), e2, Int.toNat_natCast]
  rw [e3]
  unfold fsO
  by_cases c1 : a tf mo = -1
  · simp only [c1, if_true]
  · simp only [c1, if_false]
theorem den_first {la m : Nat} {a : LSm} (hs : D.2.1 N = 2) (hf : D.2.2.2.1 N = ((N + 1 : Nat) : Int)) (hm : m ≤ 350) (hl : D.2.2.2.2 la = -1) (h : Chn D (N + 1) M la m k a) : DenL D N M (k + 1) true a := by
  obtain ⟨q1, q2, q3, q4⟩ := h
  refine ⟨by omega, fun d2 ha hN tf mo => ?_⟩
  obtain ⟨a1, a2, a3, a4⟩ := ha N (Nat.le_refl _) (by omega)
  obtain ⟨b1, b2, b3, b4⟩ := ha la (by omega) (by omega)
  have b5 := (b4.resolve_left (by omega)).trans hl
  have e := q4 d2 (fun j x1 x2 => by
    obtain ⟨y1, y2, y3, y4⟩ := ha j (by omega) x2
    exact ⟨y1, y2, y3, Or.inr (y4.resolve_left (by omega))⟩) hN tf mo (350 - m)
  rw [show m + (350 - m) = 350 by omega, b5] at e
  have e0 : fsC (evD d2 tf mo k true) d2.1 d2.2.2.2.2 (350 - m) (-1) = -1 := by
    cases 350 - m with
    | zero => rfl
    | succ w =>
      show (if nodI (d2.1 : Int) (-1) = true then _ else _) = _
      rw [if_neg (by rw [nod_F.mpr (by omega)]; decide)]
  rw [e0] at e
  unfold evD
  rw [ev_2 (nod_at (by omega)) (by rw [Int.toNat_natCast, a1, hs]), pt_0 (by omega), a3, hf]
  refine Eq.trans e ?_
  by_cases c1 : a tf mo = -1
  · rw [if_pos c1, c1]
  · rw [if_neg c1]
end
