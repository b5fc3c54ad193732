/-! the state: commits, first and second parents, trees, heads, current branch, work tree -/
abbrev gSt0 : Type := Nat × (Nat → Option Nat) × (Nat → Option Nat) × (Nat → Nat → Option Nat) × (Nat → Option Nat) × Nat × (Nat → Option Nat)
abbrev aN (A : gSt0) : Nat := A.1
abbrev aF (A : gSt0) : Nat → Option Nat := A.2.1
abbrev aS (A : gSt0) : Nat → Option Nat := A.2.2.1
abbrev aT (A : gSt0) : Nat → Nat → Option Nat := A.2.2.2.1
abbrev aH (A : gSt0) : Nat → Option Nat := A.2.2.2.2.1
abbrev aC (A : gSt0) : Nat := A.2.2.2.2.2.1
abbrev aW (A : gSt0) : Nat → Option Nat := A.2.2.2.2.2.2
def setW (A : gSt0) (w : Nat → Option Nat) : gSt0 := (aN A, aF A, aS A, aT A, aH A, aC A, w)
def setH (A : gSt0) (h : Nat → Option Nat) : gSt0 := (aN A, aF A, aS A, aT A, h, aC A, aW A)
def setC (A : gSt0) (c : Nat) : gSt0 := (aN A, aF A, aS A, aT A, aH A, c, aW A)
def aHd (A : gSt0) : Nat := (aH A (aC A)).getD 0
/-- what holds of every state: of its commits -/
def gAi (A : gSt0) : Prop := (1 ≤ aN A ∧ aN A ≤ 60) ∧ gLow (aF A) (aS A) ∧ (∀ c, c < aN A → 0 < c → (aF A c).isSome = true) ∧ ∀ c, gTn (aT A c)
/-- and of its branches -/
def gAb (A : gSt0) : Prop := aC A < 5 ∧ (∀ b h, b < 5 → aH A b = some h → h < aN A) ∧ (aH A (aC A)).isSome = true ∧ gTn (aW A)
theorem ai_0 {A : gSt0} (h : gAi A) : aF A 0 = none ∧ aS A 0 = none := by
  refine ⟨?_, ?_⟩
  · cases e : aF A 0 with
    | none => rfl
    | some p => exact absurd (h.2.1.1 _ _ e) (by omega)
  · cases e : aS A 0 with
    | none => rfl
    | some p => exact absurd (h.2.1.2 _ _ e) (by omega)
theorem ab_hd {A : gSt0} (h : gAb A) : aH A (aC A) = some (aHd A) ∧ aHd A < aN A := by
  have e : aH A (aC A) = some (aHd A) := by
    unfold aHd
    cases e : aH A (aC A) with
    | none => have := h.2.2.1; rw [e] at this; cases this
    | some v => rfl
  exact ⟨e, h.2.1 _ _ h.1 e⟩
/-- generations -/
def gnF (fp sp : Nat → Option Nat) : Nat → Nat → Nat
  | 0, _ => 0
  | f + 1, c => match fp c with
    | none => 0
    | some p => 1 + Nat.max (gnF fp sp f p) (match sp c with | none => 0 | some q => gnF fp sp f q)
def gn (fp sp : Nat → Option Nat) (c : Nat) : Nat := gnF fp sp c c
theorem gnF_s (fp sp : Nat → Option Nat) (f c : Nat) : gnF fp sp (f + 1) c = (match fp c with
    | none => 0
    | some p => 1 + Nat.max (gnF fp sp f p) (match sp c with | none => 0 | some q => gnF fp sp f q)) := rfl
theorem gn_fuel {fp sp : Nat → Option Nat} (h : gLow fp sp) : ∀ f c, c ≤ f → gnF fp sp f c = gn fp sp c := by
  intro f
  induction f using Nat.strongRecOn with
  | ind f ih =>
    intro c hc
    cases f with
    | zero =>
      have : c = 0 := by omega
      subst this
      rfl
    | succ f =>
      cases c with
      | zero =>
        rw [gnF_s]
        cases hf : fp 0 with
        | none => rfl
        | some p => exact absurd (h.1 _ _ hf) (by omega)
      | succ c =>
        show _ = gnF fp sp (c + 1) (c + 1)
        rw [gnF_s, gnF_s]
        cases hf : fp (c + 1) with
        | none => rfl
        | some p =>
          have hp := h.1 _ _ hf
          have e1 : gnF fp sp f p = gnF fp sp c p := by
            by_cases e : f = c
            · rw [e]
            · rw [ih f (by omega) p (by omega), ih c (by omega) p (by omega)]
          show 1 + Nat.max (gnF fp sp f p) _ = 1 + Nat.max (gnF fp sp c p) _
          rw [e1]
          cases hs : sp (c + 1) with
          | none => rfl
          | some q =>
            have hq := h.2 _ _ hs
            have e2 : gnF fp sp f q = gnF fp sp c q := by
              by_cases e : f = c
              · rw [e]
              · rw [ih f (by omega) q (by omega), ih c (by omega) q (by omega)]
            show 1 + Nat.max _ (gnF fp sp f q) = 1 + Nat.max _ (gnF fp sp c q)
            rw [e2]
theorem gn_eq {fp sp : Nat → Option Nat} (h : gLow fp sp) {c p : Nat} (hp : fp c = some p) : gn fp sp c = 1 + Nat.max (gn fp sp p) (match sp c with | none => 0 | some q => gn fp sp q) := by
  rw [← gn_fuel h (c + 1) c (by omega), gnF_s, hp]
  show 1 + Nat.max (gnF fp sp c p) _ = _
  rw [gn_fuel h c p (by have := h.1 _ _ hp; omega)]
  cases hs : sp c with
  | none => rfl
  | some q =>
    show 1 + Nat.max _ (gnF fp sp c q) = _
    rw [gn_fuel h c q (by have := h.2 _ _ hs; omega)]
theorem gn_0 {fp sp : Nat → Option Nat} {c : Nat} (hp : fp c = none) : gn fp sp c = 0 := by
  unfold gn
  cases c with
  | zero => rfl
  | succ c => rw [gnF_s, hp]
theorem gn_le {fp sp : Nat → Option Nat} (h : gLow fp sp) : ∀ c, gn fp sp c ≤ c := by
  intro c
  induction c using Nat.strongRecOn with
  | ind c ih =>
    cases hp : fp c with
    | none => rw [gn_0 hp]; exact Nat.zero_le _
    | some p =>
      have h1 := h.1 _ _ hp
      have h2 := ih p h1
      rw [gn_eq h hp]
      have h3 : (match sp c with | none => 0 | some q => gn fp sp q) ≤ c - 1 := by
        cases hs : sp c with
        | none => exact Nat.zero_le _
        | some q =>
          have h4 := h.2 _ _ hs
          have := ih q h4
          show gn fp sp q ≤ c - 1
          omega
      have h5 : Nat.max (gn fp sp p) (match sp c with | none => 0 | some q => gn fp sp q) ≤ c - 1 := Nat.max_le.mpr ⟨by omega, h3⟩
      omega
theorem gn_congr {fp sp fp' sp' : Nat → Option Nat} (h : gLow fp sp) (h' : gLow fp' sp') {n : Nat} (e : ∀ c, c < n → fp c = fp' c ∧ sp c = sp' c) : ∀ c, c < n → gn fp sp c = gn fp' sp' c := by
  intro c
  induction c using Nat.strongRecOn with
  | ind c ih =>
    intro hc
    cases hp : fp c with
    | none => rw [gn_0 hp, gn_0 (by rw [← (e c hc).1]; exact hp)]
    | some p =>
      have h1 := h.1 _ _ hp
      rw [gn_eq h hp, gn_eq h' (show fp' c = some p by rw [← (e c hc).1]; exact hp), ih p h1 (by omega), ← (e c hc).2]
      cases hs : sp c with
      | none => rfl
      | some q =>
        have h2 := h.2 _ _ hs
        show 1 + Nat.max _ (gn fp sp q) = 1 + Nat.max _ (gn fp' sp' q)
        rw [ih q h2 (by omega)]
/-- the class's rows of commits -/
def gRh (A : gSt0) (M : gMem) : Prop := M.2.2.1 1 7 = nI (aN A) ∧ (∀ c, c < aN A → M.1 5 c = oI (aF A c) ∧ M.1 6 c = oI (aS A c) ∧ M.1 7 c = nI (gn (aF A) (aS A) c) ∧ ∀ x, x < 64 → tb (M.2.1 8 c) x = anc (aF A) (aS A) c x) ∧ ∀ c, c < aN A → gRo M (10 + 2 * c + 1) (aT A c)
/-- of branches and the work tree -/
def gRb (A : gSt0) (M : gMem) : Prop := (∀ b, b < 5 → M.1 154 b = oI (aH A b)) ∧ M.2.2.1 0 6 = nI (aC A) ∧ gRo M 153 (aW A)
/-- the pack holds what is in the first k commits: it has taken the first j, and those behind have nothing new -/
def gRp (A : gSt0) (k : Nat) (M : gMem) : Prop := gPq (pkN (aT A) k) M ∧ ∃ j, j ≤ k ∧ pkN (aT A) j = pkN (aT A) k ∧ M.2.2.1 148 4 = nI j
def gRC (A : gSt0) (M : gMem) : Prop := gRh A M ∧ gRb A M ∧ gRp A (aN A) M
/-- what these rows are made of is the same -/
def gKh (M M' : gMem) : Prop := (∀ o, o = 5 ∨ o = 6 ∨ o = 7 ∨ (10 ≤ o ∧ o < 130) → M'.1 o = M.1 o) ∧ M'.2.1 8 = M.2.1 8 ∧ M'.2.2.1 1 7 = M.2.2.1 1 7
def gKb (M M' : gMem) : Prop := (∀ o, o = 153 ∨ o = 154 → M'.1 o = M.1 o) ∧ M'.2.2.1 0 6 = M.2.2.1 0 6
def gKp (M M' : gMem) : Prop := (∀ o, o = 149 ∨ o = 150 ∨ o = 151 → M'.1 o = M.1 o) ∧ M'.2.2.2.1 = M.2.2.2.1 ∧ M'.2.2.1 148 3 = M.2.2.1 148 3 ∧ M'.2.2.1 148 4 = M.2.2.1 148 4
theorem rh_k {A : gSt0} {M M' : gMem} (hA : gAi A) (h : gRh A M) (k : gKh M M') : gRh A M' := by
  refine ⟨by rw [k.2.2]; exact h.1, fun c hc => ?_, fun c hc p hp => ?_⟩
  · rw [k.1 5 (by omega), k.1 6 (by omega), k.1 7 (by omega), k.2.1]; exact h.2.1 c hc
  · rw [k.1 _ (by have h1 : c < aN A := hc; have h2 := hA.1.2; exact Or.inr (Or.inr (Or.inr (by omega))))]; exact h.2.2 c hc p hp
theorem rb_k {A : gSt0} {M M' : gMem} (h : gRb A M) (k : gKb M M') : gRb A M' := by
  refine ⟨fun b hb => by rw [k.1 154 (Or.inr rfl)]; exact h.1 b hb, by rw [k.2]; exact h.2.1, fun p hp => ?_⟩
  rw [k.1 153 (Or.inl rfl)]
  exact h.2.2 p hp
theorem rp_k {A : gSt0} {c : Nat} {M M' : gMem} (h : gRp A c M) (k : gKp M M') : gRp A c M' := by
  obtain ⟨q, h1, h2, h3⟩ := h.2
  refine ⟨⟨by rw [k.2.2.1]; exact h.1.1, by rw [k.2.1]; exact h.1.2.1, fun j hj => ?_⟩, q, h1, h2, by rw [k.2.2.2]; exact h3⟩
  rw [k.1 149 (Or.inl rfl), k.1 150 (Or.inr (Or.inl rfl)), k.1 151 (Or.inr (Or.inr rfl))]
  exact h.1.2.2 j hj
theorem rc_k {A : gSt0} {M M' : gMem} (hA : gAi A) (h : gRC A M) (k1 : gKh M M') (k2 : gKb M M') (k3 : gKp M M') : gRC A M' := ⟨rh_k hA h.1 k1, rb_k h.2.1 k2, rp_k h.2.2 k3⟩
/-- only the class's part differs -/
def gCls (M M' : gMem) : Prop := M'.2.2.2.2 = M.2.2.2.2 ∧ (∀ o, 155 < o → M'.2.1 o = M.2.1 o) ∧ (∀ o j, 155 < o → M'.2.2.1 o j = M.2.2.1 o j) ∧ ∀ o, 155 < o → M'.1 o = M.1 o
theorem cls_refl (M : gMem) : gCls M M := ⟨rfl, fun _ _ => rfl, fun _ _ _ => rfl, fun _ _ => rfl⟩
theorem cls_trans {M M1 M2 : gMem} (h : gCls M M1) (h' : gCls M1 M2) : gCls M M2 := ⟨h'.1.trans h.1, fun o ho => (h'.2.1 o ho).trans (h.2.1 o ho), fun o j ho => (h'.2.2.1 o j ho).trans (h.2.2.1 o j ho), fun o ho => (h'.2.2.2 o ho).trans (h.2.2.2 o ho)⟩
theorem cls_sI (M : gMem) {o : Nat} (f : Nat → Int32) (h : o ≤ 155) : gCls M (sI M o f) := ⟨rfl, fun _ _ => rfl, fun _ _ _ => rfl, fun a ha => sI_n _ _ (by omega)⟩
theorem cls_sF (M : gMem) {o : Nat} (j : Nat) (v : Int32) (h : o ≤ 155) : gCls M (sF M o j v) := ⟨rfl, fun _ _ => rfl, fun a i ha => by rw [sF_F, if_neg (by omega)], fun _ _ => rfl⟩
theorem cls_sd {M M' : gMem} (h : gSd 131 147 M M') : gCls M M' := ⟨by rw [h.2.1], fun o _ => by rw [h.1], fun o j ho => h.2.2.1 o j (by omega), fun o ho => h.2.2.2 o (by omega)⟩
theorem cls_sp {M M' : gMem} (h : gSp M M') : gCls M M' := ⟨h.2.1, fun o _ => by rw [h.1], fun o j ho => h.2.2.1 o j (by omega), fun o ho => h.2.2.2 o (by omega)⟩
/-- only scratch differs -/
def gScr (M M' : gMem) : Prop := gKh M M' ∧ gKb M M' ∧ gKp M M' ∧ gCls M M'
theorem scr_refl (M : gMem) : gScr M M := ⟨⟨fun _ _ => rfl, rfl, rfl⟩, ⟨fun _ _ => rfl, rfl⟩, ⟨fun _ _ => rfl, rfl, rfl, rfl⟩, cls_refl M⟩
theorem scr_trans {M M1 M2 : gMem} (h : gScr M M1) (h' : gScr M1 M2) : gScr M M2 := by
  refine ⟨⟨fun o ho => (h'.1.1 o ho).trans (h.1.1 o ho), h'.1.2.1.trans h.1.2.1, h'.1.2.2.trans h.1.2.2⟩, ⟨fun o ho => (h'.2.1.1 o ho).trans (h.2.1.1 o ho), h'.2.1.2.trans h.2.1.2⟩, ⟨fun o ho => (h'.2.2.1.1 o ho).trans (h.2.2.1.1 o ho), h'.2.2.1.2.1.trans h.2.2.1.2.1, h'.2.2.1.2.2.1.trans h.2.2.1.2.2.1, h'.2.2.1.2.2.2.trans h.2.2.1.2.2.2⟩, cls_trans h.2.2.2 h'.2.2.2⟩
theorem scr_sI (M : gMem) {o : Nat} (f : Nat → Int32) (h : o = 9 ∨ o = 155) : gScr M (sI M o f) := ⟨⟨fun a ha => sI_n _ _ (by omega), rfl, rfl⟩, ⟨fun a ha => sI_n _ _ (by omega), rfl⟩, ⟨fun a ha => sI_n _ _ (by omega), rfl, rfl, rfl⟩, cls_sI M f (by omega)⟩
theorem scr_sd {M M' : gMem} (h : gSd 131 147 M M') : gScr M M' := ⟨⟨fun o ho => h.2.2.2 o (by omega), by rw [h.1], h.2.2.1 _ _ (by decide)⟩, ⟨fun o ho => h.2.2.2 o (by omega), h.2.2.1 _ _ (by decide)⟩, ⟨fun o ho => h.2.2.2 o (by omega), by rw [h.2.1], h.2.2.1 _ _ (by decide), h.2.2.1 _ _ (by decide)⟩, cls_sd h⟩
theorem rc_scr {A : gSt0} {M M' : gMem} (hA : gAi A) (h : gRC A M) (k : gScr M M') : gRC A M' := rc_k hA h k.1 k.2.1 k.2.2.1
