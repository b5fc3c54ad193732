/-! what every call keeps -/
def gOk (A : gSt0) : Prop := gAi A ∧ gAb A
theorem tn_put {t : Nat → Option Nat} {p : Nat} {o : Option Nat} (h : gTn t) (ho : ∀ c, o = some c → c < 10000) : gTn (uO t p o) := fun q a hq e => by
  by_cases w : q = p
  · rw [w, uO_s] at e; exact ho a e
  · rw [uO_n _ _ w] at e; exact h q a hq e
theorem ok_W {A : gSt0} {w : Nat → Option Nat} (h : gOk A) (hw : gTn w) : gOk (setW A w) := ⟨h.1, h.2.1, h.2.2.1, h.2.2.2.1, hw⟩
theorem ok_take {A B : gSt0} {c : Nat} (h : gOk A) (hB : gAi B) (he : gExt A B) (hc : c < aN B) : gOk (takeA B c) := by
  have h5 : aC B < 5 := by rw [he.2.2.2.1]; exact h.2.1
  refine ⟨hB, h5, fun b k hb hk => ?_, ?_, hB.2.2.2 c⟩
  · have hk : uO (aH B) (aC B) (some c) b = some k := hk
    show k < aN B
    by_cases w : b = aC B
    · rw [w, uO_s] at hk; cases hk; exact hc
    · rw [uO_n _ _ w, he.2.2.1] at hk
      exact Nat.lt_of_lt_of_le (h.2.2.1 b k hb hk) he.1
  · show (uO (aH B) (aC B) (some c) (aC B)).isSome = true
    rw [uO_s]; rfl
theorem ok_write {A : gSt0} (h : gOk A) (x y : Int32) : gOk (oWrite A x y).2.2 := by
  unfold oWrite
  cases inB x 8 with
  | none => exact h
  | some p =>
    cases e : inB y 10000 with
    | none => exact h
    | some c => exact ok_W h (tn_put h.2.2.2.2 (fun k hk => by cases hk; exact (inB_some (by decide) e).2))
theorem ok_erase {A : gSt0} (h : gOk A) (x : Int32) : gOk (oErase A x).2.2 := by
  unfold oErase
  cases inB x 8 with
  | none => exact h
  | some p =>
    show gOk (match aW A p with | none => ((2, 0, A) : gRes) | some c => (0, nI c, setW A (uO (aW A) p none))).2.2
    cases e : aW A p with
    | none => exact h
    | some c => exact ok_W h (tn_put h.2.2.2.2 (fun k hk => by cases hk))
theorem ok_reset {A : gSt0} (h : gOk A) (x : Int32) : gOk (oReset A x).2.2 := by
  unfold oReset
  cases e : inB x (aN A) with
  | none => exact h
  | some c => exact ok_take h h.1 (ext_refl A) (inB_some (by have := h.1.1.2; omega) e).2
theorem ok_move {A : gSt0} (h : gOk A) (x y : Int32) : gOk (oMove A x y).2.2 := by
  unfold oMove
  cases ex : inB x 8 with
  | none => exact h
  | some p =>
    cases inB y 8 with
    | none => exact h
    | some q =>
      show gOk (match aW A p with | none => ((2, 0, A) : gRes) | some c => (match aW A q with | some _ => (3, 0, A) | none => (0, nI c, setW A (uO (uO (aW A) p none) q (some c))))).2.2
      cases e : aW A p with
      | none => exact h
      | some c =>
        cases aW A q with
        | some d => exact h
        | none =>
          exact ok_W h (tn_put (tn_put h.2.2.2.2 (fun k hk => by cases hk)) (fun k hk => by cases hk; exact h.2.2.2.2 p c (inB_some (by decide) ex).2 e))
theorem ok_commit {A : gSt0} (h : gOk A) : gOk (oCommit A).2.2 := by
  unfold oCommit
  by_cases c0 : chgA A = 0
  · rw [if_pos c0]; exact h
  · rw [if_neg c0]
    have hd := ab_hd h.2
    have hk := mk_ai (t := aW A) (f := aHd A) (s := none) h.1 h.2.2.2.2 hd.2 (fun q e => by cases e)
    cases e : mkO A (aW A) (aHd A) none with
    | none => exact h
    | some c => exact ok_take h hk.1 (ext_mk _ _ _ _) (hk.2.2 c e)
theorem ok_branch {A : gSt0} (h : gOk A) (x : Int32) : gOk (oBranch A x).2.2 := by
  unfold oBranch
  cases inB x 5 with
  | none => exact h
  | some b =>
    show gOk (match aH A b with | some _ => ((2, 0, A) : gRes) | none => (0, nI (aHd A), setH A (uO (aH A) b (some (aHd A))))).2.2
    cases e : aH A b with
    | some d => exact h
    | none =>
      have hd := ab_hd h.2
      refine ⟨h.1, h.2.1, fun c k hc hk => ?_, ?_, h.2.2.2.2⟩
      · have hk : uO (aH A) b (some (aHd A)) c = some k := hk
        show k < aN A
        by_cases w : c = b
        · rw [w, uO_s] at hk; cases hk; exact hd.2
        · rw [uO_n _ _ w] at hk; exact h.2.2.1 c k hc hk
      · show (uO (aH A) b (some (aHd A)) (aC A)).isSome = true
        by_cases w : aC A = b
        · rw [w, uO_s]; rfl
        · rw [uO_n _ _ w]; exact h.2.2.2.1
theorem ok_check {A : gSt0} (h : gOk A) (x : Int32) : gOk (oCheckOut A x).2.2 := by
  unfold oCheckOut
  cases e : inB x 5 with
  | none => exact h
  | some b =>
    show gOk (match aH A b with | none => ((2, 0, A) : gRes) | some g => if chgA A = 0 then (0, nI g, setW (setC A b) (aT A g)) else (3, 0, A)).2.2
    cases e2 : aH A b with
    | none => exact h
    | some g =>
      show gOk (if chgA A = 0 then ((0, nI g, setW (setC A b) (aT A g)) : gRes) else (3, 0, A)).2.2
      by_cases c0 : chgA A = 0
      · rw [if_pos c0]
        exact ⟨h.1, (inB_some (by decide) e).2, h.2.2.1, by show (aH A b).isSome = true; rw [e2]; rfl, h.1.2.2.2 g⟩
      · rw [if_neg c0]; exact h
theorem ok_merge {A : gSt0} (h : gOk A) (x : Int32) : gOk (oMerge A x).2.2 := by
  unfold oMerge
  cases e : inB x 5 with
  | none => exact h
  | some b =>
    show gOk (match aH A b with | none => ((2, 0, A) : gRes) | some t => if chgA A = 0 then (match anc (aF A) (aS A) (aHd A) t, anc (aF A) (aS A) t (aHd A) with
      | true, _ => (3, 0, A)
      | false, true => (0, nI t, takeA A t)
      | false, false => match rmO A (aHd A) t with
        | none => (4, 0, A)
        | some c => (0, nI c, takeA (rmA A (aHd A) t) c)) else (3, 0, A)).2.2
    cases e2 : aH A b with
    | none => exact h
    | some t =>
      have ht := h.2.2.1 b t (inB_some (by decide) e).2 e2
      have hd := ab_hd h.2
      have hk := rm_ai h.1 hd.2 ht
      by_cases c0 : chgA A = 0
      · simp only [if_pos c0]
        cases anc (aF A) (aS A) (aHd A) t with
        | true => exact h
        | false =>
          cases anc (aF A) (aS A) t (aHd A) with
          | true => exact ok_take h h.1 (ext_refl A) ht
          | false =>
            cases e3 : rmO A (aHd A) t with
            | none => exact h
            | some c => exact ok_take h hk.1 (ext_rm A _ _) (hk.2.2 c e3)
      · simp only [if_neg c0]
        exact h
theorem ok_put {A : gSt0} (h : gOk A) (x : Int32) : gOk (oPutOnto A x).2.2 := by
  unfold oPutOnto
  cases e : inB x 5 with
  | none => exact h
  | some b =>
    show gOk (match aH A b with | none => ((2, 0, A) : gRes) | some t => if chgA A = 0 then (match anc (aF A) (aS A) t (aHd A) with
      | true => (3, 0, A)
      | false => match (poR A t).1 with
        | none => (4, 0, A)
        | some l => (0, nI (chL A t (aHd A)), takeA (poR A t).2 l)) else (3, 0, A)).2.2
    cases e2 : aH A b with
    | none => exact h
    | some t =>
      have ht := h.2.2.1 b t (inB_some (by decide) e).2 e2
      have hP : gAi (poR A t).2 ∧ gExt A (poR A t).2 ∧ ∀ v, (poR A t).1 = some v → v < aN (poR A t).2 := apK_ok h.1 ht _
      by_cases c0 : chgA A = 0
      · simp only [if_pos c0]
        cases anc (aF A) (aS A) t (aHd A) with
        | true => exact h
        | false =>
          cases e3 : (poR A t).1 with
          | none => exact h
          | some l => exact ok_take h hP.1 hP.2.1 (hP.2.2 l e3)
      · simp only [if_neg c0]
        exact h
