/-! what every call keeps -/
theorem rc_mod {A : gSt0} {M M' : gMem} (hA : gAi A) (h : gRC A M) (k : gMod M M') : gRC A M' :=
  rc_k hA h ⟨fun o ho => k.2.2.2 o (by omega), by rw [k.1], k.2.2.1 _ _ (by decide)⟩ ⟨fun o ho => k.2.2.2 o (by omega), k.2.2.1 _ _ (by decide)⟩ ⟨fun o ho => k.2.2.2 o (by omega), by rw [k.2.1], k.2.2.1 _ _ (by decide), k.2.2.1 _ _ (by decide)⟩
theorem rm_cls {A : gSt0} {M M' : gMem} (h : gRM A M) (k : gCls M M') : gRM A M' := by
  refine ⟨⟨by rw [k.2.2.1 _ _ (by decide)]; exact h.1.1, fun c hc => ?_, fun c hc p hp => ?_⟩, ⟨fun b hb => ?_, by rw [k.2.2.1 _ _ (by decide)]; exact h.2.1.2.1, fun p hp => ?_⟩, by rw [k.2.2.2 236 (by decide)]; exact h.2.2⟩
  · rw [k.2.2.2 218 (by decide), k.2.2.2 219 (by decide)]; exact h.1.2.1 c hc
  · rw [k.2.2.2 _ (by omega)]; exact h.1.2.2 c hc p hp
  · rw [k.2.2.2 220 (by decide)]; exact h.2.1.1 b hb
  · rw [k.2.2.2 221 (by decide)]; exact h.2.1.2.2 p hp
def gOk (A : gSt0) : Prop := gAi A ∧ gAb A
theorem tn_put {t : Nat → Option Nat} {p : Nat} {o : Option Nat} (h : gTn t) (ho : ∀ c, o = some c → c < 10000) : gTn (uO t p o) := fun q a hq e => by
  by_cases w : q = p
  · rw [w, uO_s] at e; exact ho a e
  · rw [uO_n _ _ w] at e; exact h q a hq e
theorem ok_W {A : gSt0} {w : Nat → Option Nat} (h : gOk A) (hw : gTn w) : gOk (setW A w) := ⟨h.1, h.2.1, h.2.2.1, h.2.2.2.1, hw⟩
theorem ok_take {A B : gSt0} {c : Nat} (h : gOk A) (hB : gAi B) (he : gExt A B) (hc : c < aN B) : gOk (takeA B c) := by
  have h5 : aC B < 5 := by rw [he.2.2.2.1]; exact h.2.1
  refine ⟨hB, h5, fun b k hb hk => ?_, ?_, hB.2.2.2 c⟩
  · have hk : uO (aH B) (aC B) (some c) b = some k := hk
    show k < aN B
    by_cases w : b = aC B
    · rw [w, uO_s] at hk; cases hk; exact hc
    · rw [uO_n _ _ w, he.2.2.1] at hk
      exact Nat.lt_of_lt_of_le (h.2.2.1 b k hb hk) he.1
  · show (uO (aH B) (aC B) (some c) (aC B)).isSome = true
    rw [uO_s]; rfl
theorem ok_write {A : gSt0} (h : gOk A) (x y : Int32) : gOk (oWrite A x y).2.2 := by
  unfold oWrite
  cases inB x 8 with
  | none => exact h
  | some p =>
    cases e : inB y 10000 with
    | none => exact h
    | some c => exact ok_W h (tn_put h.2.2.2.2 (fun k hk => by cases hk; exact (inB_some (by decide) e).2))
theorem ok_erase {A : gSt0} (h : gOk A) (x : Int32) : gOk (oErase A x).2.2 := by
  unfold oErase
  cases inB x 8 with
  | none => exact h
  | some p =>
    show gOk (match aW A p with | none => ((2, 0, A) : gRes) | some c => (0, nI c, setW A (uO (aW A) p none))).2.2
    cases e : aW A p with
    | none => exact h
    | some c => exact ok_W h (tn_put h.2.2.2.2 (fun k hk => by cases hk))
theorem ok_reset {A : gSt0} (h : gOk A) (x : Int32) : gOk (oReset A x).2.2 := by
  unfold oReset
  cases e : inB x (aN A) with
  | none => exact h
  | some c => exact ok_take h h.1 (ext_refl A) (inB_some (by have := h.1.1.2; omega) e).2
