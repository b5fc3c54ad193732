/-! what the law's own runs keep: contents below 2000; branch 0 is there; commit 0 is empty -/
def gT2 (t : Nat → Option Nat) : Prop := ∀ p a, p < 8 → t p = some a → a < 2000
def gVt (A : gSt0) : Prop := (∀ c, gT2 (aT A c)) ∧ ∀ p, p < 8 → aT A 0 p = none
def gVv (A : gSt0) : Prop := gVt A ∧ gT2 (aW A) ∧ (aH A 0).isSome = true
theorem t2_put {t : Nat → Option Nat} {p : Nat} {o : Option Nat} (h : gT2 t) (ho : ∀ c, o = some c → c < 2000) : gT2 (uO t p o) := fun q a hq e => by
  by_cases w : q = p
  · rw [w, uO_s] at e; exact ho a e
  · rw [uO_n _ _ w] at e; exact h q a hq e
theorem t2_gv {t : Nat → Option Nat} (h : gT2 t) {p : Nat} (hp : p < 8) : gv t p < 2000 := by
  unfold gv
  cases e : t p with
  | none => exact Nat.zero_lt_succ _
  | some v => exact h p v hp e
theorem t2_mrg {a b c m : Nat} (hb : b < 2000) (hc : c < 2000) (h : mrgN a b c 4 = some m) : m < 2000 := by
  cases h1 : mrgN a b c 3 with
  | none => rw [mrg_n (Or.inl h1)] at h; cases h
  | some m1 =>
    cases h2 : chgN (dg a 3) (dg b 3) (dg c 3) with
    | none => rw [mrg_n (Or.inr h2)] at h; cases h
    | some d =>
      rw [mrg_s h1 h2] at h
      cases h
      have h3 := mrg_lt h1
      have h4 : ∀ x, x < 2000 → dg x 3 < 2 := fun x hx => by
        show x / 10 ^ 3 % 10 < 2
        have : x / 10 ^ 3 < 2 := Nat.div_lt_of_lt_mul (by omega)
        omega
      have h5 := chg_lt h2 (h4 b hb) (h4 c hc)
      have h6 : d * 10 ^ 3 ≤ 1 * 10 ^ 3 := Nat.mul_le_mul_right _ (by omega)
      omega
theorem t2_flA {t u v : Nat → Option Nat} {p x c : Nat} (hp : p < 8) (hu : gT2 u) (hv : gT2 v) (h : flA t u v p = some (x, c)) : c < 2000 := by
  by_cases hs : (t p).isSome = true
  · cases h1 : moO t u p with
    | none => rw [(fl_gone hs (Or.inl h1)).2] at h; cases h
    | some a =>
      cases h2 : moO t v p with
      | none => rw [(fl_gone hs (Or.inr h2)).2] at h; cases h
      | some b =>
        cases h3 : chgN p a b with
        | none => rw [(fl_bad hs h1 h2 (Or.inl h3)).2] at h; cases h
        | some y =>
          cases h4 : mrgN (gv t p) (gv u a) (gv v b) 4 with
          | none => rw [(fl_bad hs h1 h2 (Or.inr h4)).2] at h; cases h
          | some d =>
            rw [(fl_some hs h1 h2 h3 h4).2] at h
            cases h
            exact t2_mrg (t2_gv hu (mv_some h1 hp).1) (t2_gv hv (mv_some h2 hp).1) h4
  · have : t p = none := by
      cases e : t p with
      | none => rfl
      | some v => rw [e] at hs; exact absurd rfl hs
    rw [(fl_no this).2] at h
    cases h
theorem t2_nw {t u mv : Nat → Option Nat} (hu : gT2 u) {p : Nat} (hp : p < 8) : ∀ c, nwO t u mv p = some c → c < 2000 := fun c h => by
  unfold nwO at h
  split at h
  · exact hu p c hp h
  · cases h
theorem t2_mgR {t u v : Nat → Option Nat} (hu : gT2 u) (hv : gT2 v) : gT2 (mgR t u v) := fun q c hq h => by
  unfold mgR rsN at h
  split at h
  · next p hp =>
    split at h
    · next x c' hx =>
      cases h
      exact t2_flA (first_some.mp hp).1 hu hv hx
    · cases h
  · split at h
    · exact t2_nw hu hq c h
    · unfold n2O at h
      split at h
      · cases h
      · exact t2_nw hv hq c h
theorem t2_cut {t : Nat → Option Nat} (h : gT2 t) : gT2 (cutT t) := fun p a hp e => by
  unfold cutT at e
  rw [if_pos hp] at e
  exact h p a hp e
theorem vt_mk {A : gSt0} {t : Nat → Option Nat} {f : Nat} {s : Option Nat} (hA : gAi A) (h : gVt A) (ht : gT2 t) : gVt (mkA A t f s) := by
  rcases mk_cases A t f s with h1 | h1
  · rw [h1.1]; exact h
  · rw [h1.1]
    refine ⟨fun c => ?_, fun p hp => ?_⟩
    · show gT2 (if c = aN A then cutT t else aT A c)
      split
      · exact t2_cut ht
      · exact h.1 c
    · show (if 0 = aN A then cutT t else aT A 0) p = none
      rw [if_neg (by have := hA.1.1; omega)]
      exact h.2 p hp
theorem vt_rm {A : gSt0} {c o : Nat} (hA : gAi A) (h : gVt A) : gVt (rmA A c o) := by
  unfold rmA
  split
  · exact vt_mk hA h (t2_mgR (h.1 _) (h.1 _))
  · exact h
theorem vt_ap1 {B : gSt0} {c l : Nat} (hB : gAi B) (h : gVt B) : gVt (ap1 B c l).2 := by
  unfold ap1
  split
  · split
    · exact h
    · exact vt_mk hB h (t2_mgR (h.1 _) (h.1 _))
  · exact h
theorem vt_apK {A : gSt0} {ch : Nat → Nat} {L onto : Nat} (hA : gAi A) (ho : onto < aN A) (h : gVt A) : ∀ j, gVt (apK A ch L onto j).2 := by
  intro j
  induction j with
  | zero => exact h
  | succ j ih =>
    cases e : (apK A ch L onto j).1 with
    | none => rw [apK_n e]; exact ih
    | some l =>
      rw [apK_s e]
      exact vt_ap1 (apK_ok hA ho j).1 ih
theorem vv_take {A B : gSt0} {c : Nat} (h : gVv A) (hB : gVt B) (he : aH B = aH A) : gVv (takeA B c) := by
  refine ⟨hB, hB.1 c, ?_⟩
  show (uO (aH B) (aC B) (some c) 0).isSome = true
  by_cases w : 0 = aC B
  · rw [← w, uO_s]; rfl
  · rw [uO_n _ _ w, he]
    exact h.2.2
theorem vv_write {A : gSt0} (h : gVv A) (x y : Int32) (hy : ∀ c, inB y 10000 = some c → c < 2000) : gVv (oWrite A x y).2.2 := by
  unfold oWrite
  cases inB x 8 with
  | none => exact h
  | some p =>
    cases e : inB y 10000 with
    | none => exact h
    | some c => exact ⟨h.1, t2_put h.2.1 (fun k hk => by cases hk; exact hy c e), h.2.2⟩
theorem vv_erase {A : gSt0} (h : gVv A) (x : Int32) : gVv (oErase A x).2.2 := by
  unfold oErase
  cases inB x 8 with
  | none => exact h
  | some p =>
    show gVv (match aW A p with | none => ((2, 0, A) : gRes) | some c => (0, nI c, setW A (uO (aW A) p none))).2.2
    cases e : aW A p with
    | none => exact h
    | some c => exact ⟨h.1, t2_put h.2.1 (fun k hk => by cases hk), h.2.2⟩
theorem vv_reset {A : gSt0} (h : gVv A) (x : Int32) : gVv (oReset A x).2.2 := by
  unfold oReset
  cases e : inB x (aN A) with
  | none => exact h
  | some c => exact vv_take h h.1 rfl
theorem vv_move {A : gSt0} (h : gVv A) (x y : Int32) : gVv (oMove A x y).2.2 := by
  unfold oMove
  cases ex : inB x 8 with
  | none => exact h
  | some p =>
    cases inB y 8 with
    | none => exact h
    | some q =>
      show gVv (match aW A p with | none => ((2, 0, A) : gRes) | some c => (match aW A q with | some _ => (3, 0, A) | none => (0, nI c, setW A (uO (uO (aW A) p none) q (some c))))).2.2
      cases e : aW A p with
      | none => exact h
      | some c =>
        cases aW A q with
        | some d => exact h
        | none =>
          exact ⟨h.1, t2_put (t2_put h.2.1 (fun k hk => by cases hk)) (fun k hk => by cases hk; exact h.2.1 p c (inB_some (by decide) ex).2 e), h.2.2⟩
theorem vv_commit {A : gSt0} (hA : gAi A) (h : gVv A) : gVv (oCommit A).2.2 := by
  unfold oCommit
  by_cases c0 : chgA A = 0
  · rw [if_pos c0]; exact h
  · rw [if_neg c0]
    have hk := vt_mk (t := aW A) (f := aHd A) (s := none) hA h.1 h.2.1
    cases e : mkO A (aW A) (aHd A) none with
    | none => exact h
    | some c => exact vv_take h hk (mk_same A _ _ _).1
theorem vv_branch {A : gSt0} (h : gVv A) (x : Int32) : gVv (oBranch A x).2.2 := by
  unfold oBranch
  cases inB x 5 with
  | none => exact h
  | some b =>
    show gVv (match aH A b with | some _ => ((2, 0, A) : gRes) | none => (0, nI (aHd A), setH A (uO (aH A) b (some (aHd A))))).2.2
    cases e : aH A b with
    | some d => exact h
    | none =>
      refine ⟨h.1, h.2.1, ?_⟩
      show (uO (aH A) b (some (aHd A)) 0).isSome = true
      by_cases w : 0 = b
      · rw [w, uO_s]; rfl
      · rw [uO_n _ _ w]; exact h.2.2
theorem vv_check {A : gSt0} (h : gVv A) (x : Int32) : gVv (oCheckOut A x).2.2 := by
  unfold oCheckOut
  cases e : inB x 5 with
  | none => exact h
  | some b =>
    show gVv (match aH A b with | none => ((2, 0, A) : gRes) | some g => if chgA A = 0 then (0, nI g, setW (setC A b) (aT A g)) else (3, 0, A)).2.2
    cases e2 : aH A b with
    | none => exact h
    | some g =>
      show gVv (if chgA A = 0 then ((0, nI g, setW (setC A b) (aT A g)) : gRes) else (3, 0, A)).2.2
      by_cases c0 : chgA A = 0
      · rw [if_pos c0]
        exact ⟨h.1, h.1.1 g, h.2.2⟩
      · rw [if_neg c0]; exact h
theorem vv_merge {A : gSt0} (hA : gAi A) (h : gVv A) (x : Int32) : gVv (oMerge A x).2.2 := by
  unfold oMerge
  cases e : inB x 5 with
  | none => exact h
  | some b =>
    show gVv (match aH A b with | none => ((2, 0, A) : gRes) | some t => if chgA A = 0 then (match anc (aF A) (aS A) (aHd A) t, anc (aF A) (aS A) t (aHd A) with
      | true, _ => (3, 0, A)
      | false, true => (0, nI t, takeA A t)
      | false, false => match rmO A (aHd A) t with
        | none => (4, 0, A)
        | some c => (0, nI c, takeA (rmA A (aHd A) t) c)) else (3, 0, A)).2.2
    cases e2 : aH A b with
    | none => exact h
    | some t =>
      by_cases c0 : chgA A = 0
      · simp only [if_pos c0]
        cases anc (aF A) (aS A) (aHd A) t with
        | true => exact h
        | false =>
          cases anc (aF A) (aS A) t (aHd A) with
          | true => exact vv_take h h.1 rfl
          | false =>
            cases e3 : rmO A (aHd A) t with
            | none => exact h
            | some c => exact vv_take h (vt_rm hA h.1) (rm_same A _ _).1
      · simp only [if_neg c0]
        exact h
theorem vv_put {A : gSt0} (hA : gOk A) (h : gVv A) (x : Int32) : gVv (oPutOnto A x).2.2 := by
  unfold oPutOnto
  cases e : inB x 5 with
  | none => exact h
  | some b =>
    show gVv (match aH A b with | none => ((2, 0, A) : gRes) | some t => if chgA A = 0 then (match anc (aF A) (aS A) t (aHd A) with
      | true => (3, 0, A)
      | false => match (poR A t).1 with
        | none => (4, 0, A)
        | some l => (0, nI (chL A t (aHd A)), takeA (poR A t).2 l)) else (3, 0, A)).2.2
    cases e2 : aH A b with
    | none => exact h
    | some t =>
      have ht := hA.2.2.1 b t (inB_some (by decide) e).2 e2
      by_cases c0 : chgA A = 0
      · simp only [if_pos c0]
        cases anc (aF A) (aS A) t (aHd A) with
        | true => exact h
        | false =>
          cases e3 : (poR A t).1 with
          | none => exact h
          | some l => exact vv_take h (vt_apK hA.1 ht h.1 _) (apK_ok hA.1 ht _).2.1.2.2.1
      · simp only [if_neg c0]
        exact h
/-! what is thrown changes nothing; what is answered is no code of a throw -/
def wI (o : gRes) : Int32 := if o.1 = 0 then o.2.1 else -1000 - nI o.1
theorem w_1 (A : gSt0) : wI (1, 0, A) = -1001 := (if_neg (show ¬ (1 : Nat) = 0 by decide)).trans (show (-1000 - nI 1 : Int32) = -1001 by decide)
theorem w_2 (A : gSt0) : wI (2, 0, A) = -1002 := (if_neg (show ¬ (2 : Nat) = 0 by decide)).trans (show (-1000 - nI 2 : Int32) = -1002 by decide)
theorem w_3 (A : gSt0) : wI (3, 0, A) = -1003 := (if_neg (show ¬ (3 : Nat) = 0 by decide)).trans (show (-1000 - nI 3 : Int32) = -1003 by decide)
/-- a call's end as the law asks of it -/
def gTh (A : gSt0) (o : gRes) : Prop := (o.1 ≠ 0 → o.2.2 = A ∧ o.1 < 9) ∧ (o.1 = 0 → ∃ z : Option Nat, o.2.1 = oI z ∧ ∀ v, z = some v → v < 2 ^ 31)
theorem th_no {A : gSt0} {k : Nat} (h : k + 1 < 9) : gTh A (k + 1, 0, A) := ⟨fun _ => ⟨rfl, h⟩, fun q => absurd q (Nat.succ_ne_zero _)⟩
theorem th_ok {A B : gSt0} {v : Nat} (h : v < 2 ^ 31) : gTh A (0, nI v, B) := ⟨fun q => absurd rfl q, fun _ => ⟨some v, rfl, fun w e => by cases e; exact h⟩⟩
theorem th_okO {A B : gSt0} {z : Option Nat} (h : ∀ v, z = some v → v < 2 ^ 31) : gTh A (0, oI z, B) := ⟨fun q => absurd rfl q, fun _ => ⟨z, rfl, h⟩⟩
theorem w_codes : ∀ k, k < 9 → k ≠ 0 → (-1000 - nI k : Int32) < -1000 ∧ ¬ (0 : Int32) ≤ -1000 - nI k := by decide
theorem w_oI {z : Option Nat} (h : ∀ v, z = some v → v < 2 ^ 31) : ¬ oI z < (-1000 : Int32) := by
  cases z with
  | none => decide
  | some v =>
    intro q
    exact nI_pos (h v rfl) (Int32.lt_trans q (by decide))
theorem th_w {A : gSt0} {o : gRes} (h : gTh A o) : (wI o < -1000 ↔ o.1 ≠ 0) ∧ (0 ≤ wI o → o.1 = 0) := by
  unfold wI
  by_cases e : o.1 = 0
  · rw [if_pos e]
    obtain ⟨z, h1, h2⟩ := h.2 e
    rw [h1]
    exact ⟨⟨fun q => absurd q (w_oI h2), fun q => absurd e q⟩, fun _ => e⟩
  · rw [if_neg e]
    have h1 := w_codes o.1 (h.1 e).2 e
    exact ⟨⟨fun _ => e, fun _ => h1.1⟩, fun q => absurd q h1.2⟩
theorem th_write {A : gSt0} (hB : gAb A) (x y : Int32) : gTh A (oWrite A x y) := by
  unfold oWrite
  cases e : inB x 8 with
  | none => exact th_no (by decide)
  | some p =>
    cases inB y 10000 with
    | none => exact th_no (by decide)
    | some c => exact th_okO (nI_lt8 hB.2.2.2 (inB_some (by decide) e).2)
theorem th_erase {A : gSt0} (hB : gAb A) (x : Int32) : gTh A (oErase A x) := by
  unfold oErase
  cases e : inB x 8 with
  | none => exact th_no (by decide)
  | some p =>
    show gTh A (match aW A p with | none => ((2, 0, A) : gRes) | some c => (0, nI c, setW A (uO (aW A) p none)))
    cases e2 : aW A p with
    | none => exact th_no (by decide)
    | some c => exact th_ok (nI_lt8 hB.2.2.2 (inB_some (by decide) e).2 c e2)
theorem th_move {A : gSt0} (hB : gAb A) (x y : Int32) : gTh A (oMove A x y) := by
  unfold oMove
  cases ex : inB x 8 with
  | none => exact th_no (by decide)
  | some p =>
    cases inB y 8 with
    | none => exact th_no (by decide)
    | some q =>
      show gTh A (match aW A p with | none => ((2, 0, A) : gRes) | some c => (match aW A q with | some _ => (3, 0, A) | none => (0, nI c, setW A (uO (uO (aW A) p none) q (some c)))))
      cases e : aW A p with
      | none => exact th_no (by decide)
      | some c =>
        cases aW A q with
        | some d => exact th_no (by decide)
        | none => exact th_ok (nI_lt8 hB.2.2.2 (inB_some (by decide) ex).2 c e)
theorem lt_60 {n c : Nat} (h : n ≤ 60) (hc : c ≤ n) : c < 2 ^ 31 := Nat.lt_of_le_of_lt (Nat.le_trans hc h) (by decide)
theorem th_commit {A : gSt0} (hA : gOk A) : gTh A (oCommit A) := by
  unfold oCommit
  by_cases c0 : chgA A = 0
  · rw [if_pos c0]; exact th_no (by decide)
  · rw [if_neg c0]
    have hk := mk_ai (t := aW A) (f := aHd A) (s := none) hA.1 hA.2.2.2.2 (ab_hd hA.2).2 (fun q e => by cases e)
    cases e : mkO A (aW A) (aHd A) none with
    | none => exact th_no (by decide)
    | some c => exact th_ok (lt_60 hk.1.1.2 (Nat.le_of_lt (hk.2.2 c e)))
theorem th_branch {A : gSt0} (hA : gOk A) (x : Int32) : gTh A (oBranch A x) := by
  unfold oBranch
  cases inB x 5 with
  | none => exact th_no (by decide)
  | some b =>
    show gTh A (match aH A b with | some _ => ((2, 0, A) : gRes) | none => (0, nI (aHd A), setH A (uO (aH A) b (some (aHd A)))))
    cases e : aH A b with
    | some d => exact th_no (by decide)
    | none => exact th_ok (lt_60 hA.1.1.2 (Nat.le_of_lt (ab_hd hA.2).2))
theorem th_check {A : gSt0} (hA : gOk A) (x : Int32) : gTh A (oCheckOut A x) := by
  unfold oCheckOut
  cases e : inB x 5 with
  | none => exact th_no (by decide)
  | some b =>
    show gTh A (match aH A b with | none => ((2, 0, A) : gRes) | some g => if chgA A = 0 then (0, nI g, setW (setC A b) (aT A g)) else (3, 0, A))
    cases e2 : aH A b with
    | none => exact th_no (by decide)
    | some g =>
      show gTh A (if chgA A = 0 then ((0, nI g, setW (setC A b) (aT A g)) : gRes) else (3, 0, A))
      by_cases c0 : chgA A = 0
      · rw [if_pos c0]
        exact th_ok (lt_60 hA.1.1.2 (Nat.le_of_lt (hA.2.2.1 b g (inB_some (by decide) e).2 e2)))
      · rw [if_neg c0]; exact th_no (by decide)
theorem th_reset {A : gSt0} (hA : gOk A) (x : Int32) : gTh A (oReset A x) := by
  unfold oReset
  cases e : inB x (aN A) with
  | none => exact th_no (by decide)
  | some c => exact th_ok (lt_60 hA.1.1.2 (Nat.le_of_lt (ab_hd hA.2).2))
theorem th_merge {A : gSt0} (hA : gOk A) (x : Int32) : gTh A (oMerge A x) := by
  unfold oMerge
  cases e : inB x 5 with
  | none => exact th_no (by decide)
  | some b =>
    show gTh A (match aH A b with | none => ((2, 0, A) : gRes) | some t => if chgA A = 0 then (match anc (aF A) (aS A) (aHd A) t, anc (aF A) (aS A) t (aHd A) with
      | true, _ => (3, 0, A)
      | false, true => (0, nI t, takeA A t)
      | false, false => match rmO A (aHd A) t with
        | none => (4, 0, A)
        | some c => (0, nI c, takeA (rmA A (aHd A) t) c)) else (3, 0, A))
    cases e2 : aH A b with
    | none => exact th_no (by decide)
    | some t =>
      have ht := hA.2.2.1 b t (inB_some (by decide) e).2 e2
      have hk := rm_ai hA.1 (ab_hd hA.2).2 ht
      by_cases c0 : chgA A = 0
      · simp only [if_pos c0]
        cases anc (aF A) (aS A) (aHd A) t with
        | true => exact th_no (by decide)
        | false =>
          cases anc (aF A) (aS A) t (aHd A) with
          | true => exact th_ok (lt_60 hA.1.1.2 (Nat.le_of_lt ht))
          | false =>
            cases e3 : rmO A (aHd A) t with
            | none => exact th_no (by decide)
            | some c => exact th_ok (lt_60 hk.1.1.2 (Nat.le_of_lt (hk.2.2 c e3)))
      · simp only [if_neg c0]
        exact th_no (by decide)
theorem th_put {A : gSt0} (hA : gOk A) (x : Int32) : gTh A (oPutOnto A x) := by
  unfold oPutOnto
  cases e : inB x 5 with
  | none => exact th_no (by decide)
  | some b =>
    show gTh A (match aH A b with | none => ((2, 0, A) : gRes) | some t => if chgA A = 0 then (match anc (aF A) (aS A) t (aHd A) with
      | true => (3, 0, A)
      | false => match (poR A t).1 with
        | none => (4, 0, A)
        | some l => (0, nI (chL A t (aHd A)), takeA (poR A t).2 l)) else (3, 0, A))
    cases e2 : aH A b with
    | none => exact th_no (by decide)
    | some t =>
      have ht := hA.2.2.1 b t (inB_some (by decide) e).2 e2
      by_cases c0 : chgA A = 0
      · simp only [if_pos c0]
        cases anc (aF A) (aS A) t (aHd A) with
        | true => exact th_no (by decide)
        | false =>
          cases e3 : (poR A t).1 with
          | none => exact th_no (by decide)
          | some l => exact th_ok (lt_60 (n := 60) (Nat.le_refl _) (Nat.le_of_lt (chL_ok hA.1 ht (ab_hd hA.2).2).1))
      · simp only [if_neg c0]
        exact th_no (by decide)
/-! after a commit was taken the work tree has no changes -/
theorem chg_take (A : gSt0) (c : Nat) : chgA (takeA A c) = 0 := by
  unfold chgA
  refine cnt_zero.mpr (fun p _ => decide_eq_false (fun h => h ?_))
  show aT A c p = aT A ((uO (aH A) (aC A) (some c) (aC A)).getD 0) p
  rw [uO_s]
  rfl
theorem ch_check {A : gSt0} (x : Int32) (h : (oCheckOut A x).1 = 0) : chgA (oCheckOut A x).2.2 = 0 := by
  revert h
  unfold oCheckOut
  cases inB x 5 with
  | none => intro h; cases h
  | some b =>
    show (match aH A b with | none => ((2, 0, A) : gRes) | some g => if chgA A = 0 then (0, nI g, setW (setC A b) (aT A g)) else (3, 0, A)).1 = 0 → chgA (match aH A b with | none => ((2, 0, A) : gRes) | some g => if chgA A = 0 then (0, nI g, setW (setC A b) (aT A g)) else (3, 0, A)).2.2 = 0
    cases e2 : aH A b with
    | none => intro h; cases h
    | some g =>
      show (if chgA A = 0 then ((0, nI g, setW (setC A b) (aT A g)) : gRes) else (3, 0, A)).1 = 0 → chgA (if chgA A = 0 then ((0, nI g, setW (setC A b) (aT A g)) : gRes) else (3, 0, A)).2.2 = 0
      by_cases c0 : chgA A = 0
      · rw [if_pos c0]
        intro _
        unfold chgA
        refine cnt_zero.mpr (fun p _ => decide_eq_false (fun h => h ?_))
        show aT A g p = aT A ((aH A b).getD 0) p
        rw [e2]
        rfl
      · rw [if_neg c0]; intro h; cases h
theorem ch_reset {A : gSt0} (x : Int32) (h : (oReset A x).1 = 0) : chgA (oReset A x).2.2 = 0 := by
  revert h
  unfold oReset
  cases inB x (aN A) with
  | none => intro h; cases h
  | some c => intro _; exact chg_take A c
theorem ch_merge {A : gSt0} (x : Int32) (h : (oMerge A x).1 = 0) : chgA (oMerge A x).2.2 = 0 := by
  revert h
  unfold oMerge
  cases inB x 5 with
  | none => intro h; cases h
  | some b =>
    show (match aH A b with | none => ((2, 0, A) : gRes) | some t => if chgA A = 0 then (match anc (aF A) (aS A) (aHd A) t, anc (aF A) (aS A) t (aHd A) with
      | true, _ => (3, 0, A)
      | false, true => (0, nI t, takeA A t)
      | false, false => match rmO A (aHd A) t with
        | none => (4, 0, A)
        | some c => (0, nI c, takeA (rmA A (aHd A) t) c)) else (3, 0, A)).1 = 0 → chgA (match aH A b with | none => ((2, 0, A) : gRes) | some t => if chgA A = 0 then (match anc (aF A) (aS A) (aHd A) t, anc (aF A) (aS A) t (aHd A) with
      | true, _ => (3, 0, A)
      | false, true => (0, nI t, takeA A t)
      | false, false => match rmO A (aHd A) t with
        | none => (4, 0, A)
        | some c => (0, nI c, takeA (rmA A (aHd A) t) c)) else (3, 0, A)).2.2 = 0
    cases e2 : aH A b with
    | none => intro h; cases h
    | some t =>
      by_cases c0 : chgA A = 0
      · simp only [if_pos c0]
        cases anc (aF A) (aS A) (aHd A) t with
        | true => intro h; cases h
        | false =>
          cases anc (aF A) (aS A) t (aHd A) with
          | true => intro _; exact chg_take A t
          | false =>
            cases e3 : rmO A (aHd A) t with
            | none => intro h; cases h
            | some c => intro _; exact chg_take _ c
      · simp only [if_neg c0]
        intro h; cases h
theorem ch_put {A : gSt0} (x : Int32) (h : (oPutOnto A x).1 = 0) : chgA (oPutOnto A x).2.2 = 0 := by
  revert h
  unfold oPutOnto
  cases inB x 5 with
  | none => intro h; cases h
  | some b =>
    show (match aH A b with | none => ((2, 0, A) : gRes) | some t => if chgA A = 0 then (match anc (aF A) (aS A) t (aHd A) with
      | true => (3, 0, A)
      | false => match (poR A t).1 with
        | none => (4, 0, A)
        | some l => (0, nI (chL A t (aHd A)), takeA (poR A t).2 l)) else (3, 0, A)).1 = 0 → chgA (match aH A b with | none => ((2, 0, A) : gRes) | some t => if chgA A = 0 then (match anc (aF A) (aS A) t (aHd A) with
      | true => (3, 0, A)
      | false => match (poR A t).1 with
        | none => (4, 0, A)
        | some l => (0, nI (chL A t (aHd A)), takeA (poR A t).2 l)) else (3, 0, A)).2.2 = 0
    cases e2 : aH A b with
    | none => intro h; cases h
    | some t =>
      by_cases c0 : chgA A = 0
      · simp only [if_pos c0]
        cases anc (aF A) (aS A) t (aHd A) with
        | true => intro h; cases h
        | false =>
          cases e3 : (poR A t).1 with
          | none => intro h; cases h
          | some l => intro _; exact chg_take _ l
      · simp only [if_neg c0]
        intro h; cases h
