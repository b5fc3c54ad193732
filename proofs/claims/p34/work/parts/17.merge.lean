/-! what is merged -/
def moO (t u : Nat → Option Nat) (p : Nat) : Option Nat := plO u (moves t u) p
def flC (t u v : Nat → Option Nat) (p : Nat) : Bool := (t p).isSome && (match moO t u p, moO t v p with
  | some a, some b => (match chgN p a b, mrgN (gv t p) (gv u a) (gv v b) 4 with
    | some _, some _ => false
    | _, _ => true)
  | _, _ => !(nuB t u (moves t u) p && nuB t v (moves t v) p))
def flA (t u v : Nat → Option Nat) (p : Nat) : Option (Nat × Nat) := if (t p).isSome = true then (match moO t u p, moO t v p with
  | some a, some b => (match chgN p a b, mrgN (gv t p) (gv u a) (gv v b) 4 with
    | some x, some c => some (x, c)
    | _, _ => none)
  | _, _ => none) else none
def n1O (t u : Nat → Option Nat) (p : Nat) : Option Nat := nwO t u (moves t u) p
def n2O (t u v : Nat → Option Nat) (p : Nat) : Option Nat := if n1O t v p = n1O t u p then none else n1O t v p
def atB (e : Option (Nat × Nat)) (q : Nat) : Bool := match e with
  | some (x, _) => decide (x = q)
  | none => false
def arN (t u v : Nat → Option Nat) (i j k q : Nat) : Nat := cntN (fun p => atB (flA t u v p) q) i + ((if q < j ∧ (n1O t u q).isSome = true then 1 else 0) + (if q < k ∧ (n2O t u v q).isSome = true then 1 else 0))
def rsN (t u v : Nat → Option Nat) (i j k q : Nat) : Option Nat := match firstN (fun p => atB (flA t u v p) q) i with
  | some p => (match flA t u v p with
    | some (_, c) => some c
    | none => none)
  | none => if q < j ∧ (n1O t u q).isSome = true then n1O t u q else if q < k then n2O t u v q else none
def gAr (t u v : Nat → Option Nat) (ra rr : Nat) (M : gMem) (i j k : Nat) : Prop := ∀ q, q < 8 → M.1 ra q = nI (arN t u v i j k q) ∧ (arN t u v i j k q ≤ 1 → M.1 rr q = oI (rsN t u v i j k q))
def mgN (t u v : Nat → Option Nat) : Nat := cntN (flC t u v) 8 + cntN (fun q => decide (1 < arN t u v 8 8 8 q)) 8
def mgR (t u v : Nat → Option Nat) (q : Nat) : Option Nat := rsN t u v 8 8 8 q
theorem arN_le (t u v : Nat → Option Nat) {i j k q : Nat} (hi : i ≤ 8) : arN t u v i j k q ≤ 10 := by
  unfold arN
  have := cnt_le (fun p => atB (flA t u v p) q) i
  split <;> split <;> omega
theorem first_s {P : Nat → Bool} {n : Nat} : firstN P (n + 1) = (match firstN P n with | some k => some k | none => if P n = true then some n else none) := rfl
theorem first_t {P : Nat → Bool} {n : Nat} (h : firstN P n = none) (hp : P n = true) : firstN P (n + 1) = some n := by
  rw [first_s, h]; exact if_pos hp
theorem first_f {P : Nat → Bool} {n : Nat} (hp : P n = false) : firstN P (n + 1) = firstN P n := by
  rw [first_s]
  cases firstN P n with
  | some k => rfl
  | none => exact if_neg (by rw [hp]; decide)
theorem cnt_first {P : Nat → Bool} {n : Nat} : cntN P n = 0 ↔ firstN P n = none := cnt_zero.trans first_none.symm
section AR
variable {t u v : Nat → Option Nat} {ra rr : Nat} {M M' : gMem} {i j k : Nat}
theorem ar_0 (h : ∀ q, q < 8 → M.1 ra q = 0 ∧ M.1 rr q = -1) : gAr t u v ra rr M 0 0 0 := fun q hq => by
  refine ⟨?_, fun _ => ?_⟩
  · rw [(h q hq).1]
    unfold arN
    rw [if_neg (by omega), if_neg (by omega)]
    rfl
  · rw [(h q hq).2]
    unfold rsN
    show -1 = oI (if q < 0 ∧ _ then _ else if q < 0 then _ else none)
    rw [if_neg (by omega), if_neg (by omega)]
    rfl
theorem ar_E0 (h : gAr t u v ra rr M i j k) (e : flA t u v i = none) : gAr t u v ra rr M (i + 1) j k := fun q hq => by
  have e1 : atB (flA t u v i) q = false := by rw [e]; rfl
  have e2 : arN t u v (i + 1) j k q = arN t u v i j k q := by unfold arN; rw [cnt_f (P := fun p => atB (flA t u v p) q) e1]
  have e3 : rsN t u v (i + 1) j k q = rsN t u v i j k q := by unfold rsN; rw [first_f (P := fun p => atB (flA t u v p) q) e1]
  rw [e2, e3]
  exact h q hq
/-- a file came to x -/
def gCame (ra rr : Nat) (M M' : gMem) (x c : Nat) : Prop := (∀ q, M'.1 ra q = if q = x then M.1 ra x + nI 1 else M.1 ra q) ∧ ∀ q, M'.1 rr q = if q = x then nI c else M.1 rr q
theorem ar_E {x c : Nat} (h : gAr t u v ra rr M i j k) (e : flA t u v i = some (x, c)) (hx : x < 8) (hM : gCame ra rr M M' x c) : gAr t u v ra rr M' (i + 1) j k := fun q hq => by
  by_cases hqx : q = x
  · subst hqx
    have e1 : atB (flA t u v i) q = true := by rw [e]; exact decide_eq_true rfl
    have e2 : arN t u v (i + 1) j k q = arN t u v i j k q + 1 := by unfold arN; rw [cnt_t (P := fun p => atB (flA t u v p) q) e1]; omega
    rw [e2]
    refine ⟨?_, fun h1 => ?_⟩
    · rw [hM.1, if_pos rfl, (h q hq).1, nI_add]
    · rw [hM.2, if_pos rfl]
      have e0 : cntN (fun p => atB (flA t u v p) q) i = 0 := by unfold arN at h1; omega
      unfold rsN
      rw [first_t (P := fun p => atB (flA t u v p) q) (cnt_first.mp e0) e1]
      show nI c = oI (match flA t u v i with | some (_, c) => some c | none => none)
      rw [e]
      rfl
  · have e1 : atB (flA t u v i) q = false := by rw [e]; exact decide_eq_false (fun w => hqx w.symm)
    have e2 : arN t u v (i + 1) j k q = arN t u v i j k q := by unfold arN; rw [cnt_f (P := fun p => atB (flA t u v p) q) e1]
    have e3 : rsN t u v (i + 1) j k q = rsN t u v i j k q := by unfold rsN; rw [first_f (P := fun p => atB (flA t u v p) q) e1]
    rw [e2, e3, hM.1, hM.2, if_neg hqx, if_neg hqx]
    exact h q hq
theorem ar_N0 (h : gAr t u v ra rr M i j k) (e : n1O t u j = none) : gAr t u v ra rr M i (j + 1) k := fun q hq => by
  have e0 : (q < j + 1 ∧ (n1O t u q).isSome = true) ↔ (q < j ∧ (n1O t u q).isSome = true) := by
    constructor
    · rintro ⟨h1, h2⟩
      refine ⟨?_, h2⟩
      by_cases w : q = j
      · rw [w, e] at h2; cases h2
      · omega
    · rintro ⟨h1, h2⟩
      exact ⟨by omega, h2⟩
  have e2 : arN t u v i (j + 1) k q = arN t u v i j k q := by unfold arN; simp only [e0]
  have e3 : rsN t u v i (j + 1) k q = rsN t u v i j k q := by unfold rsN; simp only [e0]
  rw [e2, e3]
  exact h q hq
theorem ar_N {c : Nat} (h : gAr t u v ra rr M i j k) (e : n1O t u j = some c) (hM : gCame ra rr M M' j c) : gAr t u v ra rr M' i (j + 1) k := fun q hq => by
  by_cases hqx : q = j
  · subst hqx
    have e1 : q < q + 1 ∧ (n1O t u q).isSome = true := ⟨by omega, by rw [e]; rfl⟩
    have e2 : arN t u v i (q + 1) k q = arN t u v i q k q + 1 := by unfold arN; rw [if_pos (c := q < q + 1 ∧ (n1O t u q).isSome = true) e1, if_neg (c := q < q ∧ (n1O t u q).isSome = true) (by omega)]; omega
    rw [e2]
    refine ⟨?_, fun h1 => ?_⟩
    · rw [hM.1, if_pos rfl, (h q hq).1, nI_add]
    · rw [hM.2, if_pos rfl]
      have e0 : cntN (fun p => atB (flA t u v p) q) i = 0 := by unfold arN at h1; omega
      unfold rsN
      rw [cnt_first.mp e0]
      show nI c = oI (if _ then n1O t u q else _)
      rw [if_pos e1, e]
      rfl
  · have e0 : (q < j + 1 ∧ (n1O t u q).isSome = true) ↔ (q < j ∧ (n1O t u q).isSome = true) := ⟨fun w => ⟨by omega, w.2⟩, fun w => ⟨by omega, w.2⟩⟩
    have e2 : arN t u v i (j + 1) k q = arN t u v i j k q := by unfold arN; simp only [e0]
    have e3 : rsN t u v i (j + 1) k q = rsN t u v i j k q := by unfold rsN; simp only [e0]
    rw [e2, e3, hM.1, hM.2, if_neg hqx, if_neg hqx]
    exact h q hq
theorem ar_T0 (h : gAr t u v ra rr M i j k) (e : n2O t u v k = none) : gAr t u v ra rr M i j (k + 1) := fun q hq => by
  have e0 : (q < k + 1 ∧ (n2O t u v q).isSome = true) ↔ (q < k ∧ (n2O t u v q).isSome = true) := by
    constructor
    · rintro ⟨h1, h2⟩
      refine ⟨?_, h2⟩
      by_cases w : q = k
      · rw [w, e] at h2; cases h2
      · omega
    · rintro ⟨h1, h2⟩
      exact ⟨by omega, h2⟩
  have e1 : (if q < k + 1 then n2O t u v q else none) = (if q < k then n2O t u v q else none) := by
    by_cases w : q = k
    · rw [w, e, if_pos (by omega), if_neg (by omega)]
    · by_cases w2 : q < k
      · rw [if_pos w2, if_pos (by omega)]
      · rw [if_neg w2, if_neg (by omega)]
  have e2 : arN t u v i j (k + 1) q = arN t u v i j k q := by unfold arN; simp only [e0]
  have e3 : rsN t u v i j (k + 1) q = rsN t u v i j k q := by unfold rsN; rw [e1]
  rw [e2, e3]
  exact h q hq
theorem ar_T {c : Nat} (h : gAr t u v ra rr M i j k) (e : n2O t u v k = some c) (hM : gCame ra rr M M' k c) : gAr t u v ra rr M' i j (k + 1) := fun q hq => by
  by_cases hqx : q = k
  · subst hqx
    have e1 : q < q + 1 ∧ (n2O t u v q).isSome = true := ⟨by omega, by rw [e]; rfl⟩
    have e2 : arN t u v i j (q + 1) q = arN t u v i j q q + 1 := by
      unfold arN
      rw [if_pos (c := q < q + 1 ∧ (n2O t u v q).isSome = true) e1, if_neg (c := q < q ∧ (n2O t u v q).isSome = true) (by omega)]
      omega
    rw [e2]
    refine ⟨?_, fun h1 => ?_⟩
    · rw [hM.1, if_pos rfl, (h q hq).1, nI_add]
    · rw [hM.2, if_pos rfl]
      have e0 : cntN (fun p => atB (flA t u v p) q) i = 0 := by unfold arN at h1; omega
      have e4 : ¬ (q < j ∧ (n1O t u q).isSome = true) := fun w => by
        unfold arN at h1
        rw [if_pos w] at h1
        omega
      unfold rsN
      rw [cnt_first.mp e0]
      show nI c = oI (if _ then n1O t u q else if q < q + 1 then _ else _)
      rw [if_neg e4, if_pos (by omega), e]
      rfl
  · have e0 : (q < k + 1 ∧ (n2O t u v q).isSome = true) ↔ (q < k ∧ (n2O t u v q).isSome = true) := ⟨fun w => ⟨by omega, w.2⟩, fun w => ⟨by omega, w.2⟩⟩
    have e1 : (if q < k + 1 then n2O t u v q else none) = (if q < k then n2O t u v q else none) := by
      by_cases w2 : q < k
      · rw [if_pos w2, if_pos (by omega)]
      · rw [if_neg w2, if_neg (by omega)]
    have e2 : arN t u v i j (k + 1) q = arN t u v i j k q := by unfold arN; simp only [e0]
    have e3 : rsN t u v i j (k + 1) q = rsN t u v i j k q := by unfold rsN; rw [e1]
    rw [e2, e3, hM.1, hM.2, if_neg hqx, if_neg hqx]
    exact h q hq
theorem ar_res (h : gAr t u v ra rr M 8 8 8) (h0 : mgN t u v = 0) : gRo M rr (mgR t u v) := fun q hq => by
  unfold mgN at h0
  have h1 := cnt_zero.mp (show cntN (fun q => decide (1 < arN t u v 8 8 8 q)) 8 = 0 by omega) q hq
  exact (h q hq).2 (by have := of_decide_eq_false h1; omega)
theorem ar_same (h : gAr t u v ra rr M i j k) (h1 : ∀ q, M'.1 ra q = M.1 ra q) (h2 : ∀ q, M'.1 rr q = M.1 rr q) : gAr t u v ra rr M' i j k := fun q hq => by
  rw [h1, h2]; exact h q hq
end AR
theorem mv_some {t u : Nat → Option Nat} {p a : Nat} (h : moO t u p = some a) (hp : p < 8) : a < 8 ∧ (u a).isSome = true := pl_lt (mv_all t u) hp h
theorem mrg_lt {a b c : Nat} : ∀ {k m}, mrgN a b c k = some m → m < 10 ^ k := by
  intro k
  induction k with
  | zero => intro m h; cases h; decide
  | succ k ih =>
    intro m h
    cases h1 : mrgN a b c k with
    | none => rw [mrg_n (Or.inl h1)] at h; cases h
    | some m1 =>
      cases h2 : chgN (dg a k) (dg b k) (dg c k) with
      | none => rw [mrg_n (Or.inr h2)] at h; cases h
      | some d =>
        rw [mrg_s h1 h2] at h
        cases h
        have := ih h1
        have hd := chg_lt h2 (dg_lt b k) (dg_lt c k)
        have h9 : d * 10 ^ k ≤ 9 * 10 ^ k := Nat.mul_le_mul_right _ (by omega)
        have h10 : 10 ^ (k + 1) = 10 ^ k * 10 := Nat.pow_succ 10 k
        omega
theorem fl_some {t u v : Nat → Option Nat} {p a b x c : Nat} (hs : (t p).isSome = true) (h1 : moO t u p = some a) (h2 : moO t v p = some b) (h3 : chgN p a b = some x) (h4 : mrgN (gv t p) (gv u a) (gv v b) 4 = some c) : flC t u v p = false ∧ flA t u v p = some (x, c) := by
  unfold flC flA
  rw [hs, h1, h2]
  simp only [h3, h4, if_true, Bool.true_and, and_self]
theorem fl_bad {t u v : Nat → Option Nat} {p a b : Nat} (hs : (t p).isSome = true) (h1 : moO t u p = some a) (h2 : moO t v p = some b) (h : chgN p a b = none ∨ mrgN (gv t p) (gv u a) (gv v b) 4 = none) : flC t u v p = true ∧ flA t u v p = none := by
  unfold flC flA
  rw [hs, h1, h2]
  rcases h with h | h
  · simp only [h, if_true, Bool.true_and, and_self]
  · cases h3 : chgN p a b <;> simp only [h3, h, if_true, Bool.true_and, and_self]
theorem fl_gone {t u v : Nat → Option Nat} {p : Nat} (hs : (t p).isSome = true) (h : moO t u p = none ∨ moO t v p = none) : flC t u v p = !(nuB t u (moves t u) p && nuB t v (moves t v) p) ∧ flA t u v p = none := by
  unfold flC flA
  rw [hs]
  rcases h with h | h
  · rw [h]; simp only [if_true, Bool.true_and, and_self]
  · rw [h]; cases moO t u p <;> simp only [if_true, Bool.true_and, and_self]
theorem fl_no {t u v : Nat → Option Nat} {p : Nat} (h : t p = none) : flC t u v p = false ∧ flA t u v p = none := by
  unfold flC flA
  rw [h]
  exact ⟨rfl, rfl⟩
theorem fl_lt {t u v : Nat → Option Nat} {p x c : Nat} (hp : p < 8) (h : flA t u v p = some (x, c)) : x < 8 ∧ c < 10000 := by
  by_cases hs : (t p).isSome = true
  · cases h1 : moO t u p with
    | none => rw [(fl_gone hs (Or.inl h1)).2] at h; cases h
    | some a =>
      cases h2 : moO t v p with
      | none => rw [(fl_gone hs (Or.inr h2)).2] at h; cases h
      | some b =>
        cases h3 : chgN p a b with
        | none => rw [(fl_bad hs h1 h2 (Or.inl h3)).2] at h; cases h
        | some y =>
          cases h4 : mrgN (gv t p) (gv u a) (gv v b) 4 with
          | none => rw [(fl_bad hs h1 h2 (Or.inr h4)).2] at h; cases h
          | some d =>
            rw [(fl_some hs h1 h2 h3 h4).2] at h
            cases h
            exact ⟨chg_lt h3 (mv_some h1 hp).1 (mv_some h2 hp).1, mrg_lt h4⟩
  · have : t p = none := by
      cases e : t p with
      | none => rfl
      | some v => rw [e] at hs; exact absurd rfl hs
    rw [(fl_no this).2] at h
    cases h
theorem nw_lt {t u mv : Nat → Option Nat} (hu : gTn u) {p : Nat} (hp : p < 8) : ∀ c, nwO t u mv p = some c → c < 10000 := fun c h => by
  unfold nwO at h
  split at h
  · exact hu p c hp h
  · cases h
theorem mgR_tn {t u v : Nat → Option Nat} (hu : gTn u) (hv : gTn v) : gTn (mgR t u v) := fun q c hq h => by
  unfold mgR rsN at h
  split at h
  · next p hp =>
    split at h
    · next x c' hx =>
      cases h
      exact (fl_lt (first_some.mp hp).1 hx).2
    · cases h
  · split at h
    · exact nw_lt hu hq c h
    · unfold n2O at h
      split at h
      · cases h
      · exact nw_lt hv hq c h
/-- only rows from lo to hi and the count of conflicts differ -/
def gSd (lo hi : Nat) (M M' : gMem) : Prop := M'.2.1 = M.2.1 ∧ M'.2.2.2 = M.2.2.2 ∧ (∀ o j, ¬ (o = 130 ∧ j = 4) → M'.2.2.1 o j = M.2.2.1 o j) ∧ ∀ o, o < lo ∨ hi < o → M'.1 o = M.1 o
theorem sd_refl {lo hi : Nat} (M : gMem) : gSd lo hi M M := ⟨rfl, rfl, fun _ _ _ => rfl, fun _ _ => rfl⟩
theorem sd_trans {lo hi : Nat} {M M1 M2 : gMem} (h : gSd lo hi M M1) (h' : gSd lo hi M1 M2) : gSd lo hi M M2 := ⟨h'.1.trans h.1, h'.2.1.trans h.2.1, fun o j ho => (h'.2.2.1 o j ho).trans (h.2.2.1 o j ho), fun o ho => (h'.2.2.2 o ho).trans (h.2.2.2 o ho)⟩
theorem sd_mono {lo hi lo' hi' : Nat} {M M' : gMem} (h : gSd lo hi M M') (h1 : lo' ≤ lo) (h2 : hi ≤ hi') : gSd lo' hi' M M' := ⟨h.1, h.2.1, h.2.2.1, fun o ho => h.2.2.2 o (by omega)⟩
theorem sd_sc {lo hi lo' hi' : Nat} {M M' : gMem} (h : gSc lo hi M M') (h1 : lo' ≤ lo) (h2 : hi ≤ hi') : gSd lo' hi' M M' := ⟨by rw [h.1], by rw [h.1], fun _ _ _ => by rw [h.1], fun o ho => h.2 o (by omega)⟩
theorem sd_sI {lo hi o : Nat} (M : gMem) (f : Nat → Int32) (h1 : lo ≤ o) (h2 : o ≤ hi) : gSd lo hi M (sI M o f) := sd_sc (sc_sI M f h1 h2) (Nat.le_refl _) (Nat.le_refl _)
theorem sd_sF {lo hi : Nat} (M : gMem) (v : Int32) : gSd lo hi M (sF M 130 4 v) := ⟨rfl, rfl, fun o j h => by
  rw [sF_F]
  by_cases e : o = 130
  · rw [if_pos e, if_neg (fun w => h ⟨e, w⟩), e]
  · rw [if_neg e], fun _ _ => rfl⟩
theorem cp_sc {lo hi : Nat} {M M' : gMem} {k : Nat} {t u mv : Nat → Option Nat} (h : gCp M k t u mv) (hs : gSc lo hi M M') (e : k + 6 < lo ∨ hi < k + 2) : gCp M' k t u mv := fun p hp => by
  rw [hs.2 _ (by omega), hs.2 _ (by omega), hs.2 _ (by omega), hs.2 _ (by omega)]
  exact h p hp
theorem cp_sd {lo hi : Nat} {M M' : gMem} {k : Nat} {t u mv : Nat → Option Nat} (h : gCp M k t u mv) (hs : gSd lo hi M M') (e : k + 6 < lo ∨ hi < k + 2) : gCp M' k t u mv := fun p hp => by
  rw [hs.2.2.2 _ (by omega), hs.2.2.2 _ (by omega), hs.2.2.2 _ (by omega), hs.2.2.2 _ (by omega)]
  exact h p hp
theorem ro_sd {lo hi : Nat} {M M' : gMem} {a : Nat} {t : Nat → Option Nat} (h : gRo M a t) (hs : gSd lo hi M M') (e : a < lo ∨ hi < a) : gRo M' a t := fun p hp => by
  rw [hs.2.2.2 a e]; exact h p hp
/-- arrivals of the class -/
def arvM (M : gMem) (p : Nat) (c : Int32) : gMem := sI (sI M 147 (upd (M.1 147) p (M.1 147 p + nI 1))) 146 (upd (M.1 146) p c)
theorem arv_sd (M : gMem) (p : Nat) (c : Int32) : gSd 146 147 M (arvM M p c) := sd_trans (sd_sI M _ (by decide) (by decide)) (sd_sI _ _ (by decide) (by decide))
theorem arv_came (M : gMem) (p c : Nat) : gCame 147 146 M (arvM M p (nI c)) p c := ⟨fun q => by
  unfold arvM
  rw [sI_n _ _ (by decide), sI_s]
  rfl, fun q => by
  unfold arvM
  rw [sI_s]
  rfl⟩
theorem arv_F (M : gMem) (p : Nat) (c : Int32) (o j : Nat) : (arvM M p c).2.2.1 o j = M.2.2.1 o j := rfl
theorem sF_at (M : gMem) (o j : Nat) (v : Int32) : (sF M o j v).2.2.1 o j = v := by rw [sF_F, if_pos rfl, if_pos rfl]
/-- after the file of p was followed -/
def gFlw (t u v : Nat → Option Nat) (p : Nat) (M M' : gMem) : Prop := gSd 146 147 M M' ∧ gAr t u v 147 146 M' (p + 1) p p ∧ M'.2.2.1 130 4 = nI (cntN (flC t u v) (p + 1))
theorem flw_0 {t u v : Nat → Option Nat} {p : Nat} {M : gMem} (ha : gAr t u v 147 146 M p p p) (hf : M.2.2.1 130 4 = nI (cntN (flC t u v) p)) (h : flC t u v p = false ∧ flA t u v p = none) : gFlw t u v p M M := ⟨sd_refl M, ar_E0 ha h.2, by rw [cnt_f h.1]; exact hf⟩
theorem flw_c {t u v : Nat → Option Nat} {p : Nat} {M : gMem} (ha : gAr t u v 147 146 M p p p) (h : flC t u v p = true ∧ flA t u v p = none) : gFlw t u v p M (sF M 130 4 (nI (cntN (flC t u v) p + 1))) := ⟨sd_sF M _, ar_E0 (ar_same ha (fun _ => rfl) (fun _ => rfl)) h.2, by rw [cnt_t h.1, sF_at]⟩
theorem flw_a {t u v : Nat → Option Nat} {p x c : Nat} {M : gMem} (ha : gAr t u v 147 146 M p p p) (hf : M.2.2.1 130 4 = nI (cntN (flC t u v) p)) (hx : x < 8) (h : flC t u v p = false ∧ flA t u v p = some (x, c)) : gFlw t u v p M (arvM M x (nI c)) := ⟨arv_sd M _ _, ar_E ha h.2 hx (arv_came M x c), by rw [cnt_f h.1]; exact hf⟩
theorem nu_no {a b : Bool} (h : a = false) : (!(a && b)) = true := by rw [h]; rfl
theorem nu_n2 {a b : Bool} (h : b = false) : (!(a && b)) = true := by rw [h]; cases a <;> rfl
theorem nu_ok {a b : Bool} (h : a = true) (h2 : b = true) : (!(a && b)) = false := by rw [h, h2]; rfl
theorem br_ne {o : Option Nat} {c : Nat} {y : Int32} (h : o = some c) (e : ¬ oI o = y) : ¬ nI c = y := by rw [h] at e; exact e
theorem cp_sF {M : gMem} {k o j : Nat} {x : Int32} {t u mv : Nat → Option Nat} (h : gCp M k t u mv) : gCp (sF M o j x) k t u mv := h
theorem gCm_1 : gCm 131 := Or.inl rfl
theorem gCm_2 : gCm 138 := Or.inr rfl
theorem gTr_145 : gTr 145 := by unfold gTr; decide
theorem mrg_ini {M : gMem} {i : Nat} (h : ∀ p, p < i → M.1 147 p = 0 ∧ M.1 146 p = -1) : ∀ p, p < i + 1 → (sI (sI M 147 (upd (M.1 147) i (nI 0))) (145 + 1) (upd ((sI M 147 (upd (M.1 147) i (nI 0))).1 (145 + 1)) i (-1))).1 147 p = 0 ∧ (sI (sI M 147 (upd (M.1 147) i (nI 0))) (145 + 1) (upd ((sI M 147 (upd (M.1 147) i (nI 0))).1 (145 + 1)) i (-1))).1 146 p = -1 := by
  intro p hp
  rw [show (145 + 1 : Nat) = 146 from rfl, sI_s, sI_n _ _ (show (147 : Nat) ≠ 146 by decide), sI_n _ _ (show (146 : Nat) ≠ 147 by decide), sI_s]
  by_cases e : p = i
  · rw [e, upd_s, upd_s]; exact ⟨rfl, rfl⟩
  · rw [upd_n _ _ e, upd_n _ _ e]; exact h p (by omega)
theorem bring_ok {t u v : Nat → Option Nat} {p : Nat} {M M1 M2 : gMem} (ha : gAr t u v 147 146 M (p + 1) p p) (hl1 : ∀ c, n1O t u p = some c → c < 10000) (hl2 : ∀ c, n1O t v p = some c → c < 10000)
    (h1 : (n1O t u p = none ∧ M1 = M) ∨ ∃ c, n1O t u p = some c ∧ M1 = arvM M p (nI c)) (h2 : ((n1O t v p = none ∨ oI (n1O t v p) = oI (n1O t u p)) ∧ M2 = M1) ∨ ∃ c, n1O t v p = some c ∧ ¬ nI c = oI (n1O t u p) ∧ M2 = arvM M1 p (nI c)) : gSd 146 147 M M2 ∧ gAr t u v 147 146 M2 (p + 1) (p + 1) (p + 1) ∧ M2.2.2.1 130 4 = M.2.2.1 130 4 := by
  have A : gSd 146 147 M M1 ∧ gAr t u v 147 146 M1 (p + 1) (p + 1) p ∧ M1.2.2.1 130 4 = M.2.2.1 130 4 := by
    rcases h1 with ⟨e, rfl⟩ | ⟨c, e, rfl⟩
    · exact ⟨sd_refl _, ar_N0 ha e, rfl⟩
    · exact ⟨arv_sd _ _ _, ar_N ha e (arv_came _ _ _), rfl⟩
  have B : gSd 146 147 M1 M2 ∧ gAr t u v 147 146 M2 (p + 1) (p + 1) (p + 1) ∧ M2.2.2.1 130 4 = M1.2.2.1 130 4 := by
    rcases h2 with ⟨e, rfl⟩ | ⟨c, e, e2, rfl⟩
    · refine ⟨sd_refl _, ar_T0 A.2.1 ?_, rfl⟩
      unfold n2O
      rcases e with e | e
      · rw [e]; split <;> rfl
      · rw [if_pos ((oI_eq (fun w hw => Nat.lt_trans (hl2 w hw) (by decide)) (fun w hw => Nat.lt_trans (hl1 w hw) (by decide))).mp e)]
    · refine ⟨arv_sd _ _ _, ar_T A.2.1 ?_ (arv_came _ _ _), rfl⟩
      unfold n2O
      rw [if_neg (fun w => e2 (by rw [← w, e]; rfl)), e]
  exact ⟨sd_trans A.1 B.1, B.2.1, B.2.2.trans A.2.2⟩
set_option maxHeartbeats 4000000 in
set_option maxRecDepth 100000 in
theorem sp_X5_merged (G : gG) (M : gMem) : SpR G mX5_merged (gRm 0 0) [.ref (gb G + 130)] M (some (.ref (gb G + 145))) M := by
  refine Sp.of (by decide +kernel) (Nat.le_of_ble_eq_true rfl) (fun X C CM => ?_)
  have C : gC G X RX5 cX5_merged 1 (gRm 0 0) := C
  refine j_aload_n C dX5_merged_0 rfl ?_
  refine q_get C fX5 2 rfl (by decide) (by decide) lf_X5_24 rfl rfl dX5_merged_1 ?_
  exact q_aret C CM rfl (by decide) (by decide) dX5_merged_4 rfl rfl
set_option maxHeartbeats 4000000 in
set_option maxRecDepth 100000 in
theorem sp_X5_arrive (G : gG) (M : gMem) {p : Nat} (hp : p < 8) (c : Int32) : SpR G mX5_arrive (gRm 1 0) [.ref (gb G + 130), .int (nI p), .int c] M (none) (arvM M p c) := by
  refine Sp.of (by decide +kernel) (Nat.le_of_ble_eq_true rfl) (fun X C CM => ?_)
  have C : gC G X RX5 cX5_arrive 3 (gRm 1 0) := C
  refine j_iload_n C dX5_arrive_0 rfl ?_
  refine j_if_lt C 32 dX5_arrive_1 (fun h => absurd h (nI_pos (by omega))) (fun _ => ?_) (by decide)
  refine j_iload_n C dX5_arrive_4 rfl ?_
  refine j_aload_n C dX5_arrive_5 rfl ?_
  refine q_get C fX5 3 rfl (by decide) (by decide) lf_X5_28 rfl rfl dX5_arrive_6 ?_
  refine q_alen C rfl (by decide) dX5_arrive_9 ?_
  refine q_icmp_ge C 32 dX5_arrive_10 (by decide) (by omega) (by omega) (fun h10 => ?_) (fun h10 => ?_)
  · omega
  · refine j_aload_n C dX5_arrive_13 rfl ?_
    refine q_get C fX5 3 rfl (by decide) (by decide) lf_X5_28 rfl rfl dX5_arrive_14 ?_
    refine j_iload_n C dX5_arrive_17 rfl ?_
    refine j_dup2 C dX5_arrive_18 rfl rfl ?_
    refine q_iald C rfl (by decide) (by decide) (by omega) dX5_arrive_19 ?_
    refine j_iconst C (v := nI 1) dX5_arrive_20 rfl ?_
    refine j_iadd C dX5_arrive_21 ?_
    refine q_iast C rfl (by decide) (by decide) (by omega) dX5_arrive_22 ?_
    refine j_aload_n C dX5_arrive_23 rfl ?_
    refine q_get C fX5 2 rfl (by decide) (by decide) lf_X5_24 rfl rfl dX5_arrive_24 ?_
    refine j_iload_n C dX5_arrive_27 rfl ?_
    refine j_iload_n C dX5_arrive_28 rfl ?_
    refine q_callV C (sp_X4_put G _ (t := 145) gTr_145 hp) vX4_put lk_X5_50 (gTr_145).1 (gTr_lt (gTr_145)) rfl rfl (Nat.le_of_ble_eq_true rfl) (by decide) dX5_arrive_29 ?_
    exact q_vret C CM rfl (by decide) (by decide) dX5_arrive_32 (by unfold arvM; rw [sI_n _ _ (show (145 + 1 : Nat) ≠ 147 by decide)])
set_option maxHeartbeats 4000000 in
set_option maxRecDepth 100000 in
theorem sp_X5_countCrowdedPaths (G : gG) (M : gMem) {ar : Nat → Nat} (h : ∀ q, q < 8 → M.1 147 q = nI (ar q) ∧ ar q < 100) : SpR G mX5_countCrowdedPaths (gRm 0 0) [.ref (gb G + 130)] M (some (.int (nI (cntN (fun q => decide (1 < ar q)) 8)))) M := by
  refine Sp.of (by decide +kernel) (Nat.le_of_ble_eq_true rfl) (fun X C CM => ?_)
  have C : gC G X RX5 cX5_countCrowdedPaths 3 (gRm 0 0) := C
  refine j_iconst C (v := nI 0) dX5_countCrowdedPaths_0 rfl ?_
  refine j_istore_n C dX5_countCrowdedPaths_1 (by decide) rfl ?_
  refine j_iconst C (v := nI 0) dX5_countCrowdedPaths_2 rfl ?_
  refine j_istore_n C dX5_countCrowdedPaths_3 (by decide) rfl ?_
  have K4 : ∀ i, i ≤ 8 → Q G X 0 0 4 [some (.ref (gb G + 130)), some (.int (nI (cntN (fun q => decide (1 < ar q)) i))), some (.int (nI i))] [] (M) := by
    refine g_up _ _ (fun i hi ih => ?_)
    refine j_iload_n C dX5_countCrowdedPaths_4 rfl ?_
    refine j_aload_n C dX5_countCrowdedPaths_5 rfl ?_
    refine q_get C fX5 3 rfl (by decide) (by decide) lf_X5_28 rfl rfl dX5_countCrowdedPaths_6 ?_
    refine q_alen C rfl (by decide) dX5_countCrowdedPaths_9 ?_
    refine q_icmp_ge C 32 dX5_countCrowdedPaths_10 (by decide) (by omega) (by omega) (fun h10 => ?_) (fun h10 => ?_)
    · refine j_iload_n C dX5_countCrowdedPaths_32 rfl ?_
      exact q_iret C CM rfl (by decide) (by decide) dX5_countCrowdedPaths_33 (by rw [show i = 8 by omega]) rfl
    · refine j_aload_n C dX5_countCrowdedPaths_13 rfl ?_
      refine q_get C fX5 3 rfl (by decide) (by decide) lf_X5_28 rfl rfl dX5_countCrowdedPaths_14 ?_
      refine j_iload_n C dX5_countCrowdedPaths_17 rfl ?_
      refine q_iald C rfl (by decide) (by decide) (by omega) dX5_countCrowdedPaths_18 ?_
      rw [(h i h10).1]
      have hq := (h i h10).2
      refine j_iconst C (v := nI 1) dX5_countCrowdedPaths_19 rfl ?_
      refine q_icmp_le C 26 dX5_countCrowdedPaths_20 (by decide) (by omega) (by omega) (fun h20 => ?_) (fun h20 => ?_)
      · refine q_iinc C dX5_countCrowdedPaths_26 rfl (by decide) rfl ?_
        refine j_goto C 4 dX5_countCrowdedPaths_29 ?_ (by decide)
        exact q_cast (ih (by omega)) (gLe_c rfl (gLe_c (by first | rw [cnt_t (decide_eq_true h20)] | rw [cnt_f (decide_eq_false (Nat.not_lt.mpr h20))]) (gLe_c rfl gLe_0))) (rfl)
      · refine q_iinc C dX5_countCrowdedPaths_23 rfl (by decide) rfl ?_
        refine q_iinc C dX5_countCrowdedPaths_26 rfl (by decide) rfl ?_
        refine j_goto C 4 dX5_countCrowdedPaths_29 ?_ (by decide)
        exact q_cast (ih (by omega)) (gLe_c rfl (gLe_c (by first | rw [cnt_t (decide_eq_true h20)] | rw [cnt_f (decide_eq_false (Nat.not_lt.mpr h20))]) (gLe_c rfl gLe_0))) (rfl)
  exact q_cast (K4 0 (by omega)) (gLe_c rfl (gLe_c rfl (gLe_c rfl gLe_0))) (rfl)
set_option maxHeartbeats 4000000 in
set_option maxRecDepth 100000 in
theorem sp_X5_bringNewFiles (G : gG) (M : gMem) {t u v : Nat → Option Nat} (ht : gTn t) (hu : gTn u) (hv : gTn v) (c1 : gCp M 131 t u (moves t u)) (c2 : gCp M 138 t v (moves t v)) {p : Nat} (hp : p < 8) (ha : gAr t u v 147 146 M (p + 1) p p) : SpS G mX5_bringNewFiles (gRm 3 0) [.ref (gb G + 130), .int (nI p)] M (none) (fun M2 => gSd 146 147 M M2 ∧ gAr t u v 147 146 M2 (p + 1) (p + 1) (p + 1) ∧ M2.2.2.1 130 4 = M.2.2.1 130 4) := by
  refine Sp.of (by decide +kernel) (Nat.le_of_ble_eq_true rfl) (fun X C CM => ?_)
  have C : gC G X RX5 cX5_bringNewFiles 4 (gRm 3 0) := C
  refine j_aload_n C dX5_bringNewFiles_0 rfl ?_
  refine q_get C fX5 0 rfl (by decide) (by decide) lf_X5_12 rfl rfl dX5_bringNewFiles_1 ?_
  refine j_iload_n C dX5_bringNewFiles_4 rfl ?_
  refine q_callV C (sp_X0_newContentAt G M (k := 131) gCm_1 c1 ht hu hp) vX0_newContentAt lk_X5_90 (gCm_k (gCm_1)) (gCm_lt (gCm_1)) rfl rfl (Nat.le_of_ble_eq_true rfl) (by decide) dX5_bringNewFiles_5 ?_
  refine j_istore_n C dX5_bringNewFiles_8 (by decide) rfl ?_
  refine j_aload_n C dX5_bringNewFiles_9 rfl ?_
  refine q_get C fX5 1 rfl (by decide) (by decide) lf_X5_18 rfl rfl dX5_bringNewFiles_10 ?_
  refine j_iload_n C dX5_bringNewFiles_13 rfl ?_
  refine q_callV C (sp_X0_newContentAt G M (k := 138) gCm_2 c2 ht hv hp) vX0_newContentAt lk_X5_90 (gCm_k (gCm_2)) (gCm_lt (gCm_2)) rfl rfl (Nat.le_of_ble_eq_true rfl) (by decide) dX5_bringNewFiles_14 ?_
  refine j_istore_n C dX5_bringNewFiles_17 (by decide) rfl ?_
  refine j_iload_n C dX5_bringNewFiles_18 rfl ?_
  refine j_iconst C (v := -1) dX5_bringNewFiles_19 rfl ?_
  refine q_icmp_eqN C 29 dX5_bringNewFiles_20 (by decide) (fun w hw => Nat.lt_trans (nw_lt hu hp w hw) (by decide)) (fun h20 => ?_) (fun v20 h20 => ?_)
  · refine j_iload_n C dX5_bringNewFiles_29 rfl ?_
    refine j_iconst C (v := -1) dX5_bringNewFiles_30 rfl ?_
    refine q_icmp_eqN C 45 dX5_bringNewFiles_31 (by decide) (fun w hw => Nat.lt_trans (nw_lt hv hp w hw) (by decide)) (fun h31 => ?_) (fun v31 h31 => ?_)
    · exact q_vretS C CM rfl (by decide) (by decide) dX5_bringNewFiles_45 (bring_ok ha (nw_lt hu hp) (nw_lt hv hp) (by first | exact Or.inl ⟨h20, rfl⟩ | exact Or.inr ⟨_, h20, rfl⟩) (by first | exact Or.inl ⟨Or.inl h31, rfl⟩ | exact Or.inl ⟨Or.inr h36, rfl⟩ | exact Or.inl ⟨Or.inr (by rw [show n1O t u p = some v20 from h20]; exact h36), rfl⟩ | exact Or.inr ⟨_, h31, br_ne h31 h36, rfl⟩ | exact Or.inr ⟨_, h31, (by rw [show n1O t u p = some v20 from h20]; exact br_ne h31 h36), rfl⟩))
    · refine j_iload_n C dX5_bringNewFiles_34 rfl ?_
      refine j_iload_n C dX5_bringNewFiles_35 rfl ?_
      refine j_icmp_eq C 45 dX5_bringNewFiles_36 (fun h36 => ?_) (fun h36 => ?_) (by decide)
      · exact q_vretS C CM rfl (by decide) (by decide) dX5_bringNewFiles_45 (bring_ok ha (nw_lt hu hp) (nw_lt hv hp) (by first | exact Or.inl ⟨h20, rfl⟩ | exact Or.inr ⟨_, h20, rfl⟩) (by first | exact Or.inl ⟨Or.inl h31, rfl⟩ | exact Or.inl ⟨Or.inr h36, rfl⟩ | exact Or.inl ⟨Or.inr (by rw [show n1O t u p = some v20 from h20]; exact h36), rfl⟩ | exact Or.inr ⟨_, h31, br_ne h31 h36, rfl⟩ | exact Or.inr ⟨_, h31, (by rw [show n1O t u p = some v20 from h20]; exact br_ne h31 h36), rfl⟩))
      · rw [h31, show oI (some v31) = nI v31 from rfl]
        refine j_aload_n C dX5_bringNewFiles_39 rfl ?_
        refine j_iload_n C dX5_bringNewFiles_40 rfl ?_
        refine j_iload_n C dX5_bringNewFiles_41 rfl ?_
        refine q_callV C (sp_X5_arrive G _ hp (nI v31)) vX5_arrive lk_X5_87 rfl (by decide) rfl rfl (Nat.le_of_ble_eq_true rfl) (by decide) dX5_bringNewFiles_42 ?_
        exact q_vretS C CM rfl (by decide) (by decide) dX5_bringNewFiles_45 (bring_ok ha (nw_lt hu hp) (nw_lt hv hp) (by first | exact Or.inl ⟨h20, rfl⟩ | exact Or.inr ⟨_, h20, rfl⟩) (by first | exact Or.inl ⟨Or.inl h31, rfl⟩ | exact Or.inl ⟨Or.inr h36, rfl⟩ | exact Or.inl ⟨Or.inr (by rw [show n1O t u p = some v20 from h20]; exact h36), rfl⟩ | exact Or.inr ⟨_, h31, br_ne h31 h36, rfl⟩ | exact Or.inr ⟨_, h31, (by rw [show n1O t u p = some v20 from h20]; exact br_ne h31 h36), rfl⟩))
  · rw [h20, show oI (some v20) = nI v20 from rfl]
    refine j_aload_n C dX5_bringNewFiles_23 rfl ?_
    refine j_iload_n C dX5_bringNewFiles_24 rfl ?_
    refine j_iload_n C dX5_bringNewFiles_25 rfl ?_
    refine q_callV C (sp_X5_arrive G M hp (nI v20)) vX5_arrive lk_X5_87 rfl (by decide) rfl rfl (Nat.le_of_ble_eq_true rfl) (by decide) dX5_bringNewFiles_26 ?_
    refine j_iload_n C dX5_bringNewFiles_29 rfl ?_
    refine j_iconst C (v := -1) dX5_bringNewFiles_30 rfl ?_
    refine q_icmp_eqN C 45 dX5_bringNewFiles_31 (by decide) (fun w hw => Nat.lt_trans (nw_lt hv hp w hw) (by decide)) (fun h31 => ?_) (fun v31 h31 => ?_)
    · exact q_vretS C CM rfl (by decide) (by decide) dX5_bringNewFiles_45 (bring_ok ha (nw_lt hu hp) (nw_lt hv hp) (by first | exact Or.inl ⟨h20, rfl⟩ | exact Or.inr ⟨_, h20, rfl⟩) (by first | exact Or.inl ⟨Or.inl h31, rfl⟩ | exact Or.inl ⟨Or.inr h36, rfl⟩ | exact Or.inl ⟨Or.inr (by rw [show n1O t u p = some v20 from h20]; exact h36), rfl⟩ | exact Or.inr ⟨_, h31, br_ne h31 h36, rfl⟩ | exact Or.inr ⟨_, h31, (by rw [show n1O t u p = some v20 from h20]; exact br_ne h31 h36), rfl⟩))
    · refine j_iload_n C dX5_bringNewFiles_34 rfl ?_
      refine j_iload_n C dX5_bringNewFiles_35 rfl ?_
      refine j_icmp_eq C 45 dX5_bringNewFiles_36 (fun h36 => ?_) (fun h36 => ?_) (by decide)
      · exact q_vretS C CM rfl (by decide) (by decide) dX5_bringNewFiles_45 (bring_ok ha (nw_lt hu hp) (nw_lt hv hp) (by first | exact Or.inl ⟨h20, rfl⟩ | exact Or.inr ⟨_, h20, rfl⟩) (by first | exact Or.inl ⟨Or.inl h31, rfl⟩ | exact Or.inl ⟨Or.inr h36, rfl⟩ | exact Or.inl ⟨Or.inr (by rw [show n1O t u p = some v20 from h20]; exact h36), rfl⟩ | exact Or.inr ⟨_, h31, br_ne h31 h36, rfl⟩ | exact Or.inr ⟨_, h31, (by rw [show n1O t u p = some v20 from h20]; exact br_ne h31 h36), rfl⟩))
      · rw [h31, show oI (some v31) = nI v31 from rfl]
        refine j_aload_n C dX5_bringNewFiles_39 rfl ?_
        refine j_iload_n C dX5_bringNewFiles_40 rfl ?_
        refine j_iload_n C dX5_bringNewFiles_41 rfl ?_
        refine q_callV C (sp_X5_arrive G _ hp (nI v31)) vX5_arrive lk_X5_87 rfl (by decide) rfl rfl (Nat.le_of_ble_eq_true rfl) (by decide) dX5_bringNewFiles_42 ?_
        exact q_vretS C CM rfl (by decide) (by decide) dX5_bringNewFiles_45 (bring_ok ha (nw_lt hu hp) (nw_lt hv hp) (by first | exact Or.inl ⟨h20, rfl⟩ | exact Or.inr ⟨_, h20, rfl⟩) (by first | exact Or.inl ⟨Or.inl h31, rfl⟩ | exact Or.inl ⟨Or.inr h36, rfl⟩ | exact Or.inl ⟨Or.inr (by rw [show n1O t u p = some v20 from h20]; exact h36), rfl⟩ | exact Or.inr ⟨_, h31, br_ne h31 h36, rfl⟩ | exact Or.inr ⟨_, h31, (by rw [show n1O t u p = some v20 from h20]; exact br_ne h31 h36), rfl⟩))
set_option maxHeartbeats 4000000 in
set_option maxRecDepth 100000 in
theorem sp_X5_follow (G : gG) (M : gMem) {t u v : Nat → Option Nat} (ht : gTn t) (hu : gTn u) (hv : gTn v) (c1 : gCp M 131 t u (moves t u)) (c2 : gCp M 138 t v (moves t v)) {p : Nat} (hp : p < 8) (hs : (t p).isSome = true) (ha : gAr t u v 147 146 M p p p) (hf : M.2.2.1 130 4 = nI (cntN (flC t u v) p)) : SpS G mX5_follow (gRm 3 0) [.ref (gb G + 130), .int (nI p)] M (none) (gFlw t u v p M) := by
  refine Sp.of (by decide +kernel) (Nat.le_of_ble_eq_true rfl) (fun X C CM => ?_)
  have C : gC G X RX5 cX5_follow 6 (gRm 3 0) := C
  refine j_aload_n C dX5_follow_0 rfl ?_
  refine q_get C fX5 0 rfl (by decide) (by decide) lf_X5_12 rfl rfl dX5_follow_1 ?_
  refine j_iload_n C dX5_follow_4 rfl ?_
  refine q_callV C (sp_X0_placeOf G M (k := 131) gCm_1 c1 ht hu hp) vX0_placeOf lk_X5_68 (gCm_k (gCm_1)) (gCm_lt (gCm_1)) rfl rfl (Nat.le_of_ble_eq_true rfl) (by decide) dX5_follow_5 ?_
  refine j_istore_n C dX5_follow_8 (by decide) rfl ?_
  refine j_aload_n C dX5_follow_9 rfl ?_
  refine q_get C fX5 1 rfl (by decide) (by decide) lf_X5_18 rfl rfl dX5_follow_10 ?_
  refine j_iload_n C dX5_follow_13 rfl ?_
  refine q_callV C (sp_X0_placeOf G M (k := 138) gCm_2 c2 ht hv hp) vX0_placeOf lk_X5_68 (gCm_k (gCm_2)) (gCm_lt (gCm_2)) rfl rfl (Nat.le_of_ble_eq_true rfl) (by decide) dX5_follow_14 ?_
  refine j_istore_n C dX5_follow_17 (by decide) rfl ?_
  refine j_iload_n C dX5_follow_18 rfl ?_
  refine j_iconst C (v := -1) dX5_follow_19 rfl ?_
  refine q_icmp_eqN C 28 dX5_follow_20 (by decide) (fun w hw => Nat.lt_trans (pl_lt (mv_all t u) hp hw).1 (by decide)) (fun h20 => ?_) (fun v20 h20 => ?_)
  · refine j_aload_n C dX5_follow_28 rfl ?_
    refine q_get C fX5 0 rfl (by decide) (by decide) lf_X5_12 rfl rfl dX5_follow_29 ?_
    refine j_iload_n C dX5_follow_32 rfl ?_
    refine q_callV C (sp_X0_isNowhereOrUnchanged G M (k := 131) gCm_1 c1 ht hu (mv_all t u) hp) vX0_isNowhereOrUnchanged lk_X5_71 (gCm_k (gCm_1)) (gCm_lt (gCm_1)) rfl rfl (Nat.le_of_ble_eq_true rfl) (by decide) dX5_follow_33 ?_
    refine q_if_eq0 C 50 dX5_follow_36 (by decide) (fun h36 => ?_) (fun h36 => ?_)
    · refine j_aload_n C dX5_follow_50 rfl ?_
      refine j_dup C dX5_follow_51 rfl ?_
      refine q_get C fX5 4 rfl (by decide) (by decide) lf_X5_46 rfl rfl dX5_follow_52 ?_
      rw [hf]
      refine j_iconst C (v := nI 1) dX5_follow_55 rfl ?_
      refine q_iadd C dX5_follow_56 ?_
      refine q_putI C fX5 4 rfl (by decide) (by decide) lf_X5_46 rfl rfl rfl (Nat.le_of_ble_eq_true rfl) rfl dX5_follow_57 ?_
      exact q_vretS C CM rfl (by decide) (by decide) dX5_follow_60 (by first | exact flw_c ha ⟨(fl_gone hs (by first | exact Or.inl h20 | exact Or.inr h25)).1.trans (nu_no h36), (fl_gone hs (by first | exact Or.inl h20 | exact Or.inr h25)).2⟩ | exact flw_c ha ⟨(fl_gone hs (by first | exact Or.inl h20 | exact Or.inr h25)).1.trans (nu_n2 h47), (fl_gone hs (by first | exact Or.inl h20 | exact Or.inr h25)).2⟩ | exact flw_0 ha hf ⟨(fl_gone hs (by first | exact Or.inl h20 | exact Or.inr h25)).1.trans (nu_ok h36 h47), (fl_gone hs (by first | exact Or.inl h20 | exact Or.inr h25)).2⟩)
    · refine j_aload_n C dX5_follow_39 rfl ?_
      refine q_get C fX5 1 rfl (by decide) (by decide) lf_X5_18 rfl rfl dX5_follow_40 ?_
      refine j_iload_n C dX5_follow_43 rfl ?_
      refine q_callV C (sp_X0_isNowhereOrUnchanged G M (k := 138) gCm_2 c2 ht hv (mv_all t v) hp) vX0_isNowhereOrUnchanged lk_X5_71 (gCm_k (gCm_2)) (gCm_lt (gCm_2)) rfl rfl (Nat.le_of_ble_eq_true rfl) (by decide) dX5_follow_44 ?_
      refine q_if_ne0 C 60 dX5_follow_47 (by decide) (fun h47 => ?_) (fun h47 => ?_)
      · exact q_vretS C CM rfl (by decide) (by decide) dX5_follow_60 (by first | exact flw_c ha ⟨(fl_gone hs (by first | exact Or.inl h20 | exact Or.inr h25)).1.trans (nu_no h36), (fl_gone hs (by first | exact Or.inl h20 | exact Or.inr h25)).2⟩ | exact flw_c ha ⟨(fl_gone hs (by first | exact Or.inl h20 | exact Or.inr h25)).1.trans (nu_n2 h47), (fl_gone hs (by first | exact Or.inl h20 | exact Or.inr h25)).2⟩ | exact flw_0 ha hf ⟨(fl_gone hs (by first | exact Or.inl h20 | exact Or.inr h25)).1.trans (nu_ok h36 h47), (fl_gone hs (by first | exact Or.inl h20 | exact Or.inr h25)).2⟩)
      · refine j_aload_n C dX5_follow_50 rfl ?_
        refine j_dup C dX5_follow_51 rfl ?_
        refine q_get C fX5 4 rfl (by decide) (by decide) lf_X5_46 rfl rfl dX5_follow_52 ?_
        rw [hf]
        refine j_iconst C (v := nI 1) dX5_follow_55 rfl ?_
        refine q_iadd C dX5_follow_56 ?_
        refine q_putI C fX5 4 rfl (by decide) (by decide) lf_X5_46 rfl rfl rfl (Nat.le_of_ble_eq_true rfl) rfl dX5_follow_57 ?_
        exact q_vretS C CM rfl (by decide) (by decide) dX5_follow_60 (by first | exact flw_c ha ⟨(fl_gone hs (by first | exact Or.inl h20 | exact Or.inr h25)).1.trans (nu_no h36), (fl_gone hs (by first | exact Or.inl h20 | exact Or.inr h25)).2⟩ | exact flw_c ha ⟨(fl_gone hs (by first | exact Or.inl h20 | exact Or.inr h25)).1.trans (nu_n2 h47), (fl_gone hs (by first | exact Or.inl h20 | exact Or.inr h25)).2⟩ | exact flw_0 ha hf ⟨(fl_gone hs (by first | exact Or.inl h20 | exact Or.inr h25)).1.trans (nu_ok h36 h47), (fl_gone hs (by first | exact Or.inl h20 | exact Or.inr h25)).2⟩)
  · refine j_iload_n C dX5_follow_23 rfl ?_
    refine j_iconst C (v := -1) dX5_follow_24 rfl ?_
    refine q_icmp_neN C 61 dX5_follow_25 (by decide) (fun w hw => Nat.lt_trans (pl_lt (mv_all t v) hp hw).1 (by decide)) (fun v25 h25 => ?_) (fun h25 => ?_)
    · rw [h20, h25, show oI (some v20) = nI v20 from rfl, show oI (some v25) = nI v25 from rfl]
      have ha1 := mv_some h20 hp
      have ha2 := mv_some h25 hp
      have hb1 := ha1.1
      have hb2 := ha2.1
      refine j_iload_n C dX5_follow_61 rfl ?_
      refine j_iload_n C dX5_follow_62 rfl ?_
      refine j_iload_n C dX5_follow_63 rfl ?_
      refine q_callS C (sp_X2_changed G M (b := p) (o := v20) (t := v25) (by omega) (by omega) (by omega)) vX2_changed lk_X5_75 rfl rfl (Nat.le_of_ble_eq_true rfl) (by decide) dX5_follow_64 ?_
      refine j_istore C dX5_follow_67 (by decide) rfl ?_
      refine j_aload_n C dX5_follow_69 rfl ?_
      refine q_get C fX5 0 rfl (by decide) (by decide) lf_X5_12 rfl rfl dX5_follow_70 ?_
      refine j_iload_n C dX5_follow_73 rfl ?_
      refine q_callV C (sp_X0_contentBefore G M (k := 131) gCm_1 hp) vX0_contentBefore lk_X5_54 (gCm_k (gCm_1)) (gCm_lt (gCm_1)) rfl rfl (Nat.le_of_ble_eq_true rfl) (by decide) dX5_follow_74 ?_
      rw [(c1 p hp).1, oI_gv hs]
      refine j_aload_n C dX5_follow_77 rfl ?_
      refine q_get C fX5 0 rfl (by decide) (by decide) lf_X5_12 rfl rfl dX5_follow_78 ?_
      refine j_iload_n C dX5_follow_81 rfl ?_
      refine q_callV C (sp_X0_contentAfter G M (k := 131) gCm_1 ha1.1) vX0_contentAfter lk_X5_81 (gCm_k (gCm_1)) (gCm_lt (gCm_1)) rfl rfl (Nat.le_of_ble_eq_true rfl) (by decide) dX5_follow_82 ?_
      rw [(c1 v20 ha1.1).2.1, oI_gv ha1.2]
      refine j_aload_n C dX5_follow_85 rfl ?_
      refine q_get C fX5 1 rfl (by decide) (by decide) lf_X5_18 rfl rfl dX5_follow_86 ?_
      refine j_iload_n C dX5_follow_89 rfl ?_
      refine q_callV C (sp_X0_contentAfter G M (k := 138) gCm_2 ha2.1) vX0_contentAfter lk_X5_81 (gCm_k (gCm_2)) (gCm_lt (gCm_2)) rfl rfl (Nat.le_of_ble_eq_true rfl) (by decide) dX5_follow_90 ?_
      rw [(c2 v25 ha2.1).2.1, oI_gv ha2.2]
      refine q_callS C (sp_X2_mergeContents G M (gv_lt ht hp) (gv_lt hu ha1.1) (gv_lt hv ha2.1)) vX2_mergeContents lk_X5_84 rfl rfl (Nat.le_of_ble_eq_true rfl) (by decide) dX5_follow_93 ?_
      refine j_istore C dX5_follow_96 (by decide) rfl ?_
      refine j_iload C dX5_follow_98 rfl ?_
      refine j_iconst C (v := -1) dX5_follow_100 rfl ?_
      refine q_icmp_eqN C 110 dX5_follow_101 (by decide) (fun w hw => Nat.lt_trans (chg_lt hw ha1.1 ha2.1) (by decide)) (fun h101 => ?_) (fun v101 h101 => ?_)
      · refine j_aload_n C dX5_follow_110 rfl ?_
        refine j_dup C dX5_follow_111 rfl ?_
        refine q_get C fX5 4 rfl (by decide) (by decide) lf_X5_46 rfl rfl dX5_follow_112 ?_
        rw [hf]
        refine j_iconst C (v := nI 1) dX5_follow_115 rfl ?_
        refine q_iadd C dX5_follow_116 ?_
        refine q_putI C fX5 4 rfl (by decide) (by decide) lf_X5_46 rfl rfl rfl (Nat.le_of_ble_eq_true rfl) rfl dX5_follow_117 ?_
        refine j_goto C 131 dX5_follow_120 ?_ (by decide)
        exact q_vretS C CM rfl (by decide) (by decide) dX5_follow_131 (by first | exact flw_c ha (fl_bad hs h20 h25 (Or.inl h101)) | exact flw_c ha (fl_bad hs h20 h25 (Or.inr h107)) | exact flw_a ha hf hx (fl_some hs h20 h25 h101 h107))
      · refine j_iload C dX5_follow_104 rfl ?_
        refine j_iconst C (v := -1) dX5_follow_106 rfl ?_
        refine q_icmp_neN C 123 dX5_follow_107 (by decide) (fun w hw => Nat.lt_trans (mrg_lt hw) (by decide)) (fun v107 h107 => ?_) (fun h107 => ?_)
        · rw [h101, h107, show oI (some v101) = nI v101 from rfl, show oI (some v107) = nI v107 from rfl]
          have hx : v101 < 8 := chg_lt h101 ha1.1 ha2.1
          refine j_aload_n C dX5_follow_123 rfl ?_
          refine j_iload C dX5_follow_124 rfl ?_
          refine j_iload C dX5_follow_126 rfl ?_
          refine q_callV C (sp_X5_arrive G M (p := v101) hx (nI v107)) vX5_arrive lk_X5_87 rfl (by decide) rfl rfl (Nat.le_of_ble_eq_true rfl) (by decide) dX5_follow_128 ?_
          exact q_vretS C CM rfl (by decide) (by decide) dX5_follow_131 (by first | exact flw_c ha (fl_bad hs h20 h25 (Or.inl h101)) | exact flw_c ha (fl_bad hs h20 h25 (Or.inr h107)) | exact flw_a ha hf hx (fl_some hs h20 h25 h101 h107))
        · refine j_aload_n C dX5_follow_110 rfl ?_
          refine j_dup C dX5_follow_111 rfl ?_
          refine q_get C fX5 4 rfl (by decide) (by decide) lf_X5_46 rfl rfl dX5_follow_112 ?_
          rw [hf]
          refine j_iconst C (v := nI 1) dX5_follow_115 rfl ?_
          refine q_iadd C dX5_follow_116 ?_
          refine q_putI C fX5 4 rfl (by decide) (by decide) lf_X5_46 rfl rfl rfl (Nat.le_of_ble_eq_true rfl) rfl dX5_follow_117 ?_
          refine j_goto C 131 dX5_follow_120 ?_ (by decide)
          exact q_vretS C CM rfl (by decide) (by decide) dX5_follow_131 (by first | exact flw_c ha (fl_bad hs h20 h25 (Or.inl h101)) | exact flw_c ha (fl_bad hs h20 h25 (Or.inr h107)) | exact flw_a ha hf hx (fl_some hs h20 h25 h101 h107))
    · refine j_aload_n C dX5_follow_28 rfl ?_
      refine q_get C fX5 0 rfl (by decide) (by decide) lf_X5_12 rfl rfl dX5_follow_29 ?_
      refine j_iload_n C dX5_follow_32 rfl ?_
      refine q_callV C (sp_X0_isNowhereOrUnchanged G M (k := 131) gCm_1 c1 ht hu (mv_all t u) hp) vX0_isNowhereOrUnchanged lk_X5_71 (gCm_k (gCm_1)) (gCm_lt (gCm_1)) rfl rfl (Nat.le_of_ble_eq_true rfl) (by decide) dX5_follow_33 ?_
      refine q_if_eq0 C 50 dX5_follow_36 (by decide) (fun h36 => ?_) (fun h36 => ?_)
      · refine j_aload_n C dX5_follow_50 rfl ?_
        refine j_dup C dX5_follow_51 rfl ?_
        refine q_get C fX5 4 rfl (by decide) (by decide) lf_X5_46 rfl rfl dX5_follow_52 ?_
        rw [hf]
        refine j_iconst C (v := nI 1) dX5_follow_55 rfl ?_
        refine q_iadd C dX5_follow_56 ?_
        refine q_putI C fX5 4 rfl (by decide) (by decide) lf_X5_46 rfl rfl rfl (Nat.le_of_ble_eq_true rfl) rfl dX5_follow_57 ?_
        exact q_vretS C CM rfl (by decide) (by decide) dX5_follow_60 (by first | exact flw_c ha ⟨(fl_gone hs (by first | exact Or.inl h20 | exact Or.inr h25)).1.trans (nu_no h36), (fl_gone hs (by first | exact Or.inl h20 | exact Or.inr h25)).2⟩ | exact flw_c ha ⟨(fl_gone hs (by first | exact Or.inl h20 | exact Or.inr h25)).1.trans (nu_n2 h47), (fl_gone hs (by first | exact Or.inl h20 | exact Or.inr h25)).2⟩ | exact flw_0 ha hf ⟨(fl_gone hs (by first | exact Or.inl h20 | exact Or.inr h25)).1.trans (nu_ok h36 h47), (fl_gone hs (by first | exact Or.inl h20 | exact Or.inr h25)).2⟩)
      · refine j_aload_n C dX5_follow_39 rfl ?_
        refine q_get C fX5 1 rfl (by decide) (by decide) lf_X5_18 rfl rfl dX5_follow_40 ?_
        refine j_iload_n C dX5_follow_43 rfl ?_
        refine q_callV C (sp_X0_isNowhereOrUnchanged G M (k := 138) gCm_2 c2 ht hv (mv_all t v) hp) vX0_isNowhereOrUnchanged lk_X5_71 (gCm_k (gCm_2)) (gCm_lt (gCm_2)) rfl rfl (Nat.le_of_ble_eq_true rfl) (by decide) dX5_follow_44 ?_
        refine q_if_ne0 C 60 dX5_follow_47 (by decide) (fun h47 => ?_) (fun h47 => ?_)
        · exact q_vretS C CM rfl (by decide) (by decide) dX5_follow_60 (by first | exact flw_c ha ⟨(fl_gone hs (by first | exact Or.inl h20 | exact Or.inr h25)).1.trans (nu_no h36), (fl_gone hs (by first | exact Or.inl h20 | exact Or.inr h25)).2⟩ | exact flw_c ha ⟨(fl_gone hs (by first | exact Or.inl h20 | exact Or.inr h25)).1.trans (nu_n2 h47), (fl_gone hs (by first | exact Or.inl h20 | exact Or.inr h25)).2⟩ | exact flw_0 ha hf ⟨(fl_gone hs (by first | exact Or.inl h20 | exact Or.inr h25)).1.trans (nu_ok h36 h47), (fl_gone hs (by first | exact Or.inl h20 | exact Or.inr h25)).2⟩)
        · refine j_aload_n C dX5_follow_50 rfl ?_
          refine j_dup C dX5_follow_51 rfl ?_
          refine q_get C fX5 4 rfl (by decide) (by decide) lf_X5_46 rfl rfl dX5_follow_52 ?_
          rw [hf]
          refine j_iconst C (v := nI 1) dX5_follow_55 rfl ?_
          refine q_iadd C dX5_follow_56 ?_
          refine q_putI C fX5 4 rfl (by decide) (by decide) lf_X5_46 rfl rfl rfl (Nat.le_of_ble_eq_true rfl) rfl dX5_follow_57 ?_
          exact q_vretS C CM rfl (by decide) (by decide) dX5_follow_60 (by first | exact flw_c ha ⟨(fl_gone hs (by first | exact Or.inl h20 | exact Or.inr h25)).1.trans (nu_no h36), (fl_gone hs (by first | exact Or.inl h20 | exact Or.inr h25)).2⟩ | exact flw_c ha ⟨(fl_gone hs (by first | exact Or.inl h20 | exact Or.inr h25)).1.trans (nu_n2 h47), (fl_gone hs (by first | exact Or.inl h20 | exact Or.inr h25)).2⟩ | exact flw_0 ha hf ⟨(fl_gone hs (by first | exact Or.inl h20 | exact Or.inr h25)).1.trans (nu_ok h36 h47), (fl_gone hs (by first | exact Or.inl h20 | exact Or.inr h25)).2⟩)
set_option maxHeartbeats 4000000 in
set_option maxRecDepth 100000 in
theorem sp_X5_moveBetween (G : gG) (M : gMem) {t u : Nat → Option Nat} (ht : gTn t) (hu : gTn u) {a b p : Nat} (hrt : gRo M (a + 1) t) (hru : gRo M (b + 1) u) (hta : gTr a) (htb : gTr b) (ha : a < 130) (hb : b < 130) (hp : p < 8) : SpS G mX5_moveBetween (gRm 4 0) [.ref (gb G + 130), .ref (gb G + a), .ref (gb G + b), .int (nI p)] M (some (.int (oI (moves t u p)))) (gSd 131 147 M) := by
  refine Sp.of (by decide +kernel) (Nat.le_of_ble_eq_true rfl) (fun X C CM => ?_)
  have C : gC G X RX5 cX5_moveBetween 4 (gRm 4 0) := C
  refine j_aload_n C dX5_moveBetween_0 rfl ?_
  refine q_get C fX5 0 rfl (by decide) (by decide) lf_X5_12 rfl rfl dX5_moveBetween_1 ?_
  refine j_aload_n C dX5_moveBetween_4 rfl ?_
  refine j_aload_n C dX5_moveBetween_5 rfl ?_
  refine q_callVS C (sp_X0_run G M (k := 131) gCm_1 ht hu hrt hru hta htb ha hb) vX0_run lk_X5_32 (gCm_k (gCm_1)) (gCm_lt (gCm_1)) rfl rfl (Nat.le_of_ble_eq_true rfl) (by decide) dX5_moveBetween_6 (fun M2 hM2 => ?_)
  refine j_aload_n C dX5_moveBetween_9 rfl ?_
  refine q_get C fX5 0 rfl (by decide) (by decide) lf_X5_12 rfl rfl dX5_moveBetween_10 ?_
  refine j_iload_n C dX5_moveBetween_13 rfl ?_
  refine q_callV C (sp_X0_target G M2 (k := 131) gCm_1 hp) vX0_target lk_X5_36 (gCm_k (gCm_1)) (gCm_lt (gCm_1)) rfl rfl (Nat.le_of_ble_eq_true rfl) (by decide) dX5_moveBetween_14 ?_
  exact q_iretS C CM rfl (by decide) (by decide) dX5_moveBetween_17 (hM2.2 p hp).2.2.1 (sd_sc hM2.1 (by decide) (by decide))
set_option maxHeartbeats 4000000 in
set_option maxRecDepth 100000 in
theorem sp_X5_run (G : gG) (M : gMem) {n : Nat} (hn : M.2.2.1 1 7 = nI n) (h60 : n ≤ 60) {t u v : Nat → Option Nat} (ht : gTn t) (hu : gTn u) (hv : gTn v) {x y z : Nat} (hx : x < n) (hy : y < n) (hz : z < n) (hrt : gRo M (10 + 2 * x + 1) t) (hru : gRo M (10 + 2 * y + 1) u) (hrv : gRo M (10 + 2 * z + 1) v) : SpS G mX5_run (gRm 4 0) [.ref (gb G + 130), .ref (gb G + 1), .int (nI x), .int (nI y), .int (nI z)] M (some (.int (nI (mgN t u v)))) (fun M2 => gSd 131 147 M M2 ∧ (mgN t u v = 0 → gRo M2 146 (mgR t u v))) := by
  refine Sp.of (by decide +kernel) (Nat.le_of_ble_eq_true rfl) (fun X C CM => ?_)
  have C : gC G X RX5 cX5_run 6 (gRm 4 0) := C
  refine j_aload_n C dX5_run_0 rfl ?_
  refine q_get C fX5 0 rfl (by decide) (by decide) lf_X5_12 rfl rfl dX5_run_1 ?_
  refine j_aload_n C dX5_run_4 rfl ?_
  refine j_iload_n C dX5_run_5 rfl ?_
  refine q_callV C (sp_X1_treeOf G M hn h60 hx) vX1_treeOf lk_X5_40 rfl (by decide) rfl rfl (Nat.le_of_ble_eq_true rfl) (by decide) dX5_run_6 ?_
  refine j_aload_n C dX5_run_9 rfl ?_
  refine j_iload_n C dX5_run_10 rfl ?_
  refine q_callV C (sp_X1_treeOf G M hn h60 hy) vX1_treeOf lk_X5_40 rfl (by decide) rfl rfl (Nat.le_of_ble_eq_true rfl) (by decide) dX5_run_11 ?_
  refine q_callVS C (sp_X0_run G M (k := 131) gCm_1 ht hu hrt hru (gTr_c (show x < 60 by omega)) (gTr_c (show y < 60 by omega)) (by omega) (by omega)) vX0_run lk_X5_32 (gCm_k (gCm_1)) (gCm_lt (gCm_1)) rfl rfl (Nat.le_of_ble_eq_true rfl) (by decide) dX5_run_14 (fun M1 hM1 => ?_)
  have hn1 : M1.2.2.1 1 7 = nI n := by rw [hM1.1.1]; exact hn
  refine j_aload_n C dX5_run_17 rfl ?_
  refine q_get C fX5 1 rfl (by decide) (by decide) lf_X5_18 rfl rfl dX5_run_18 ?_
  refine j_aload_n C dX5_run_21 rfl ?_
  refine j_iload_n C dX5_run_22 rfl ?_
  refine q_callV C (sp_X1_treeOf G M1 hn1 h60 hx) vX1_treeOf lk_X5_40 rfl (by decide) rfl rfl (Nat.le_of_ble_eq_true rfl) (by decide) dX5_run_23 ?_
  refine j_aload_n C dX5_run_26 rfl ?_
  refine j_iload C dX5_run_27 rfl ?_
  refine q_callV C (sp_X1_treeOf G M1 hn1 h60 hz) vX1_treeOf lk_X5_40 rfl (by decide) rfl rfl (Nat.le_of_ble_eq_true rfl) (by decide) dX5_run_29 ?_
  refine q_callVS C (sp_X0_run G M1 (k := 138) gCm_2 ht hv (ro_sc hrt hM1.1 (by omega)) (ro_sc hrv hM1.1 (by omega)) (gTr_c (show x < 60 by omega)) (gTr_c (show z < 60 by omega)) (by omega) (by omega)) vX0_run lk_X5_32 (gCm_k (gCm_2)) (gCm_lt (gCm_2)) rfl rfl (Nat.le_of_ble_eq_true rfl) (by decide) dX5_run_32 (fun M2 hM2 => ?_)
  refine j_aload_n C dX5_run_35 rfl ?_
  refine j_iconst C (v := nI 0) dX5_run_36 rfl ?_
  refine q_putI C fX5 4 rfl (by decide) (by decide) lf_X5_46 rfl rfl rfl (Nat.le_of_ble_eq_true rfl) rfl dX5_run_37 ?_
  refine j_iconst C (v := nI 0) dX5_run_40 rfl ?_
  refine j_istore C dX5_run_41 (by decide) rfl ?_
  have K43 : ∀ i, i ≤ 8 → ∀ M3, gSd 131 147 M M3 → gCp M3 131 t u (moves t u) → gCp M3 138 t v (moves t v) → (∀ p, p < i → M3.1 147 p = 0 ∧ M3.1 146 p = -1) → M3.2.2.1 130 4 = nI 0 → Q G X 0 0 43 [some (.ref (gb G + 130)), none, none, none, none, some (.int (nI i))] [] (M3) := by
    refine g_up _ _ (fun i hi ih => ?_)
    intro M3 s3 c31 c32 a3 f3
    refine j_iload C dX5_run_43 rfl ?_
    refine j_aload_n C dX5_run_45 rfl ?_
    refine q_get C fX5 3 rfl (by decide) (by decide) lf_X5_28 rfl rfl dX5_run_46 ?_
    refine q_alen C rfl (by decide) dX5_run_49 ?_
    refine q_icmp_ge C 77 dX5_run_50 (by decide) (by omega) (by omega) (fun h50 => ?_) (fun h50 => ?_)
    · refine j_iconst C (v := nI 0) dX5_run_77 rfl ?_
      refine j_istore C dX5_run_78 (by decide) rfl ?_
      have K80 : ∀ i, i ≤ 8 → ∀ M4, gSd 131 147 M M4 → gCp M4 131 t u (moves t u) → gCp M4 138 t v (moves t v) → gAr t u v 147 146 M4 i i i → M4.2.2.1 130 4 = nI (cntN (flC t u v) i) → Q G X 0 0 80 [some (.ref (gb G + 130)), none, none, none, none, some (.int (nI i))] [] (M4) := by
        refine g_up _ _ (fun i hi ih => ?_)
        intro M4 s4 c41 c42 a4 f4
        refine j_iload C dX5_run_80 rfl ?_
        refine j_bipush C (v := nI 8) dX5_run_82 rfl ?_
        refine q_icmp_ge C 118 dX5_run_84 (by decide) (by omega) (by omega) (fun h84 => ?_) (fun h84 => ?_)
        · refine j_aload_n C dX5_run_118 rfl ?_
          refine q_get C fX5 4 rfl (by decide) (by decide) lf_X5_46 rfl rfl dX5_run_119 ?_
          rw [f4]
          refine j_aload_n C dX5_run_122 rfl ?_
          refine q_callV C (sp_X5_countCrowdedPaths G M4 (ar := arN t u v i i i) (fun q hq => ⟨(a4 q hq).1, by have := arN_le t u v (i := i) (j := i) (k := i) (q := q) hi; omega⟩)) vX5_countCrowdedPaths lk_X5_64 rfl (by decide) rfl rfl (Nat.le_of_ble_eq_true rfl) (by decide) dX5_run_123 ?_
          refine q_iadd C dX5_run_126 ?_
          exact q_iretS C CM rfl (by decide) (by decide) dX5_run_127 (by rw [show i = 8 by omega]; rfl) ⟨s4, fun h0 => ar_res (by rw [show i = 8 by omega] at a4; exact a4) h0⟩
        · refine j_aload_n C dX5_run_87 rfl ?_
          refine q_get C fX5 0 rfl (by decide) (by decide) lf_X5_12 rfl rfl dX5_run_88 ?_
          refine j_iload C dX5_run_91 rfl ?_
          refine q_callV C (sp_X0_contentBefore G M4 (k := 131) gCm_1 h84) vX0_contentBefore lk_X5_54 (gCm_k (gCm_1)) (gCm_lt (gCm_1)) rfl rfl (Nat.le_of_ble_eq_true rfl) (by decide) dX5_run_93 ?_
          rw [(c41 i h84).1]
          refine j_iconst C (v := -1) dX5_run_96 rfl ?_
          refine q_icmp_eqN C 106 dX5_run_97 (by decide) (nI_lt8 ht h84) (fun h97 => ?_) (fun v97 h97 => ?_)
          · refine j_aload_n C dX5_run_106 rfl ?_
            refine j_iload C dX5_run_107 rfl ?_
            refine q_callVS C (sp_X5_bringNewFiles G _ ht hu hv (by first | exact cp_sd c41 hM5.1 (by decide) | exact c41) (by first | exact cp_sd c42 hM5.1 (by decide) | exact c42) h84 (by first | exact hM5.2.1 | exact ar_E0 a4 (fl_no h97).2)) vX5_bringNewFiles lk_X5_61 rfl (by decide) rfl rfl (Nat.le_of_ble_eq_true rfl) (by decide) dX5_run_109 (fun M6 hM6 => ?_)
            refine q_iinc C dX5_run_112 rfl (by decide) rfl ?_
            refine j_goto C 80 dX5_run_115 ?_ (by decide)
            exact q_cast (ih (by omega) _ (sd_trans (by first | exact sd_trans s4 (sd_mono hM5.1 (by decide) (by decide)) | exact s4) (sd_mono hM6.1 (by decide) (by decide))) (cp_sd (by first | exact cp_sd c41 hM5.1 (by decide) | exact c41) hM6.1 (by decide)) (cp_sd (by first | exact cp_sd c42 hM5.1 (by decide) | exact c42) hM6.1 (by decide)) hM6.2.1 (by first | (rw [hM6.2.2, hM5.2.2]) | (rw [hM6.2.2, f4, cnt_f (fl_no h97).1]))) (gLe_c rfl (gLe_n (gLe_n (gLe_n (gLe_n (gLe_c rfl gLe_0)))))) (rfl)
          · refine j_aload_n C dX5_run_100 rfl ?_
            refine j_iload C dX5_run_101 rfl ?_
            refine q_callVS C (sp_X5_follow G M4 ht hu hv c41 c42 h84 (by rw [h97]; rfl) a4 f4) vX5_follow lk_X5_57 rfl (by decide) rfl rfl (Nat.le_of_ble_eq_true rfl) (by decide) dX5_run_103 (fun M5 hM5 => ?_)
            refine j_aload_n C dX5_run_106 rfl ?_
            refine j_iload C dX5_run_107 rfl ?_
            refine q_callVS C (sp_X5_bringNewFiles G _ ht hu hv (by first | exact cp_sd c41 hM5.1 (by decide) | exact c41) (by first | exact cp_sd c42 hM5.1 (by decide) | exact c42) h84 (by first | exact hM5.2.1 | exact ar_E0 a4 (fl_no h97).2)) vX5_bringNewFiles lk_X5_61 rfl (by decide) rfl rfl (Nat.le_of_ble_eq_true rfl) (by decide) dX5_run_109 (fun M6 hM6 => ?_)
            refine q_iinc C dX5_run_112 rfl (by decide) rfl ?_
            refine j_goto C 80 dX5_run_115 ?_ (by decide)
            exact q_cast (ih (by omega) _ (sd_trans (by first | exact sd_trans s4 (sd_mono hM5.1 (by decide) (by decide)) | exact s4) (sd_mono hM6.1 (by decide) (by decide))) (cp_sd (by first | exact cp_sd c41 hM5.1 (by decide) | exact c41) hM6.1 (by decide)) (cp_sd (by first | exact cp_sd c42 hM5.1 (by decide) | exact c42) hM6.1 (by decide)) hM6.2.1 (by first | (rw [hM6.2.2, hM5.2.2]) | (rw [hM6.2.2, f4, cnt_f (fl_no h97).1]))) (gLe_c rfl (gLe_n (gLe_n (gLe_n (gLe_n (gLe_c rfl gLe_0)))))) (rfl)
      exact q_cast (K80 0 (by omega) _ s3 c31 c32 (ar_0 (by rw [show i = 8 by omega] at a3; exact a3)) f3) (gLe_c rfl (gLe_n (gLe_n (gLe_n (gLe_n (gLe_c rfl gLe_0)))))) (rfl)
    · refine j_aload_n C dX5_run_53 rfl ?_
      refine q_get C fX5 3 rfl (by decide) (by decide) lf_X5_28 rfl rfl dX5_run_54 ?_
      refine j_iload C dX5_run_57 rfl ?_
      refine j_iconst C (v := nI 0) dX5_run_59 rfl ?_
      refine q_iast C rfl (by decide) (by decide) (by omega) dX5_run_60 ?_
      refine j_aload_n C dX5_run_61 rfl ?_
      refine q_get C fX5 2 rfl (by decide) (by decide) lf_X5_24 rfl rfl dX5_run_62 ?_
      refine j_iload C dX5_run_65 rfl ?_
      refine j_iconst C (v := -1) dX5_run_67 rfl ?_
      refine q_callV C (sp_X4_put G _ (t := 145) gTr_145 h50) vX4_put lk_X5_50 (gTr_145).1 (gTr_lt (gTr_145)) rfl rfl (Nat.le_of_ble_eq_true rfl) (by decide) dX5_run_68 ?_
      refine q_iinc C dX5_run_71 rfl (by decide) rfl ?_
      refine j_goto C 43 dX5_run_74 ?_ (by decide)
      exact q_cast (ih (by omega) _ (sd_trans s3 (sd_trans (sd_sI _ _ (by decide) (by decide)) (sd_sI _ _ (by decide) (by decide)))) (cp_sd (cp_sd c31 (sd_sI (lo := 147) (hi := 147) _ _ (by decide) (by decide)) (by decide)) (sd_sI (lo := 146) (hi := 146) _ _ (by decide) (by decide)) (by decide)) (cp_sd (cp_sd c32 (sd_sI (lo := 147) (hi := 147) _ _ (by decide) (by decide)) (by decide)) (sd_sI (lo := 146) (hi := 146) _ _ (by decide) (by decide)) (by decide)) (mrg_ini a3) f3) (gLe_c rfl (gLe_n (gLe_n (gLe_n (gLe_n (gLe_c rfl gLe_0)))))) (rfl)
  exact q_cast (K43 0 (by omega) _ (sd_trans (sd_sc hM1.1 (by decide) (by decide)) (sd_trans (sd_sc hM2.1 (by decide) (by decide)) (sd_sF _ _))) (cp_sF (cp_sc hM1.2 hM2.1 (by decide))) (cp_sF hM2.2) (fun p hp => absurd hp (by omega)) (sF_at _ _ _ _)) (gLe_c rfl (gLe_n (gLe_n (gLe_n (gLe_n (gLe_c rfl gLe_0)))))) (rfl)
