/-! merging: both sides alike -/
theorem chg_sym (b o t : Nat) : chgN b o t = chgN b t o := by
  unfold chgN
  by_cases h1 : o = b
  · by_cases h2 : t = b
    · subst h1; subst h2; rfl
    · rw [if_pos h1, if_neg h2, if_pos h1]
  · by_cases h2 : t = b
    · rw [if_neg h1, if_pos h2, if_pos h2]
    · rw [if_neg h1, if_neg h2, if_neg h2, if_neg h1]
      by_cases h3 : t = o
      · subst h3; rfl
      · rw [if_neg h3, if_neg (fun e => h3 e.symm)]
theorem mrg_sym (a b c : Nat) : ∀ k, mrgN a b c k = mrgN a c b k := by
  intro k
  induction k with
  | zero => rfl
  | succ k ih =>
    show (match mrgN a b c k, chgN (dg a k) (dg b k) (dg c k) with
      | some m, some d => some (m + d * 10 ^ k)
      | _, _ => none) = (match mrgN a c b k, chgN (dg a k) (dg c k) (dg b k) with
      | some m, some d => some (m + d * 10 ^ k)
      | _, _ => none)
    rw [ih, chg_sym (dg a k) (dg b k) (dg c k)]
theorem flC_sym (t u v : Nat → Option Nat) (p : Nat) : flC t u v p = flC t v u p := by
  unfold flC
  cases moO t u p with
  | none =>
    cases moO t v p with
    | none => exact congrArg (fun z => (t p).isSome && !z) (Bool.and_comm _ _)
    | some b => exact congrArg (fun z => (t p).isSome && !z) (Bool.and_comm _ _)
  | some a =>
    cases moO t v p with
    | none => exact congrArg (fun z => (t p).isSome && !z) (Bool.and_comm _ _)
    | some b =>
      show (_ && (match chgN p a b, mrgN (gv t p) (gv u a) (gv v b) 4 with
        | some _, some _ => false
        | _, _ => true)) = (_ && (match chgN p b a, mrgN (gv t p) (gv v b) (gv u a) 4 with
        | some _, some _ => false
        | _, _ => true))
      rw [chg_sym p a b, mrg_sym (gv t p) (gv u a) (gv v b)]
theorem flA_sym (t u v : Nat → Option Nat) (p : Nat) : flA t u v p = flA t v u p := by
  unfold flA
  cases moO t u p with
  | none => cases moO t v p <;> rfl
  | some a =>
    cases moO t v p with
    | none => rfl
    | some b =>
      show (if _ then (match chgN p a b, mrgN (gv t p) (gv u a) (gv v b) 4 with
        | some x, some c => some (x, c)
        | _, _ => none) else none) = (if _ then (match chgN p b a, mrgN (gv t p) (gv v b) (gv u a) 4 with
        | some x, some c => some (x, c)
        | _, _ => none) else none)
      rw [chg_sym p a b, mrg_sym (gv t p) (gv u a) (gv v b)]
theorem n2_sym (a b : Option Nat) (q j : Nat) : ((if q < j ∧ a.isSome = true then 1 else 0) + (if q < j ∧ (if b = a then none else b).isSome = true then 1 else 0) : Nat) = (if q < j ∧ b.isSome = true then 1 else 0) + (if q < j ∧ (if a = b then none else a).isSome = true then 1 else 0) := by
  by_cases hq : q < j
  · cases a with
    | none =>
      cases b with
      | none => rfl
      | some y => simp [hq]
    | some x =>
      cases b with
      | none => simp [hq]
      | some y =>
        by_cases e : y = x
        · subst e; rfl
        · simp [hq, e, show ¬ x = y from fun h => e h.symm]
  · simp [hq]
theorem ar_sym (t u v : Nat → Option Nat) (q : Nat) : arN t u v 8 8 8 q = arN t v u 8 8 8 q := by
  unfold arN
  rw [cnt_congr (P := fun p => atB (flA t u v p) q) (R := fun p => atB (flA t v u p) q) (fun i _ => by rw [flA_sym])]
  exact congrArg _ (n2_sym (n1O t u q) (n1O t v q) q 8)
theorem mg_sym (t u v : Nat → Option Nat) : mgN t u v = mgN t v u := by
  unfold mgN
  rw [cnt_congr (P := flC t u v) (R := flC t v u) (fun i _ => flC_sym t u v i), cnt_congr (P := fun q => decide (1 < arN t u v 8 8 8 q)) (R := fun q => decide (1 < arN t v u 8 8 8 q)) (fun i _ => by rw [ar_sym])]
/-! merging over one of the two -/
theorem chg_base (x y : Nat) : chgN x y x = some y := by
  unfold chgN
  by_cases h : y = x
  · rw [if_pos h, h]
  · rw [if_neg h, if_pos rfl]
theorem mrg_base (a b : Nat) : ∀ k, ∃ m, mrgN a b a k = some m := by
  intro k
  induction k with
  | zero => exact ⟨0, rfl⟩
  | succ k ih =>
    obtain ⟨m, hm⟩ := ih
    exact ⟨_, mrg_s hm (chg_base (dg a k) (dg b k))⟩
theorem mv_self (t : Nat → Option Nat) {p : Nat} (hp : p < 8) : moves t t p = none := by
  cases e : moves t t p with
  | none => rfl
  | some q =>
    have h := mv_all t t p q hp e
    have h1 := h.2.1
    rw [h.2.2.1] at h1
    cases h1
theorem mo_self {t : Nat → Option Nat} {p : Nat} (h : (t p).isSome = true) : moO t t p = some p := if_pos h
/-- no two go to one place -/
def gMi (mv : Nat → Option Nat) : Prop := ∀ p p' q, p < 8 → p' < 8 → mv p = some q → mv p' = some q → p = p'
theorem mi_S {t u mv : Nat → Option Nat} {l p q : Nat} (h : gMi mv) : gMi (mvS t u l p q mv) := by
  unfold mvS
  split
  · next c =>
    simp only [Bool.and_eq_true, decide_eq_true_eq] at c
    have c2 := first_none.mp (cm_iff.mp c.1.2).2.2
    have key : ∀ a, a < 8 → mv a ≠ some q := fun a ha e => by
      have := c2 a ha
      rw [e] at this
      simp at this
    intro a b z ha hb h1 h2
    by_cases ea : a = p
    · by_cases eb : b = p
      · rw [ea, eb]
      · rw [ea, uO_s] at h1
        rw [uO_n _ _ eb] at h2
        cases h1
        exact absurd h2 (key b hb)
    · by_cases eb : b = p
      · rw [eb, uO_s] at h2
        rw [uO_n _ _ ea] at h1
        cases h2
        exact absurd h1 (key a ha)
      · rw [uO_n _ _ ea] at h1
        rw [uO_n _ _ eb] at h2
        exact h a b z ha hb h1 h2
  · exact h
theorem mi_Q {t u mv : Nat → Option Nat} {l p : Nat} (h : gMi mv) : ∀ n, gMi (mvQ t u l p n mv) := by
  intro n
  induction n with
  | zero => exact h
  | succ n ih => exact mi_S ih
theorem mi_P {t u mv : Nat → Option Nat} {l : Nat} (h : gMi mv) : ∀ n, gMi (mvP t u l n mv) := by
  intro n
  induction n with
  | zero => exact h
  | succ n ih => exact mi_Q ih 8
theorem mi_all (t u : Nat → Option Nat) : gMi (moves t u) := mi_P (mi_P (fun _ _ _ _ _ h => by cases h) 8) 8
theorem mo_inj {t u : Nat → Option Nat} {p p' q : Nat} (hp : p < 8) (hp' : p' < 8) (hs : (t p).isSome = true) (hs' : (t p').isSome = true) (h : moO t u p = some q) (h' : moO t u p' = some q) : p = p' := by
  unfold moO plO at h h'
  by_cases c : (u p).isSome = true
  · rw [if_pos c] at h
    cases h
    by_cases c' : (u p').isSome = true
    · rw [if_pos c'] at h'
      cases h'
      rfl
    · rw [if_neg c'] at h'
      have := (mv_all t u p' p hp' h').2.2.2.1
      rw [this] at hs
      cases hs
  · rw [if_neg c] at h
    by_cases c' : (u p').isSome = true
    · rw [if_pos c'] at h'
      cases h'
      have := (mv_all t u p p' hp h).2.2.2.1
      rw [this] at hs'
      cases hs'
    · rw [if_neg c'] at h'
      exact mi_all t u p p' q hp hp' h h'
theorem cnt_le1 {P : Nat → Bool} {n : Nat} (h : ∀ i j, i < n → j < n → P i = true → P j = true → i = j) : cntN P n ≤ 1 := by
  induction n with
  | zero => exact Nat.zero_le _
  | succ n ih =>
    cases e : P n with
    | false =>
      rw [cnt_f e]
      exact ih (fun i j hi hj => h i j (by omega) (by omega))
    | true =>
      rw [cnt_t e, cnt_zero.mpr (fun i hi => ?_)]
      · exact Nat.le_refl _
      · cases e2 : P i with
        | false => rfl
        | true =>
          have := h i n (by omega) (by omega) e2 e
          omega
theorem flA_base {t u : Nat → Option Nat} {p x c : Nat} (h : flA t u t p = some (x, c)) : (t p).isSome = true ∧ moO t u p = some x := by
  by_cases hs : (t p).isSome = true
  · refine ⟨hs, ?_⟩
    cases e : moO t u p with
    | none => rw [(fl_gone hs (Or.inl e)).2] at h; cases h
    | some a =>
      obtain ⟨m, hm⟩ := mrg_base (gv t p) (gv u a) 4
      rw [(fl_some hs e (mo_self hs) (chg_base p a) hm).2] at h
      cases h
      rfl
  · have e : t p = none := by
      cases e : t p with
      | none => rfl
      | some v => rw [e] at hs; exact absurd rfl hs
    rw [(fl_no e).2] at h
    cases h
theorem flC_base (t u : Nat → Option Nat) (p : Nat) : flC t u t p = false := by
  by_cases hs : (t p).isSome = true
  · cases e : moO t u p with
    | none =>
      rw [(fl_gone hs (Or.inl e)).1, nu_w e]
      show (!(true && ((plO t (moves t t) p).isNone || decide (t p = t p)))) = false
      rw [decide_eq_true rfl, Bool.or_true]
      rfl
    | some a =>
      obtain ⟨m, hm⟩ := mrg_base (gv t p) (gv u a) 4
      exact (fl_some hs e (mo_self hs) (chg_base p a) hm).1
  · have e : t p = none := by
      cases e : t p with
      | none => rfl
      | some v => rw [e] at hs; exact absurd rfl hs
    exact (fl_no e).1
theorem at_some {e : Option (Nat × Nat)} {q : Nat} (h : atB e q = true) : ∃ c, e = some (q, c) := by
  cases e with
  | none => cases h
  | some z =>
    obtain ⟨x, c⟩ := z
    have := of_decide_eq_true h
    subst this
    exact ⟨c, rfl⟩
theorem n1_self (t : Nat → Option Nat) (q : Nat) : n1O t t q = none := by
  unfold n1O nwO
  refine if_neg (fun h => ?_)
  have h := cm_iff.mp h
  have h1 := h.2.1
  rw [h.1] at h1
  cases h1
theorem ar_base (t u : Nat → Option Nat) (q : Nat) : arN t u t 8 8 8 q ≤ 1 := by
  have h2 : n2O t u t q = none := by
    unfold n2O
    rw [n1_self]
    split <;> rfl
  unfold arN
  rw [h2, if_neg (c := q < 8 ∧ (none : Option Nat).isSome = true) (fun h => by cases h.2)]
  have h1 : cntN (fun p => atB (flA t u t p) q) 8 ≤ 1 := cnt_le1 (fun i j hi hj a b => by
    obtain ⟨c, hc⟩ := at_some a
    obtain ⟨d, hd⟩ := at_some b
    have h3 := flA_base hc
    have h4 := flA_base hd
    exact mo_inj hi hj h3.1 h4.1 h3.2 h4.2)
  by_cases c : q < 8 ∧ (n1O t u q).isSome = true
  · rw [if_pos c, cnt_zero.mpr (fun i hi => ?_)]
    · exact Nat.le_refl _
    · cases e : atB (flA t u t i) q with
      | false => rfl
      | true =>
        exfalso
        obtain ⟨d, hd⟩ := at_some e
        obtain ⟨h3, h4⟩ := flA_base hd
        obtain ⟨hq, hc⟩ := c
        have hcm : cmB t u (moves t u) q = true := by
          cases e2 : cmB t u (moves t u) q with
          | true => rfl
          | false =>
            unfold n1O nwO at hc
            rw [e2] at hc
            cases hc
        have hcm := cm_iff.mp hcm
        unfold moO plO at h4
        by_cases cu : (u i).isSome = true
        · rw [if_pos cu] at h4
          cases h4
          rw [hcm.1] at h3
          cases h3
        · rw [if_neg cu] at h4
          have := first_none.mp hcm.2.2 i hi
          rw [h4] at this
          simp at this
  · rw [if_neg c]
    omega
theorem mg_base (t u : Nat → Option Nat) : mgN t u t = 0 := by
  unfold mgN
  rw [cnt_zero.mpr (fun i _ => flC_base t u i), cnt_zero.mpr (fun i _ => decide_eq_false (by have := ar_base t u i; omega))]
/-! bases -/
theorem cm_sym (A : gSt0) (c o : Nat) : cmN A c o = cmN A o c := funext fun _ => Bool.and_comm _ _
theorem bb_sym (A : gSt0) (c o : Nat) : bbO A c o = bbO A o c := by
  unfold bbO
  rw [cm_sym]
theorem bs_sym (A : gSt0) (c o : Nat) : bsB A c o = bsB A o c := by
  funext x
  unfold bsB
  rw [cm_sym]
theorem cm_iff2 {A : gSt0} {c o x : Nat} : cmN A c o x = true ↔ anc (aF A) (aS A) c x = true ∧ anc (aF A) (aS A) o x = true := by
  unfold cmN
  rw [Bool.and_eq_true]
/-- the best base -/
def bbN (A : gSt0) (c o : Nat) : Nat := (bbO A c o).getD 0
theorem bb_cm {A : gSt0} (hA : gAi A) {c o : Nat} (hc : c < aN A) (ho : o < aN A) : anc (aF A) (aS A) c (bbN A c o) = true ∧ anc (aF A) (aS A) o (bbN A c o) = true ∧ bbN A c o < aN A ∧ bbO A c o = some (bbN A c o) := by
  have h := bb_some hA hc ho
  have h1 := last_some.mp (show lastN (cmN A c o) (aN A) = some (bbN A c o) from h.1)
  have h2 := cm_iff2.mp h1.2.1
  exact ⟨h2.1, h2.2, h.2, h.1⟩
theorem bb_of_anc {A : gSt0} (hA : gAi A) {c o : Nat} (hc : c < aN A) (h : anc (aF A) (aS A) o c = true) : bbN A c o = c := by
  have : bbO A c o = some c := last_some.mpr ⟨hc, cm_iff2.mpr ⟨anc_refl hA.2.1 c, h⟩, fun i h1 h2 => by
    cases e : cmN A c o i with
    | false => rfl
    | true =>
      have := anc_le hA.2.1 (cm_iff2.mp e).1
      omega⟩
  unfold bbN
  rw [this]
  rfl
theorem anc_bb {A : gSt0} (hA : gAi A) {c o : Nat} (hc : c < aN A) (ho : o < aN A) : anc (aF A) (aS A) o c = decide (bbN A c o = c) := by
  by_cases h : bbN A c o = c
  · rw [decide_eq_true h]
    have := (bb_cm hA hc ho).2.1
    rwa [h] at this
  · rw [decide_eq_false h]
    cases e : anc (aF A) (aS A) o c with
    | false => rfl
    | true => exact absurd (bb_of_anc hA hc e) h
theorem bs_pos {A : gSt0} (hA : gAi A) {c o : Nat} (hc : c < aN A) (ho : o < aN A) : 0 < cntN (bsB A c o) (aN A) := by
  refine Nat.pos_of_ne_zero (fun e => ?_)
  have hb := bb_some hA hc ho
  have hl := last_some.mp (show lastN (cmN A c o) (aN A) = some ((bbO A c o).getD 0) from hb.1)
  have h0 := cnt_zero.mp e _ hb.2
  unfold bsB at h0
  rw [hl.2.1, Bool.true_and] at h0
  have h1 : anyN (fun k => cmN A c o k && (anc (aF A) (aS A) k ((bbO A c o).getD 0) && !decide ((bbO A c o).getD 0 = k))) (aN A) = true := by
    revert h0
    cases anyN (fun k => cmN A c o k && (anc (aF A) (aS A) k ((bbO A c o).getD 0) && !decide ((bbO A c o).getD 0 = k))) (aN A) <;> simp
  obtain ⟨k, hk, h2⟩ := any_iff.mp h1
  simp only [Bool.and_eq_true, Bool.not_eq_true', decide_eq_false_iff_not] at h2
  have h3 := anc_le hA.2.1 h2.2.1
  have h4 := h2.2.2
  have h5 := hl.2.2 k (by omega) hk
  rw [h2.1] at h5
  cases h5
theorem gn_anc {A : gSt0} (hA : gAi A) : ∀ {c a : Nat}, c < aN A → anc (aF A) (aS A) c a = true → c ≠ a → gn (aF A) (aS A) a < gn (aF A) (aS A) c := by
  have h := hA.2.1
  intro c
  induction c using Nat.strongRecOn with
  | ind c ih =>
    intro a hc ha hn
    rcases (anc_iff h).mp ha with e | ⟨p, h1, h2⟩ | ⟨q, h1, h2⟩
    · exact absurd e hn
    · rw [gn_eq h h1]
      have hp := h.1 _ _ h1
      have hl : gn (aF A) (aS A) a ≤ gn (aF A) (aS A) p := by
        by_cases e : p = a
        · rw [e]; exact Nat.le_refl _
        · exact Nat.le_of_lt (ih p hp (by omega) h2 e)
      rw [Nat.add_comm]
      exact Nat.lt_succ_of_le (Nat.le_trans hl (Nat.le_max_left _ _))
    · have hq := h.2 _ _ h1
      have hl : gn (aF A) (aS A) a ≤ gn (aF A) (aS A) q := by
        by_cases e : q = a
        · rw [e]; exact Nat.le_refl _
        · exact Nat.le_of_lt (ih q hq (by omega) h2 e)
      have h4 := hA.2.2.1 c hc (by omega)
      cases e : aF A c with
      | none => rw [e] at h4; cases h4
      | some p =>
        rw [gn_eq h e, h1]
        have h3 : gn (aF A) (aS A) q ≤ Nat.max (gn (aF A) (aS A) p) (gn (aF A) (aS A) q) := Nat.le_max_right _ _
        show gn (aF A) (aS A) a < 1 + Nat.max (gn (aF A) (aS A) p) (gn (aF A) (aS A) q)
        omega
/-- of an ancestor nothing is a conflict -/
theorem mg_anc {A : gSt0} (hA : gAi A) {c b : Nat} (hb : b < aN A) (h : anc (aF A) (aS A) c b = true) : mgA A c b = 0 ∧ mgA A b c = 0 := by
  have e1 : (bbO A b c).getD 0 = b := bb_of_anc hA hb h
  have e2 : (bbO A c b).getD 0 = b := by rw [bb_sym]; exact e1
  unfold mgA
  rw [e1, e2, mg_sym (aT A b) (aT A b) (aT A c), mg_base]
  exact ⟨rfl, rfl⟩
theorem mgA_sym (A : gSt0) (c o : Nat) : mgA A c o = mgA A o c := by
  unfold mgA
  rw [bb_sym, mg_sym]
