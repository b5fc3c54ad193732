/-! what the pack holds: contents below 2000, each once; a whole one has depth 0 and size 4, another the depth of its source and 1 -/
def gPw (P : gPk) : Prop := (∀ k, k < P.1 → P.2.1 k < 2000 ∧ ((P.2.2.2.2 k = none ∧ P.2.2.2.1 k = 0 ∧ P.2.2.1 k = 4) ∨ ∃ j, P.2.2.2.2 k = some j ∧ j < k ∧ P.2.2.2.1 k = P.2.2.2.1 j + 1)) ∧ ∀ i j, i < P.1 → j < P.1 → P.2.1 i = P.2.1 j → i = j
theorem pkB_none {P : gPk} {c : Nat} : ∀ {k}, (pkB P c k).1 = none → (pkB P c k).2 = 4 := by
  intro k
  induction k with
  | zero => intro _; rfl
  | succ k ih =>
    by_cases h : P.2.2.2.1 k ≤ 2 ∧ 5 - like (P.2.1 k) c < (pkB P c k).2
    · rw [pkB_go h.1 h.2]
      intro e; cases e
    · rw [show pkB P c (k + 1) = pkB P c k from if_neg h]
      exact ih
theorem pw_A {P : gPk} {c : Nat} (h : gPw P) (hc : c < 2000) : gPw (pkA P c) := by
  cases hf : pkF P (nI c) with
  | some k => rw [pkA_old hf]; exact h
  | none =>
    have hnew : ∀ k, k < P.1 → P.2.1 k ≠ c := fun k hk e => by
      have := first_none.mp hf k hk
      rw [e] at this
      simp at this
    rw [pkA_new hf]
    refine ⟨fun k hk => ?_, fun i j hi hj e => ?_⟩
    · have hk : k < P.1 + 1 := hk
      show vN P.2.1 P.1 c k < 2000 ∧ ((uO P.2.2.2.2 P.1 (pkB P c P.1).1 k = none ∧ vN P.2.2.2.1 P.1 (pkD P (pkB P c P.1).1) k = 0 ∧ vN P.2.2.1 P.1 (pkB P c P.1).2 k = 4) ∨ ∃ j, uO P.2.2.2.2 P.1 (pkB P c P.1).1 k = some j ∧ j < k ∧ vN P.2.2.2.1 P.1 (pkD P (pkB P c P.1).1) k = vN P.2.2.2.1 P.1 (pkD P (pkB P c P.1).1) j + 1)
      by_cases e : k = P.1
      · rw [e, vN_s, uO_s, vN_s, vN_s]
        refine ⟨hc, ?_⟩
        cases hb : (pkB P c P.1).1 with
        | none => exact Or.inl ⟨rfl, rfl, pkB_none hb⟩
        | some b =>
          have hb2 := ((pkB_ok P c P.1).2 b hb).1
          exact Or.inr ⟨b, rfl, hb2, by rw [vN_n _ _ (by omega)]; rfl⟩
      · rw [vN_n _ _ e, uO_n _ _ e, vN_n _ _ e, vN_n _ _ e]
        have hk2 : k < P.1 := by omega
        obtain ⟨h1, h2⟩ := h.1 k hk2
        refine ⟨h1, ?_⟩
        rcases h2 with h2 | ⟨j, h2, h3, h4⟩
        · exact Or.inl h2
        · exact Or.inr ⟨j, h2, h3, by rw [vN_n _ _ (by omega)]; exact h4⟩
    · have hi : i < P.1 + 1 := hi
      have hj : j < P.1 + 1 := hj
      have e : vN P.2.1 P.1 c i = vN P.2.1 P.1 c j := e
      by_cases ei : i = P.1
      · by_cases ej : j = P.1
        · rw [ei, ej]
        · rw [ei, vN_s, vN_n _ _ ej] at e
          exact absurd e.symm (hnew j (by omega))
      · by_cases ej : j = P.1
        · rw [ej, vN_s, vN_n _ _ ei] at e
          exact absurd e (hnew i (by omega))
        · rw [vN_n _ _ ei, vN_n _ _ ej] at e
          exact h.2 i j (by omega) (by omega) e
theorem pw_O {P : gPk} {o : Option Nat} (h : gPw P) (hc : ∀ c, o = some c → c < 2000) : gPw (pkO P o) := by
  cases o with
  | none => exact h
  | some c => exact pw_A h (hc c rfl)
theorem pw_T {P : gPk} {t : Nat → Option Nat} (h : gPw P) (ht : gT2 t) : ∀ {p}, p ≤ 8 → gPw (pkT P t p) := by
  intro p
  induction p with
  | zero => intro _; exact h
  | succ p ih => intro hp; exact pw_O (ih (by omega)) (fun c hc => ht p c (by omega) hc)
theorem pw_N {T : Nat → Nat → Option Nat} (hT : ∀ c, gT2 (T c)) : ∀ n, gPw (pkN T n) := by
  intro n
  induction n with
  | zero => exact ⟨fun k hk => absurd hk (Nat.not_lt_zero _), fun i _ hi => absurd hi (Nat.not_lt_zero _)⟩
  | succ n ih => exact pw_T ih (hT n) (Nat.le_refl 8)
theorem pw_aP {A : gSt0} (h : gVt A) : gPw (aP A) := pw_N h.1 _
/-! finding -/
theorem pw_find {P : gPk} (h : gPw P) {k : Nat} (hk : k < P.1) : pkF P (nI (P.2.1 k)) = some k := by
  refine first_some.mpr ⟨hk, decide_eq_true rfl, fun i hi => decide_eq_false (fun e => ?_)⟩
  have h1 := (h.1 i (by omega)).1
  have h2 := (h.1 k hk).1
  have := h.2 i k (by omega) hk ((nI_eq (by omega) (by omega)).mp e)
  omega
theorem pw_found {P : gPk} (h : gPw P) {x k : Nat} (hx : x < 2 ^ 31) (e : pkF P (nI x) = some k) : k < P.1 ∧ P.2.1 k = x := by
  have h1 := first_some.mp e
  refine ⟨h1.1, ?_⟩
  have h2 := (h.1 k h1.1).1
  exact (nI_eq (by omega) hx).mp (of_decide_eq_true h1.2.1)
/-! counting -/
theorem cnt_one {P R : Nat → Bool} {y : Nat} : ∀ {m : Nat}, (∀ x, x < m → R x = (P x || decide (x = y))) → P y = false → cntN R m = cntN P m + (if y < m then 1 else 0) := by
  intro m
  induction m with
  | zero => intro _ _; rfl
  | succ m ih =>
    intro h h0
    have h1 := ih (fun x hx => h x (by omega)) h0
    have h2 := h m (by omega)
    by_cases e : m = y
    · subst e
      rw [if_neg (Nat.lt_irrefl _)] at h1
      rw [decide_eq_true rfl, Bool.or_true] at h2
      rw [cnt_t h2, cnt_f h0, if_pos (Nat.lt_succ_self _), h1]
    · rw [decide_eq_false e, Bool.or_false] at h2
      rw [cntN_s, cntN_s, h1, h2]
      by_cases c : y < m
      · rw [if_pos c, if_pos (show y < m + 1 by omega)]; omega
      · rw [if_neg c, if_neg (show ¬ y < m + 1 by omega)]; omega
def pkC (P : gPk) (n x : Nat) : Bool := anyN (fun k => decide (P.2.1 k = x)) n
def pkW (P : gPk) (n x : Nat) : Bool := anyN (fun k => decide (P.2.1 k = x) && decide (P.2.2.2.1 k = 0)) n
theorem any_no {P : Nat → Bool} {n : Nat} (h : ∀ i, i < n → P i = false) : anyN P n = false := by
  cases e : anyN P n with
  | false => rfl
  | true =>
    obtain ⟨i, hi, h1⟩ := any_iff.mp e
    rw [h i hi] at h1
    cases h1
theorem pkC_cnt {P : gPk} (h : gPw P) : ∀ n, n ≤ P.1 → cntN (pkC P n) 2000 = n := by
  intro n
  induction n with
  | zero => intro _; exact cnt_zero.mpr (fun _ _ => rfl)
  | succ n ih =>
    intro hn
    have h1 := (h.1 n (by omega)).1
    have e1 : ∀ z, z < 2000 → pkC P (n + 1) z = (pkC P n z || decide (z = P.2.1 n)) := fun z _ => by
      show (pkC P n z || decide (P.2.1 n = z)) = _
      rw [decide_eq_decide.mpr (eq_comm (a := P.2.1 n) (b := z))]
    have e2 : pkC P n (P.2.1 n) = false := any_no (fun i hi => decide_eq_false (fun e => by
      have := h.2 i n (by omega) (by omega) e
      omega))
    rw [cnt_one e1 e2, ih (by omega), if_pos h1]
theorem pkW_cnt {P : gPk} (h : gPw P) : ∀ n, n ≤ P.1 → 4 * cntN (pkW P n) 2000 ≤ sumN P.2.2.1 n := by
  intro n
  induction n with
  | zero =>
    intro _
    rw [show cntN (pkW P 0) 2000 = 0 from cnt_zero.mpr (fun _ _ => rfl)]
    exact Nat.le_refl _
  | succ n ih =>
    intro hn
    have h0 := ih (by omega)
    obtain ⟨h1, h2⟩ := h.1 n (by omega)
    rw [sum_s]
    by_cases e : P.2.2.2.1 n = 0
    · have h3 : P.2.2.1 n = 4 := by
        rcases h2 with h2 | ⟨j, -, -, h4⟩
        · exact h2.2.2
        · omega
      have e1 : ∀ z, z < 2000 → pkW P (n + 1) z = (pkW P n z || decide (z = P.2.1 n)) := fun z _ => by
        show (pkW P n z || (decide (P.2.1 n = z) && decide (P.2.2.2.1 n = 0))) = _
        rw [decide_eq_true e, Bool.and_true, decide_eq_decide.mpr (eq_comm (a := P.2.1 n) (b := z))]
      have e2 : pkW P n (P.2.1 n) = false := any_no (fun i hi => by
        have e3 : ¬ P.2.1 i = P.2.1 n := fun e => by
          have := h.2 i n (by omega) (by omega) e
          omega
        rw [decide_eq_false e3]
        rfl)
      rw [cnt_one e1 e2, if_pos h1]
      omega
    · have e1 : ∀ z, z < 2000 → pkW P (n + 1) z = pkW P n z := fun z _ => by
        show (pkW P n z || (decide (P.2.1 n = z) && decide (P.2.2.2.1 n = 0))) = _
        rw [decide_eq_false e, Bool.and_false, Bool.or_false]
      rw [cnt_congr e1]
      omega
/-- x is packed; it is packed whole -/
def fB (A : gSt0) (x : Nat) : Bool := (pkF (aP A) (nI x)).isSome
def wB (A : gSt0) (x : Nat) : Bool := match pkF (aP A) (nI x) with
  | some k => decide ((aP A).2.2.2.1 k = 0)
  | none => false
theorem fB_C {A : gSt0} (h : gPw (aP A)) {x : Nat} (hx : x < 2000) : fB A x = pkC (aP A) (aP A).1 x := by
  unfold fB
  cases e : pkF (aP A) (nI x) with
  | some k =>
    have h1 := pw_found h (by omega) e
    exact (any_iff.mpr ⟨k, h1.1, decide_eq_true h1.2⟩).symm
  | none =>
    refine (any_no (fun i hi => decide_eq_false (fun e2 => ?_))).symm
    have := pw_find h hi
    rw [e2, e] at this
    cases this
theorem wB_W {A : gSt0} (h : gPw (aP A)) {x : Nat} (hx : x < 2000) : wB A x = pkW (aP A) (aP A).1 x := by
  unfold wB
  cases e : pkF (aP A) (nI x) with
  | some k =>
    have h1 := pw_found h (by omega) e
    show decide ((aP A).2.2.2.1 k = 0) = _
    by_cases e3 : (aP A).2.2.2.1 k = 0
    · rw [decide_eq_true e3]
      exact (any_iff.mpr ⟨k, h1.1, by rw [decide_eq_true h1.2, decide_eq_true e3]; rfl⟩).symm
    · rw [decide_eq_false e3]
      refine (any_no (fun i hi => ?_)).symm
      by_cases e2 : (aP A).2.1 i = x
      · have h3 := pw_find h hi
        rw [e2, e] at h3
        cases h3
        rw [decide_eq_false e3, Bool.and_false]
      · rw [decide_eq_false e2]; rfl
  | none =>
    refine (any_no (fun i hi => ?_)).symm
    rw [decide_eq_false (fun e2 => ?_)]
    · rfl
    · have := pw_find h hi
      rw [e2, e] at this
      cases this
theorem fB_all {A : gSt0} (h : gPw (aP A)) : cntN (fB A) 2000 = (aP A).1 := by
  rw [cnt_congr (R := pkC (aP A) (aP A).1) (fun x hx => fB_C h hx)]
  exact pkC_cnt h _ (Nat.le_refl _)
theorem wB_all {A : gSt0} (h : gPw (aP A)) : 4 * cntN (wB A) 2000 ≤ sumN (aP A).2.2.1 (aP A).1 := by
  rw [cnt_congr (R := pkW (aP A) (aP A).1) (fun x hx => wB_W h hx)]
  exact pkW_cnt h _ (Nat.le_refl _)
theorem sum_le4 {f : Nat → Nat} : ∀ n, (∀ i, i < n → f i ≤ 4) → sumN f n ≤ 4 * n := by
  intro n
  induction n with
  | zero => intro _; exact Nat.le_refl _
  | succ n ih =>
    intro h
    have h1 := ih (fun i hi => h i (by omega))
    have h2 := h n (by omega)
    rw [sum_s]
    omega
theorem size_le {A : gSt0} (hA : gAi A) : sumN (aP A).2.2.1 (aP A).1 ≤ 4 * (aP A).1 := sum_le4 _ (fun i hi => ((pk_lim hA).1 i hi).2.1)
/-! what the law reads of it -/
theorem w_dep_n {A : gSt0} {x : Nat} (h : pkF (aP A) (nI x) = none) : wI (oDepthOf A (nI x)) = -1001 := by
  unfold oDepthOf
  rw [h]
  exact w_1 A
theorem w_dep_s {A : gSt0} {x k : Nat} (h : pkF (aP A) (nI x) = some k) : wI (oDepthOf A (nI x)) = nI ((aP A).2.2.2.1 k) := by
  unfold oDepthOf
  rw [h]
  rfl
theorem w_from_n {A : gSt0} {x k : Nat} (h : pkF (aP A) (nI x) = some k) (h2 : (aP A).2.2.2.2 k = none) : wI (oPackedFrom A (nI x)) = -1001 := by
  unfold oPackedFrom
  simp only [h, h2]
  exact w_1 A
theorem w_from_s {A : gSt0} {x k j : Nat} (h : pkF (aP A) (nI x) = some k) (h2 : (aP A).2.2.2.2 k = some j) : wI (oPackedFrom A (nI x)) = nI ((aP A).2.1 j) := by
  unfold oPackedFrom
  simp only [h, h2]
  rfl
theorem lI_toInt {n : Nat} (h : n < 2 ^ 31) : (lI n).toInt = (n : Int) := lN_toInt h
theorem lI_le {a b : Nat} (ha : a < 2 ^ 31) (hb : b < 2 ^ 31) (h : a ≤ b) : ¬ lg_cmp (lI a) (lI b) > 0 := by
  unfold lg_cmp
  have h1 : ¬ lI a > lI b := fun q => by
    have q : lI b < lI a := q
    rw [Int64.lt_iff_toInt_lt, lI_toInt ha, lI_toInt hb] at q
    omega
  rw [if_neg h1]
  split <;> decide
theorem lI_ge {a b : Nat} (ha : a < 2 ^ 31) (hb : b < 2 ^ 31) (h : b ≤ a) : ¬ lg_cmp (lI a) (lI b) < 0 := by
  unfold lg_cmp
  by_cases h1 : lI a > lI b
  · rw [if_pos h1]; decide
  · rw [if_neg h1]
    have h2 : lI a = lI b := by
      have h1 : ¬ lI b < lI a := h1
      rw [Int64.lt_iff_toInt_lt, lI_toInt ha, lI_toInt hb] at h1
      rw [show a = b by omega]
    rw [if_pos h2]
    decide
theorem nI_lI {n : Nat} (h : n < 2 ^ 31) : (nI n).toInt64 = lI n := nI_l h
theorem lI_mul (a b : Nat) : lI a * lI b = lI (a * b) := (Int64.ofNat_mul a b).symm
