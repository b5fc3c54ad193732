/-! ancestors of a commit: parents have lower numbers -/
def an (fp sp : Nat → Option Nat) : Nat → Nat → Nat → Bool
  | 0, c, a => c == a
  | f + 1, c, a => c == a || (match fp c with | some p => an fp sp f p a | none => false) || (match sp c with | some q => an fp sp f q a | none => false)
def anc (fp sp : Nat → Option Nat) (c a : Nat) : Bool := an fp sp c c a
def gLow (fp sp : Nat → Option Nat) : Prop := (∀ c p, fp c = some p → p < c) ∧ (∀ c q, sp c = some q → q < c)
theorem an_s (fp sp : Nat → Option Nat) (f c a : Nat) : an fp sp (f + 1) c a = (c == a || (match fp c with | some p => an fp sp f p a | none => false) || (match sp c with | some q => an fp sp f q a | none => false)) := rfl
theorem an_fuel {fp sp : Nat → Option Nat} (h : gLow fp sp) : ∀ f c a, c ≤ f → an fp sp f c a = anc fp sp c a := by
  intro f
  induction f using Nat.strongRecOn with
  | ind f ih =>
    intro c a hc
    cases f with
    | zero =>
      have : c = 0 := by omega
      subst this
      rfl
    | succ f =>
      cases c with
      | zero =>
        have h1 : fp 0 = none := by
          cases hf : fp 0 with
          | none => rfl
          | some p => exact absurd (h.1 _ _ hf) (by omega)
        have h2 : sp 0 = none := by
          cases hf : sp 0 with
          | none => rfl
          | some p => exact absurd (h.2 _ _ hf) (by omega)
        rw [an_s, h1, h2]
        simp [anc, an]
      | succ c =>
        show _ = an fp sp (c + 1) (c + 1) a
        rw [an_s, an_s]
        congr 1
        · congr 1
          cases hf : fp (c + 1) with
          | none => rfl
          | some p =>
            have := h.1 _ _ hf
            show an fp sp f p a = an fp sp c p a
            by_cases e : f = c
            · rw [e]
            · rw [ih f (by omega) p a (by omega), ih c (by omega) p a (by omega)]
        · cases hf : sp (c + 1) with
          | none => rfl
          | some p =>
            have := h.2 _ _ hf
            show an fp sp f p a = an fp sp c p a
            by_cases e : f = c
            · rw [e]
            · rw [ih f (by omega) p a (by omega), ih c (by omega) p a (by omega)]
theorem anc_iff {fp sp : Nat → Option Nat} (h : gLow fp sp) {c a : Nat} : anc fp sp c a = true ↔ c = a ∨ (∃ p, fp c = some p ∧ anc fp sp p a = true) ∨ (∃ q, sp c = some q ∧ anc fp sp q a = true) := by
  have e : anc fp sp c a = an fp sp (c + 1) c a := (an_fuel h (c + 1) c a (by omega)).symm
  rw [e, an_s]
  simp only [Bool.or_eq_true, beq_iff_eq]
  constructor
  · rintro ((h1 | h1) | h1)
    · exact Or.inl h1
    · cases hf : fp c with
      | none => rw [hf] at h1; cases h1
      | some p => rw [hf] at h1; exact Or.inr (Or.inl ⟨p, rfl, by rw [← an_fuel h c p a (by have := h.1 _ _ hf; omega)]; exact h1⟩)
    · cases hf : sp c with
      | none => rw [hf] at h1; cases h1
      | some p => rw [hf] at h1; exact Or.inr (Or.inr ⟨p, rfl, by rw [← an_fuel h c p a (by have := h.2 _ _ hf; omega)]; exact h1⟩)
  · rintro (h1 | ⟨p, h1, h2⟩ | ⟨p, h1, h2⟩)
    · exact Or.inl (Or.inl h1)
    · refine Or.inl (Or.inr ?_)
      rw [h1]
      show an fp sp c p a = true
      rw [an_fuel h c p a (by have := h.1 _ _ h1; omega)]
      exact h2
    · refine Or.inr ?_
      rw [h1]
      show an fp sp c p a = true
      rw [an_fuel h c p a (by have := h.2 _ _ h1; omega)]
      exact h2
theorem anc_refl {fp sp : Nat → Option Nat} (h : gLow fp sp) (c : Nat) : anc fp sp c c = true := (anc_iff h).mpr (Or.inl rfl)
theorem anc_le {fp sp : Nat → Option Nat} (h : gLow fp sp) : ∀ {c a : Nat}, anc fp sp c a = true → a ≤ c := by
  intro c
  induction c using Nat.strongRecOn with
  | ind c ih =>
    intro a ha
    rcases (anc_iff h).mp ha with e | ⟨p, h1, h2⟩ | ⟨p, h1, h2⟩
    · omega
    · have := h.1 _ _ h1
      have := ih p this h2
      omega
    · have := h.2 _ _ h1
      have := ih p this h2
      omega
theorem anc_trans {fp sp : Nat → Option Nat} (h : gLow fp sp) : ∀ {c b a : Nat}, anc fp sp c b = true → anc fp sp b a = true → anc fp sp c a = true := by
  intro c
  induction c using Nat.strongRecOn with
  | ind c ih =>
    intro b a hb ha
    rcases (anc_iff h).mp hb with e | ⟨p, h1, h2⟩ | ⟨p, h1, h2⟩
    · subst e; exact ha
    · exact (anc_iff h).mpr (Or.inr (Or.inl ⟨p, h1, ih p (h.1 _ _ h1) h2 ha⟩))
    · exact (anc_iff h).mpr (Or.inr (Or.inr ⟨p, h1, ih p (h.2 _ _ h1) h2 ha⟩))
/-- by the last step -/
theorem anc_last {fp sp : Nat → Option Nat} (h : gLow fp sp) : ∀ {c a : Nat}, anc fp sp c a = true ↔ c = a ∨ ∃ z, anc fp sp c z = true ∧ (fp z = some a ∨ sp z = some a) := by
  intro c a
  constructor
  · induction c using Nat.strongRecOn with
    | ind c ih =>
      intro ha
      rcases (anc_iff h).mp ha with e | ⟨p, h1, h2⟩ | ⟨p, h1, h2⟩
      · exact Or.inl e
      · rcases ih p (h.1 _ _ h1) h2 with e | ⟨z, z1, z2⟩
        · subst e
          exact Or.inr ⟨c, anc_refl h c, Or.inl h1⟩
        · exact Or.inr ⟨z, (anc_iff h).mpr (Or.inr (Or.inl ⟨p, h1, z1⟩)), z2⟩
      · rcases ih p (h.2 _ _ h1) h2 with e | ⟨z, z1, z2⟩
        · subst e
          exact Or.inr ⟨c, anc_refl h c, Or.inr h1⟩
        · exact Or.inr ⟨z, (anc_iff h).mpr (Or.inr (Or.inr ⟨p, h1, z1⟩)), z2⟩
  · rintro (e | ⟨z, z1, z2⟩)
    · subst e; exact anc_refl h c
    · refine anc_trans h z1 ?_
      rcases z2 with z2 | z2
      · exact (anc_iff h).mpr (Or.inr (Or.inl ⟨a, z2, anc_refl h a⟩))
      · exact (anc_iff h).mpr (Or.inr (Or.inr ⟨a, z2, anc_refl h a⟩))
theorem anc_congr {fp sp fp' sp' : Nat → Option Nat} (h : gLow fp sp) (h' : gLow fp' sp') {n : Nat} (e : ∀ c, c < n → fp c = fp' c ∧ sp c = sp' c) : ∀ {c : Nat}, c < n → ∀ a, anc fp sp c a = anc fp' sp' c a := by
  intro c
  induction c using Nat.strongRecOn with
  | ind c ih =>
    intro hc a
    apply Bool.eq_iff_iff.mpr
    rw [anc_iff h, anc_iff h', (e c hc).1, (e c hc).2]
    constructor
    · rintro (q | ⟨p, h1, h2⟩ | ⟨p, h1, h2⟩)
      · exact Or.inl q
      · have hp := h'.1 _ _ h1
        exact Or.inr (Or.inl ⟨p, h1, by rw [← ih p hp (by omega)]; exact h2⟩)
      · have hp := h'.2 _ _ h1
        exact Or.inr (Or.inr ⟨p, h1, by rw [← ih p hp (by omega)]; exact h2⟩)
    · rintro (q | ⟨p, h1, h2⟩ | ⟨p, h1, h2⟩)
      · exact Or.inl q
      · have hp := h'.1 _ _ h1
        exact Or.inr (Or.inl ⟨p, h1, by rw [ih p hp (by omega)]; exact h2⟩)
      · have hp := h'.2 _ _ h1
        exact Or.inr (Or.inr ⟨p, h1, by rw [ih p hp (by omega)]; exact h2⟩)
/-! first and last places with a property -/
def firstN (P : Nat → Bool) : Nat → Option Nat
  | 0 => none
  | n + 1 => match firstN P n with
    | some k => some k
    | none => if P n = true then some n else none
def lastN (P : Nat → Bool) : Nat → Option Nat
  | 0 => none
  | n + 1 => if P n = true then some n else lastN P n
theorem first_none {P : Nat → Bool} {n : Nat} : firstN P n = none ↔ ∀ i, i < n → P i = false := by
  induction n with
  | zero => exact ⟨fun _ i hi => absurd hi (by omega), fun _ => rfl⟩
  | succ n ih =>
    show (match firstN P n with | some k => some k | none => if P n = true then some n else none) = none ↔ _
    cases hf : firstN P n with
    | some k =>
      constructor
      · intro h; cases h
      · intro h
        have := ih.mpr (fun i hi => h i (by omega))
        rw [hf] at this
        cases this
    | none =>
      have h0 := ih.mp hf
      show (if P n = true then some n else none) = none ↔ _
      cases hp : P n with
      | true =>
        constructor
        · intro h; rw [if_pos rfl] at h; cases h
        · intro h; rw [h n (by omega)] at hp; cases hp
      | false =>
        constructor
        · intro _ i hi
          by_cases c : i = n
          · rw [c]; exact hp
          · exact h0 i (by omega)
        · intro _; rfl
theorem first_some {P : Nat → Bool} {n k : Nat} : firstN P n = some k ↔ k < n ∧ P k = true ∧ ∀ i, i < k → P i = false := by
  induction n with
  | zero => exact ⟨fun h => (by cases h), fun h => absurd h.1 (by omega)⟩
  | succ n ih =>
    show (match firstN P n with | some k => some k | none => if P n = true then some n else none) = some k ↔ _
    cases hf : firstN P n with
    | some j =>
      rw [hf] at ih
      constructor
      · intro h
        have := ih.mp h
        exact ⟨by omega, this.2⟩
      · rintro ⟨h1, h2, h3⟩
        have hj : ¬ ∀ i, i < n → P i = false := fun q => (by have := first_none.mpr q; rw [hf] at this; cases this)
        by_cases c : k < n
        · exact ih.mpr ⟨c, h2, h3⟩
        · exact absurd (fun i hi => h3 i (by omega)) hj
    | none =>
      have h0 := first_none.mp hf
      show (if P n = true then some n else none) = some k ↔ _
      cases hp : P n with
      | true =>
        rw [if_pos rfl]
        constructor
        · intro h; cases h; exact ⟨by omega, hp, h0⟩
        · rintro ⟨h1, h2, h3⟩
          by_cases c : k = n
          · rw [c]
          · rw [h0 k (by omega)] at h2; cases h2
      | false =>
        constructor
        · intro h; cases h
        · rintro ⟨h1, h2, h3⟩
          by_cases c : k = n
          · rw [c, hp] at h2; cases h2
          · rw [h0 k (by omega)] at h2; cases h2
theorem last_s (P : Nat → Bool) (n : Nat) : lastN P (n + 1) = if P n = true then some n else lastN P n := rfl
theorem last_skip {P : Nat → Bool} {n i : Nat} (h : ∀ j, i ≤ j → j < n → P j = false) (hi : i ≤ n) : lastN P n = lastN P i := by
  induction n with
  | zero => rw [show i = 0 by omega]
  | succ n ih =>
    by_cases c : i = n + 1
    · rw [c]
    · rw [last_s, if_neg (by rw [h n (by omega) (by omega)]; decide)]
      exact ih (fun j h1 h2 => h j h1 (by omega)) (by omega)
theorem last_some {P : Nat → Bool} {n k : Nat} : lastN P n = some k ↔ k < n ∧ P k = true ∧ ∀ i, k < i → i < n → P i = false := by
  induction n with
  | zero => exact ⟨fun h => (by cases h), fun h => absurd h.1 (by omega)⟩
  | succ n ih =>
    rw [last_s]
    cases hp : P n with
    | true =>
      rw [if_pos rfl]
      constructor
      · intro h; cases h; exact ⟨by omega, hp, fun i h1 h2 => absurd h1 (by omega)⟩
      · rintro ⟨h1, h2, h3⟩
        by_cases c : k = n
        · rw [c]
        · have := h3 n (by omega) (by omega); rw [hp] at this; cases this
    | false =>
      rw [if_neg (by decide), ih]
      constructor
      · rintro ⟨h1, h2, h3⟩
        refine ⟨by omega, h2, fun i h4 h5 => ?_⟩
        by_cases c : i = n
        · rw [c]; exact hp
        · exact h3 i h4 (by omega)
      · rintro ⟨h1, h2, h3⟩
        refine ⟨?_, h2, fun i h4 h5 => h3 i h4 (by omega)⟩
        by_cases c : k = n
        · rw [c, hp] at h2; cases h2
        · omega
theorem last_congr {P R : Nat → Bool} {n : Nat} (h : ∀ i, i < n → P i = R i) : lastN P n = lastN R n := by
  induction n with
  | zero => rfl
  | succ n ih => rw [last_s, last_s, h n (by omega), ih (fun i hi => h i (by omega))]
theorem first_congr {P R : Nat → Bool} {n : Nat} (h : ∀ i, i < n → P i = R i) : firstN P n = firstN R n := by
  induction n with
  | zero => rfl
  | succ n ih =>
    show (match firstN P n with | some k => some k | none => if P n = true then some n else none) = (match firstN R n with | some k => some k | none => if R n = true then some n else none)
    rw [ih (fun i hi => h i (by omega)), h n (by omega)]
/-! bits of a long -/
def tb (x : Int64) (k : Nat) : Bool := x.toBitVec.getLsbD k
theorem tb_or (x y : Int64) (k : Nat) : tb (x ||| y) k = (tb x k || tb y k) := by simp [tb]
theorem tb_and (x y : Int64) (k : Nat) : tb (x &&& y) k = (tb x k && tb y k) := by simp [tb]
theorem tb_0 (k : Nat) : tb 0 k = false := by simp [tb]
theorem tb_not (x : Int64) {k : Nat} (h : k < 64) : tb (x ^^^ (-1)) k = !tb x k := by
  have h1 : (-1 : Int64).toBitVec = BitVec.allOnes 64 := by decide +kernel
  simp [tb, h1, h]
theorem tb_shl {k j : Nat} (hk : k < 64) (hj : j < 64) : tb ((1 : Int64) <<< ((nI k).toInt64 &&& 63)) j = decide (j = k) := by
  have h : (1 : Int64) <<< ((nI k).toInt64 &&& 63) = lN (2 ^ k) := by
    have := wb_shl 1 hk
    rw [Nat.one_mul] at this
    exact this
  rw [h]
  unfold tb
  rw [wb_tb, BitVec.getLsbD_ofNat]
  rw [Nat.testBit_two_pow]
  simp [hj, eq_comm]
theorem tb_lt (x : Int64) {k : Nat} (h : 64 ≤ k) : tb x k = false := by
  unfold tb
  exact BitVec.getLsbD_of_ge _ _ h
theorem tb_isIn (x : Int64) {k : Nat} (hk : k < 64) : lg_cmp ((x.toUInt64 >>> ((nI k).toInt64.toUInt64 &&& Int64.toUInt64 63)).toInt64 &&& 1) 0 = 0 ↔ tb x k = false := by
  have h1 : ((x.toUInt64 >>> ((nI k).toInt64.toUInt64 &&& Int64.toUInt64 63)).toInt64 &&& 1) = 0 ↔ tb x k = false := ts_bit hk (by rw [wb_cu k hk]; exact u_tn (by omega))
  rw [← h1]
  generalize ((x.toUInt64 >>> ((nI k).toInt64.toUInt64 &&& Int64.toUInt64 63)).toInt64 &&& 1) = y
  unfold lg_cmp
  constructor
  · intro h
    split at h
    · cases h
    · split at h
      · assumption
      · cases h
  · intro h
    rw [h]
    decide
/-! contracts that say of the memory only what S says -/
def RtS (G : gG) (v : Option Value) (S : gMem → Prop) : gF := fun r N σ => r = .inl v ∧ N = 156 ∧ ∃ M', S M' ∧ σ = mkW G M'
abbrev SpS (G : gG) (μ : gM) (rm : Room) (av : List Value) (M : gMem) (v : Option Value) (S : gMem → Prop) : Prop := Sp G μ rm false 156 av (mkW G M) (RtS G v S)
section QS
variable {G : gG} {X : gX} {own : String} {cc : ByteArray} {nL : Nat} {R : Room} {k n pc : Nat} {lv : List (Option Value)} {st : List Value} {M : gMem} {μ : gM} {rm : Room} {S : gMem → Prop}
theorem q_callVS (C : gC G X own cc nL R) {μ : gM} {rm : Room} {As : List Value} {i ci F na idx : Nat} {T : u_T} {v : Option Value} {S : gMem → Prop} {stk : List Value} (hM : SpS G μ rm (.ref (gb G + i) :: As) M v S) (hV : gV μ na ci T F) (hlk : Cond.methodLink own idx μ.1 ∈ gw)
    (hk : gKd i = (6, ci)) (hi : i < 156) (hn : As.length = na) (hstk : stk = As.reverse ++ .ref (gb G + i) :: st) (hcat : (st.map fun v => v.category).sum ≤ 8) (hR : (rm.frames + 1 ≤ R.frames ∧ 8 + (μ.2.2.1 + 11) + rm.locals ≤ R.locals) ∧ k + rm.cells ≤ R.cells ∧ n + rm.slots ≤ R.slots) (d : decode cc pc = .ok (.invokevirtual idx, 3))
    (kk : ∀ M', S M' → Q G X (k + rm.cells) (n + rm.slots) (pc + 3) lv (v.toList ++ st) M') : Q G X k n pc lv stk M := by
  refine j_callV C hM hV.1 hV.2.1 hV.2.2.1 hV.2.2.2.1 hlk (mk6 G M hk) hi hV.2.2.2.2 hn hstk hcat hR d (fun v' N' σ' h => ?_) (fun E N' σ' h => ?_)
  · obtain ⟨h1, rfl, M', hS, rfl⟩ := h
    cases h1
    exact kk M' hS
  · obtain ⟨h1, -, -⟩ := h
    cases h1
theorem q_iretS (C : gC G X own cc nL R) {v v' : Int32} (CM : gCM G X μ rm false (RtS G (some (.int v')) S)) (hret : μ.2.2.2.1 = some .int) (hk : k ≤ rm.cells) (hn : n ≤ rm.slots) (d : decode cc pc = .ok (.ireturn, 1)) (hv : v = v') (hM : S M) : Q G X k n pc lv [.int v] M :=
  j_iret C CM hret hk hn d ⟨by rw [hv], rfl, M, hM, rfl⟩
theorem q_zretS (C : gC G X own cc nL R) {v : Int32} {b : Bool} (CM : gCM G X μ rm false (RtS G (some (.int (bI b))) S)) (hret : μ.2.2.2.1 = some .boolean) (hk : k ≤ rm.cells) (hn : n ≤ rm.slots) (d : decode cc pc = .ok (.ireturn, 1)) (hv : v = bI b) (hM : S M) : Q G X k n pc lv [.int v] M :=
  j_zret C CM hret (by rw [hv]; exact bI_nar b) hk hn d ⟨by rw [hv], rfl, M, hM, rfl⟩
theorem q_vretS (C : gC G X own cc nL R) (CM : gCM G X μ rm false (RtS G none S)) (hret : μ.2.2.2.1 = none) (hk : k ≤ rm.cells) (hn : n ≤ rm.slots) (d : decode cc pc = .ok (.return_, 1)) (hM : S M) : Q G X k n pc lv [] M :=
  j_vret C CM hret hk hn d ⟨rfl, rfl, M, hM, rfl⟩
theorem q_lretS (C : gC G X own cc nL R) {v v' : Int64} (CM : gCM G X μ rm false (RtS G (some (.long v')) S)) (hret : μ.2.2.2.1 = some .long) (hk : k ≤ rm.cells) (hn : n ≤ rm.slots) (d : decode cc pc = .ok (.lreturn, 1)) (hv : v = v') (hM : S M) : Q G X k n pc lv [.long v] M :=
  j_lret C CM hret hk hn d ⟨by rw [hv], rfl, M, hM, rfl⟩
theorem q_fretS (C : gC G X own cc nL R) {v v' : UInt32} (CM : gCM G X μ rm false (RtS G (some (.float v')) S)) (hret : μ.2.2.2.1 = some .float) (hk : k ≤ rm.cells) (hn : n ≤ rm.slots) (d : decode cc pc = .ok (.freturn, 1)) (hv : v = v') (hM : S M) : Q G X k n pc lv [.float v] M :=
  j_fret C CM hret hk hn d ⟨by rw [hv], rfl, M, hM, rfl⟩
/-- a contract of exact memory is one of S -/
theorem Sp.wk {av : List Value} {v : Option Value} {M' : gMem} (h : SpR G μ rm av M v M') (hS : S M') : SpS G μ rm av M v S := by
  refine g_mono h (fun a st o t hq => ?_)
  rcases hq with ⟨⟨⟨v', N', σ', hv, ⟨h1, h2, h3⟩, hW⟩, hF⟩, hL⟩ | ⟨q, ho, E, ce, L, ⟨⟨N', σ', ⟨h1, _, _⟩, _⟩, _⟩, _⟩
  · exact Or.inl ⟨⟨⟨v', N', σ', hv, ⟨h1, h2, M', hS, h3⟩, hW⟩, hF⟩, hL⟩
  · cases h1
theorem Sp.mn {av : List Value} {v : Option Value} {S' : gMem → Prop} (h : SpS G μ rm av M v S) (hS : ∀ M', S M' → S' M') : SpS G μ rm av M v S' := by
  refine g_mono h (fun a st o t hq => ?_)
  rcases hq with ⟨⟨⟨v', N', σ', hv, ⟨h1, h2, M1, h4, h3⟩, hW⟩, hF⟩, hL⟩ | ⟨q, ho, E, ce, L, ⟨⟨N', σ', ⟨h1, _, _⟩, _⟩, _⟩, _⟩
  · exact Or.inl ⟨⟨⟨v', N', σ', hv, ⟨h1, h2, M1, hS _ h4, h3⟩, hW⟩, hF⟩, hL⟩
  · cases h1
end QS
/-- the counter one below i -/
def pI : Nat → Int32
  | 0 => -1
  | i + 1 => nI i
theorem pI_dec (i : Nat) : nI i + Int32.ofInt (-1) = pI i := by
  cases i with
  | zero => decide
  | succ i => exact pk_m1 i
theorem pI_sub {n : Nat} (h : 0 < n) : nI (n - 1) = pI n := by
  cases n with
  | zero => omega
  | succ n => rfl
