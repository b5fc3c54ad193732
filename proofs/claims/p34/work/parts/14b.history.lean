theorem markM_2 (M : gMem) (o : Option Nat) (m : Int32) : (markM M o m).2 = M.2 := by cases o <;> rfl
theorem markM_n (M : gMem) (o : Option Nat) (m : Int32) {a : Nat} (h : a ≠ 9) : (markM M o m).1 a = M.1 a := by
  cases o with
  | none => rfl
  | some k => exact sI_n _ _ h
theorem gMk_one {fp sp : Nat → Option Nat} (h : gLow fp sp) {n c a : Nat} {f : Nat → Int32} (hf : gMk fp sp n (some c) none 0 f) (ha : a < n) : f a = bI (anc fp sp c a) := by
  obtain ⟨x, y, e, hx, hy⟩ := hf a ha
  have y0 : y = false := by
    cases y with
    | false => rfl
    | true => obtain ⟨k, hk, -⟩ := hy.mp rfl; cases hk
  have x0 : x = anc fp sp c a := by
    apply Bool.eq_iff_iff.mpr
    rw [hx, mkd_0 h]
    constructor
    · rintro ⟨k, h1, h2⟩; cases h1; exact h2
    · intro q; exact ⟨c, rfl, q⟩
  rw [e, y0, x0]
  cases anc fp sp c a <;> rfl
theorem gMk_at {fp sp : Nat → Option Nat} (h : gLow fp sp) {n c o i : Nat} {f : Nat → Int32} (hi : i < n) (hf : gMk fp sp n (some c) (some o) (i + 1) f) : f i = mkI (anc fp sp c i) (anc fp sp o i) := by
  obtain ⟨x, y, e, hx, hy⟩ := hf i hi
  have x0 : x = anc fp sp c i := by
    apply Bool.eq_iff_iff.mpr
    rw [hx, mkd_self h]
    constructor
    · rintro ⟨k, h1, h2⟩; cases h1; exact h2
    · intro q; exact ⟨c, rfl, q⟩
  have y0 : y = anc fp sp o i := by
    apply Bool.eq_iff_iff.mpr
    rw [hy, mkd_self h]
    constructor
    · rintro ⟨k, h1, h2⟩; cases h1; exact h2
    · intro q; exact ⟨o, rfl, q⟩
  rw [e, x0, y0]
theorem mk_3 {a b : Bool} : mkI a b = nI 3 ↔ (a && b) = true := by cases a <;> cases b <;> decide
theorem ne_1 {b : Bool} (h : ¬ bI b = nI 1) : nI 0 = bI b := by cases b; rfl; exact absurd rfl h
theorem gMk_n1 {fp sp : Nat → Option Nat} (h : gLow fp sp) {n c : Nat} {z : Nat → Int32} (hz : ∀ x, x < n → z x = nI 0) (hc : c < n) : gMk fp sp n (some c) none n (upd z c (z c ||| nI 1)) := by
  intro x hx
  have hn : mkd fp sp none n x ↔ False := ⟨fun ⟨k, hk, _⟩ => (by cases hk), fun q => q.elim⟩
  have hs : mkd fp sp (some c) n x ↔ some c = some x := mkd_n h (fun k hk => by cases hk; exact hc)
  by_cases e : x = c
  · subst e
    refine ⟨true, false, ?_, by rw [hs]; simp, by rw [hn]; simp⟩
    rw [upd_s, hz x hx]
    decide
  · refine ⟨false, false, ?_, by rw [hs]; exact ⟨fun q => (by cases q), fun q => absurd (Option.some.inj q).symm e⟩, by rw [hn]; simp⟩
    rw [upd_n _ _ e, hz x hx]
    decide
theorem gMk_n2 {fp sp : Nat → Option Nat} (h : gLow fp sp) {n c o : Nat} {f : Nat → Int32} (hf : gMk fp sp n (some c) none n f) (ho : o < n) : gMk fp sp n (some c) (some o) n (upd f o (f o ||| nI 2)) := by
  intro x hx
  obtain ⟨a, b, h1, h2, h3⟩ := hf x hx
  have b0 : b = false := by
    cases b with
    | false => rfl
    | true => obtain ⟨k, hk, -⟩ := h3.mp rfl; cases hk
  have hs : mkd fp sp (some o) n x ↔ some o = some x := mkd_n h (fun k hk => by cases hk; exact ho)
  by_cases e : x = o
  · subst e
    refine ⟨a, true, ?_, h2, by rw [hs]; simp⟩
    rw [upd_s, h1, b0]
    cases a <;> decide
  · refine ⟨a, false, ?_, h2, by rw [hs]; exact ⟨fun q => (by cases q), fun q => absurd (Option.some.inj q).symm e⟩⟩
    rw [upd_n _ _ e, h1, b0]
theorem lch_s {D : Nat → Nat → Bool} {fp : Nat → Option Nat} {f c : Nat} : lch D fp (f + 1) c = (match fp c with
    | none => none
    | some q => if D c q = true then some c else lch D fp f q) := rfl
theorem lch_none {D : Nat → Nat → Bool} {fp : Nat → Option Nat} {f c : Nat} (h : fp c = none) : lch D fp f c = none := by
  cases f with
  | zero => rfl
  | succ f => rw [lch_s, h]
theorem lch_hit {D : Nat → Nat → Bool} {fp : Nat → Option Nat} {f c q : Nat} (h : fp c = some q) (hd : D c q = true) : lch D fp (f + 1) c = some c := by
  rw [lch_s, h]
  exact if_pos hd
theorem lch_go {D : Nat → Nat → Bool} {fp : Nat → Option Nat} {f c q : Nat} (h : fp c = some q) (hd : D c q = false) : lch D fp (f + 1) c = lch D fp f q := by
  rw [lch_s, h]
  exact if_neg (by rw [hd]; decide)
def anyN (P : Nat → Bool) : Nat → Bool
  | 0 => false
  | n + 1 => anyN P n || P n
theorem any_iff {P : Nat → Bool} {n : Nat} : anyN P n = true ↔ ∃ i, i < n ∧ P i = true := by
  induction n with
  | zero => exact ⟨fun h => (by cases h), fun ⟨i, h, _⟩ => absurd h (by omega)⟩
  | succ n ih =>
    show (anyN P n || P n) = true ↔ _
    rw [Bool.or_eq_true, ih]
    constructor
    · rintro (⟨i, h1, h2⟩ | h)
      · exact ⟨i, by omega, h2⟩
      · exact ⟨n, by omega, h⟩
    · rintro ⟨i, h1, h2⟩
      by_cases e : i = n
      · subst e; exact Or.inr h2
      · exact Or.inl ⟨i, by omega, h2⟩
/-- what lies above a common ancestor below i -/
def surN (cm : Nat → Bool) (A : Nat → Int64) (i x : Nat) : Bool := anyN (fun k => cm k && (tb (A k) x && !decide (x = k))) i
theorem sur_s (cm : Nat → Bool) (A : Nat → Int64) (i x : Nat) : surN cm A (i + 1) x = (surN cm A i x || (cm i && (tb (A i) x && !decide (x = i)))) := rfl
theorem tb_cut (s a : Int64) {i x : Nat} (hi : i < 64) (hx : x < 64) : tb (s ||| (a &&& (((1 : Int64) <<< ((nI i).toInt64 &&& 63)) ^^^ (-1)))) x = (tb s x || (tb a x && !decide (x = i))) := by
  rw [tb_or, tb_and, tb_not _ hx, tb_shl hi hx]
set_option maxHeartbeats 4000000 in
set_option maxRecDepth 100000 in
theorem sp_X1_clearMarks (G : gG) (M : gMem) : SpR G mX1_clearMarks (gRm 0 0) [.ref (gb G + 1)] M (none) (sI M 9 (cpF (fun _ => nI 0) (M.1 9) 60)) := by
  refine Sp.of (by decide +kernel) (Nat.le_of_ble_eq_true rfl) (fun X C CM => ?_)
  have C : gC G X RX1 cX1_clearMarks 2 (gRm 0 0) := C
  refine j_iconst C (v := nI 0) dX1_clearMarks_0 rfl ?_
  refine j_istore_n C dX1_clearMarks_1 (by decide) rfl ?_
  have K2 : ∀ i, i ≤ 60 → Q G X 0 0 2 [some (.ref (gb G + 1)), some (.int (nI i))] [] ((sI M 9 (cpF (fun _ => nI 0) (M.1 9) i))) := by
    refine g_up _ _ (fun i hi ih => ?_)
    refine j_iload_n C dX1_clearMarks_2 rfl ?_
    refine j_aload_n C dX1_clearMarks_3 rfl ?_
    refine q_get C fX1 6 rfl (by decide) (by decide) lf_X1_36 rfl rfl dX1_clearMarks_4 ?_
    refine q_alen C rfl (by decide) dX1_clearMarks_7 ?_
    refine q_icmp_ge C 24 dX1_clearMarks_8 (by decide) (by omega) (by omega) (fun h8 => ?_) (fun h8 => ?_)
    · exact q_vret C CM rfl (by decide) (by decide) dX1_clearMarks_24 (by rw [show i = 60 by omega])
    · refine j_aload_n C dX1_clearMarks_11 rfl ?_
      refine q_get C fX1 6 rfl (by decide) (by decide) lf_X1_36 rfl rfl dX1_clearMarks_12 ?_
      refine j_iload_n C dX1_clearMarks_15 rfl ?_
      refine j_iconst C (v := nI 0) dX1_clearMarks_16 rfl ?_
      refine q_iast C rfl (by decide) (by decide) (by omega) dX1_clearMarks_17 ?_
      refine q_iinc C dX1_clearMarks_18 rfl (by decide) rfl ?_
      refine j_goto C 2 dX1_clearMarks_21 ?_ (by decide)
      exact q_cast (ih (by omega)) (gLe_c rfl (gLe_c rfl gLe_0)) (by rw [sI_sI, sI_s]; exact congrArg (sI M 9) (cpF_s (fun _ => nI 0) _ i))
  exact q_cast (K2 0 (by omega)) (gLe_c rfl (gLe_c rfl gLe_0)) (by rw [cpF_0, sI_id])
set_option maxHeartbeats 4000000 in
set_option maxRecDepth 100000 in
theorem sp_X1_mark (G : gG) (M : gMem) {n : Nat} (hn : M.2.2.1 1 7 = nI n) (h60 : n ≤ 60) {k : Nat} (hk : k < n) (m : Int32) : SpR G mX1_mark (gRm 1 0) [.ref (gb G + 1), .int (nI k), .int m] M (none) (sI M 9 (upd (M.1 9) k (M.1 9 k ||| m))) := by
  refine Sp.of (by decide +kernel) (Nat.le_of_ble_eq_true rfl) (fun X C CM => ?_)
  have C : gC G X RX1 cX1_mark 3 (gRm 1 0) := C
  refine j_aload_n C dX1_mark_0 rfl ?_
  refine j_iload_n C dX1_mark_1 rfl ?_
  refine q_callV C (sp_X1_has G _ hn h60 (k := k) (by omega)) vX1_has lk_X1_43 rfl (by decide) rfl rfl (Nat.le_of_ble_eq_true rfl) (by decide) dX1_mark_2 ?_
  refine q_if_eq0 C 18 dX1_mark_5 (by decide) (fun h5 => ?_) (fun h5 => ?_)
  · exact absurd h5 (by simp [hk])
  · refine j_aload_n C dX1_mark_8 rfl ?_
    refine q_get C fX1 6 rfl (by decide) (by decide) lf_X1_36 rfl rfl dX1_mark_9 ?_
    refine j_iload_n C dX1_mark_12 rfl ?_
    refine j_dup2 C dX1_mark_13 rfl rfl ?_
    refine q_iald C rfl (by decide) (by decide) (by omega) dX1_mark_14 ?_
    refine j_iload_n C dX1_mark_15 rfl ?_
    refine j_ior C dX1_mark_16 ?_
    refine q_iast C rfl (by decide) (by decide) (by omega) dX1_mark_17 ?_
    exact q_vret C CM rfl (by decide) (by decide) dX1_mark_18 rfl
set_option maxHeartbeats 4000000 in
set_option maxRecDepth 100000 in
theorem sp_X1_mark_n (G : gG) (M : gMem) (m : Int32) : SpR G mX1_mark (gRm 1 0) [.ref (gb G + 1), .int (-1), .int m] M (none) M := by
  refine Sp.of (by decide +kernel) (Nat.le_of_ble_eq_true rfl) (fun X C CM => ?_)
  have C : gC G X RX1 cX1_mark 3 (gRm 1 0) := C
  refine j_aload_n C dX1_mark_0 rfl ?_
  refine j_iload_n C dX1_mark_1 rfl ?_
  refine q_callV C (sp_X1_has_n G _ (-1) (by decide)) vX1_has lk_X1_43 rfl (by decide) rfl rfl (Nat.le_of_ble_eq_true rfl) (by decide) dX1_mark_2 ?_
  refine q_if_eq0 C 18 dX1_mark_5 (by decide) (fun h5 => ?_) (fun h5 => ?_)
  · exact q_vret C CM rfl (by decide) (by decide) dX1_mark_18 rfl
  · cases h5
theorem sp_X1_mark_o (G : gG) (M : gMem) {n : Nat} (hn : M.2.2.1 1 7 = nI n) (h60 : n ≤ 60) (o : Option Nat) (ho : ∀ k, o = some k → k < n) (m : Int32) : SpR G mX1_mark (gRm 1 0) [.ref (gb G + 1), .int (oI o), .int m] M none (markM M o m) := by
  cases o with
  | none => exact sp_X1_mark_n G M m
  | some k => exact sp_X1_mark G M hn h60 (ho k rfl) m
set_option maxHeartbeats 4000000 in
set_option maxRecDepth 100000 in
theorem sp_X1_markParents (G : gG) (M : gMem) {n : Nat} (hn : M.2.2.1 1 7 = nI n) (h60 : n ≤ 60) (fp sp : Nat → Option Nat) {c : Nat} (hc : c < n) (h5 : M.1 5 c = oI (fp c)) (h6 : M.1 6 c = oI (sp c)) (k5 : ∀ k, fp c = some k → k < n) (k6 : ∀ k, sp c = some k → k < n) : SpR G mX1_markParents (gRm 2 0) [.ref (gb G + 1), .int (nI c)] M (none) (markM (markM M (fp c) (M.1 9 c)) (sp c) ((markM M (fp c) (M.1 9 c)).1 9 c)) := by
  refine Sp.of (by decide +kernel) (Nat.le_of_ble_eq_true rfl) (fun X C CM => ?_)
  have C : gC G X RX1 cX1_markParents 2 (gRm 2 0) := C
  refine j_aload_n C dX1_markParents_0 rfl ?_
  refine j_aload_n C dX1_markParents_1 rfl ?_
  refine j_iload_n C dX1_markParents_2 rfl ?_
  refine q_callV C (sp_X1_firstParent G _ hn h60 hc) vX1_firstParent lk_X1_73 rfl (by decide) rfl rfl (Nat.le_of_ble_eq_true rfl) (by decide) dX1_markParents_3 ?_
  rw [h5]
  refine j_aload_n C dX1_markParents_6 rfl ?_
  refine j_iload_n C dX1_markParents_7 rfl ?_
  refine q_callV C (sp_X1_marksAt G _ hn h60 hc) vX1_marksAt lk_X1_106 rfl (by decide) rfl rfl (Nat.le_of_ble_eq_true rfl) (by decide) dX1_markParents_8 ?_
  refine q_callV C (sp_X1_mark_o G _ hn h60 (fp c) k5 _) vX1_mark lk_X1_98 rfl (by decide) rfl rfl (Nat.le_of_ble_eq_true rfl) (by decide) dX1_markParents_11 ?_
  refine j_aload_n C dX1_markParents_14 rfl ?_
  refine j_aload_n C dX1_markParents_15 rfl ?_
  refine j_iload_n C dX1_markParents_16 rfl ?_
  refine q_callV C (sp_X1_secondParent G _ (n := n) (by rw [markM_2]; exact hn) h60 hc) vX1_secondParent lk_X1_76 rfl (by decide) rfl rfl (Nat.le_of_ble_eq_true rfl) (by decide) dX1_markParents_17 ?_
  rw [markM_n _ _ _ (by decide), h6]
  refine j_aload_n C dX1_markParents_20 rfl ?_
  refine j_iload_n C dX1_markParents_21 rfl ?_
  refine q_callV C (sp_X1_marksAt G _ (n := n) (by rw [markM_2]; exact hn) h60 hc) vX1_marksAt lk_X1_106 rfl (by decide) rfl rfl (Nat.le_of_ble_eq_true rfl) (by decide) dX1_markParents_22 ?_
  refine q_callV C (sp_X1_mark_o G _ (n := n) (by rw [markM_2]; exact hn) h60 (sp c) k6 _) vX1_mark lk_X1_98 rfl (by decide) rfl rfl (Nat.le_of_ble_eq_true rfl) (by decide) dX1_markParents_25 ?_
  exact q_vret C CM rfl (by decide) (by decide) dX1_markParents_28 rfl
set_option maxHeartbeats 4000000 in
set_option maxRecDepth 100000 in
theorem sp_X1_walkMeets (G : gG) (M : gMem) {n : Nat} (hn : M.2.2.1 1 7 = nI n) (h60 : n ≤ 60) (fp sp : Nat → Option Nat) (hl : gLow fp sp) (h5 : ∀ c, c < n → M.1 5 c = oI (fp c)) (h6 : ∀ c, c < n → M.1 6 c = oI (sp c)) {c a : Nat} (hc : c < n) (ha : a < n) : SpS G mX1_walkMeets (gRm 3 0) [.ref (gb G + 1), .int (nI c), .int (nI a)] M (some (.int (bI (anc fp sp c a)))) (fun M2 => ∃ f, M2 = sI M 9 f) := by
  refine Sp.of (by decide +kernel) (Nat.le_of_ble_eq_true rfl) (fun X C CM => ?_)
  have C : gC G X RX1 cX1_walkMeets 4 (gRm 3 0) := C
  refine j_aload_n C dX1_walkMeets_0 rfl ?_
  refine q_callV C (sp_X1_clearMarks G M) vX1_clearMarks lk_X1_95 rfl (by decide) rfl rfl (Nat.le_of_ble_eq_true rfl) (by decide) dX1_walkMeets_1 ?_
  refine j_aload_n C dX1_walkMeets_4 rfl ?_
  refine j_iload_n C dX1_walkMeets_5 rfl ?_
  refine j_iconst C (v := nI 1) dX1_walkMeets_6 rfl ?_
  refine q_callV C (sp_X1_mark G _ (n := n) (by exact hn) h60 hc (nI 1)) vX1_mark lk_X1_98 rfl (by decide) rfl rfl (Nat.le_of_ble_eq_true rfl) (by decide) dX1_walkMeets_7 ?_
  refine j_aload_n C dX1_walkMeets_10 rfl ?_
  refine q_get C fX1 7 rfl (by decide) (by decide) lf_X1_39 rfl rfl dX1_walkMeets_11 ?_
  rw [show (sI (sI M 9 (cpF (fun _ => nI 0) (M.1 9) 60)) 9 (upd ((sI M 9 (cpF (fun _ => nI 0) (M.1 9) 60)).1 9) c ((sI M 9 (cpF (fun _ => nI 0) (M.1 9) 60)).1 9 c ||| nI 1))).2.2.1 1 7 = nI n from hn]
  refine j_iconst C (v := nI 1) dX1_walkMeets_14 rfl ?_
  refine q_isub C (by omega) dX1_walkMeets_15 ?_
  refine j_istore_n C dX1_walkMeets_16 (by decide) rfl ?_
  have K17 : ∀ i, i ≤ n → ∀ f, gMk fp sp n (some c) none i f → Q G X 0 0 17 [some (.ref (gb G + 1)), some (.int (nI c)), some (.int (nI a)), some (.int (pI i))] [] (sI M 9 f) := by
    refine g_dn _ ?_ (fun i ih => ?_)
    · intro hi
      intro f hf
      refine j_iload_n C dX1_walkMeets_17 rfl ?_
      refine j_if_lt C 32 dX1_walkMeets_18 (fun _ => ?_) (fun h => absurd (by decide) h) (by decide)
      refine j_aload_n C dX1_walkMeets_32 rfl ?_
      refine j_iload_n C dX1_walkMeets_33 rfl ?_
      refine q_callV C (sp_X1_marksAt G _ (n := n) (by exact hn) h60 ha) vX1_marksAt lk_X1_106 rfl (by decide) rfl rfl (Nat.le_of_ble_eq_true rfl) (by decide) dX1_walkMeets_34 ?_
      rw [sI_s, gMk_one hl hf ha]
      refine j_iconst C (v := nI 1) dX1_walkMeets_37 rfl ?_
      refine j_icmp_ne C 45 dX1_walkMeets_38 (fun h38 => ?_) (fun h38 => ?_) (by decide)
      · refine j_iconst C (v := nI 0) dX1_walkMeets_45 rfl ?_
        exact q_zretS C CM rfl (by decide) (by decide) dX1_walkMeets_46 (by first | exact ne_1 h38 | exact h38.symm) ⟨_, rfl⟩
      · refine j_iconst C (v := nI 1) dX1_walkMeets_41 rfl ?_
        refine j_goto C 46 dX1_walkMeets_42 ?_ (by decide)
        exact q_zretS C CM rfl (by decide) (by decide) dX1_walkMeets_46 (by first | exact ne_1 h38 | exact h38.symm) ⟨_, rfl⟩
    · intro hi
      intro f hf
      refine q_cast (lv' := [some (.ref (gb G + 1)), some (.int (nI c)), some (.int (nI a)), some (.int (nI i))]) ?_ (gLe_c rfl (gLe_c rfl (gLe_c rfl (gLe_c rfl gLe_0)))) rfl
      refine j_iload_n C dX1_walkMeets_17 rfl ?_
      refine j_if_lt C 32 dX1_walkMeets_18 (fun h => absurd h (nI_pos (by omega))) (fun _ => ?_) (by decide)
      refine j_aload_n C dX1_walkMeets_21 rfl ?_
      refine j_iload_n C dX1_walkMeets_22 rfl ?_
      refine q_callV C (sp_X1_markParents G _ (n := n) (by exact hn) h60 fp sp (c := i) (by omega) (by exact h5 i (by omega)) (by exact h6 i (by omega)) (fun k hk => Nat.lt_trans (hl.1 _ _ hk) (by omega)) (fun k hk => Nat.lt_trans (hl.2 _ _ hk) (by omega))) vX1_markParents lk_X1_102 rfl (by decide) rfl rfl (Nat.le_of_ble_eq_true rfl) (by decide) dX1_walkMeets_23 ?_
      refine j_iinc C dX1_walkMeets_26 rfl (by decide) rfl ?_
      refine j_goto C 17 dX1_walkMeets_29 ?_ (by decide)
      exact q_cast (ih (by omega) _ (gMk_step hl (by omega) hf)) (gLe_c rfl (gLe_c rfl (gLe_c rfl (gLe_c (by rw [pI_dec]) gLe_0)))) (by simp only [sI_s, markM_s])
  exact q_cast (K17 n (by omega) _ (gMk_n1 (z := cpF (fun _ => nI 0) (M.1 9) 60) hl (fun x hx => cpF_lt (show x < 60 by omega)) hc)) (gLe_c rfl (gLe_c rfl (gLe_c rfl (gLe_c (by rw [pI_sub (by omega)]) gLe_0)))) (by rw [sI_s, sI_sI])
set_option maxHeartbeats 4000000 in
set_option maxRecDepth 100000 in
theorem sp_X1_walkToBestBase (G : gG) (M : gMem) {n : Nat} (hn : M.2.2.1 1 7 = nI n) (h60 : n ≤ 60) (fp sp : Nat → Option Nat) (hl : gLow fp sp) (h5 : ∀ c, c < n → M.1 5 c = oI (fp c)) (h6 : ∀ c, c < n → M.1 6 c = oI (sp c)) {c o : Nat} (hc : c < n) (ho : o < n) : SpS G mX1_walkToBestBase (gRm 3 0) [.ref (gb G + 1), .int (nI c), .int (nI o)] M (some (.int (oI (lastN (fun j => (anc fp sp c j && anc fp sp o j)) n)))) (fun M2 => ∃ f, M2 = sI M 9 f) := by
  refine Sp.of (by decide +kernel) (Nat.le_of_ble_eq_true rfl) (fun X C CM => ?_)
  have C : gC G X RX1 cX1_walkToBestBase 4 (gRm 3 0) := C
  refine j_aload_n C dX1_walkToBestBase_0 rfl ?_
  refine q_callV C (sp_X1_clearMarks G M) vX1_clearMarks lk_X1_95 rfl (by decide) rfl rfl (Nat.le_of_ble_eq_true rfl) (by decide) dX1_walkToBestBase_1 ?_
  refine j_aload_n C dX1_walkToBestBase_4 rfl ?_
  refine j_iload_n C dX1_walkToBestBase_5 rfl ?_
  refine j_iconst C (v := nI 1) dX1_walkToBestBase_6 rfl ?_
  refine q_callV C (sp_X1_mark G _ (n := n) (by exact hn) h60 hc (nI 1)) vX1_mark lk_X1_98 rfl (by decide) rfl rfl (Nat.le_of_ble_eq_true rfl) (by decide) dX1_walkToBestBase_7 ?_
  refine j_aload_n C dX1_walkToBestBase_10 rfl ?_
  refine j_iload_n C dX1_walkToBestBase_11 rfl ?_
  refine j_iconst C (v := nI 2) dX1_walkToBestBase_12 rfl ?_
  rw [sI_s, sI_sI]
  refine q_callV C (sp_X1_mark G _ (n := n) (by exact hn) h60 ho (nI 2)) vX1_mark lk_X1_98 rfl (by decide) rfl rfl (Nat.le_of_ble_eq_true rfl) (by decide) dX1_walkToBestBase_13 ?_
  refine j_aload_n C dX1_walkToBestBase_16 rfl ?_
  refine q_get C fX1 7 rfl (by decide) (by decide) lf_X1_39 rfl rfl dX1_walkToBestBase_17 ?_
  rw [sI_s, sI_sI, sI_2, hn]
  refine j_iconst C (v := nI 1) dX1_walkToBestBase_20 rfl ?_
  refine q_isub C (by omega) dX1_walkToBestBase_21 ?_
  refine j_istore_n C dX1_walkToBestBase_22 (by decide) rfl ?_
  have K23 : ∀ i, i ≤ n → ∀ f, gMk fp sp n (some c) (some o) i f → (∀ j, i ≤ j → j < n → (anc fp sp c j && anc fp sp o j) = false) → Q G X 0 0 23 [some (.ref (gb G + 1)), some (.int (nI c)), some (.int (nI o)), some (.int (pI i))] [] (sI M 9 f) := by
    refine g_dn _ ?_ (fun i ih => ?_)
    · intro hi
      intro f hf hm
      refine j_iload_n C dX1_walkToBestBase_23 rfl ?_
      refine j_if_lt C 49 dX1_walkToBestBase_24 (fun _ => ?_) (fun h => absurd (by decide) h) (by decide)
      refine j_iconst C (v := -1) dX1_walkToBestBase_49 rfl ?_
      exact q_iretS C CM rfl (by decide) (by decide) dX1_walkToBestBase_50 (by rw [last_skip (fun j h1 h2 => hm j h1 h2) (Nat.zero_le _)]; rfl) ⟨_, rfl⟩
    · intro hi
      intro f hf hm
      refine q_cast (lv' := [some (.ref (gb G + 1)), some (.int (nI c)), some (.int (nI o)), some (.int (nI i))]) ?_ (gLe_c rfl (gLe_c rfl (gLe_c rfl (gLe_c rfl gLe_0)))) rfl
      refine j_iload_n C dX1_walkToBestBase_23 rfl ?_
      refine j_if_lt C 49 dX1_walkToBestBase_24 (fun h => absurd h (nI_pos (by omega))) (fun _ => ?_) (by decide)
      refine j_aload_n C dX1_walkToBestBase_27 rfl ?_
      refine j_iload_n C dX1_walkToBestBase_28 rfl ?_
      refine q_callV C (sp_X1_marksAt G _ (n := n) (by exact hn) h60 (show i < n by omega)) vX1_marksAt lk_X1_106 rfl (by decide) rfl rfl (Nat.le_of_ble_eq_true rfl) (by decide) dX1_walkToBestBase_29 ?_
      rw [sI_s, gMk_at hl (show i < n by omega) hf]
      refine j_iconst C (v := nI 3) dX1_walkToBestBase_32 rfl ?_
      refine j_icmp_ne C 38 dX1_walkToBestBase_33 (fun h33 => ?_) (fun h33 => ?_) (by decide)
      · refine j_aload_n C dX1_walkToBestBase_38 rfl ?_
        refine j_iload_n C dX1_walkToBestBase_39 rfl ?_
        refine q_callV C (sp_X1_markParents G _ (n := n) (by exact hn) h60 fp sp (c := i) (by omega) (by exact h5 i (by omega)) (by exact h6 i (by omega)) (fun k hk => Nat.lt_trans (hl.1 _ _ hk) (by omega)) (fun k hk => Nat.lt_trans (hl.2 _ _ hk) (by omega))) vX1_markParents lk_X1_102 rfl (by decide) rfl rfl (Nat.le_of_ble_eq_true rfl) (by decide) dX1_walkToBestBase_40 ?_
        refine j_iinc C dX1_walkToBestBase_43 rfl (by decide) rfl ?_
        refine j_goto C 23 dX1_walkToBestBase_46 ?_ (by decide)
        exact q_cast (ih (by omega) _ (gMk_step hl (by omega) hf) (fun j h1 h2 => if e : j = i then (by rw [e]; exact Bool.eq_false_iff.mpr (fun q => h33 (mk_3.mpr q))) else hm j (by omega) h2)) (gLe_c rfl (gLe_c rfl (gLe_c rfl (gLe_c (by rw [pI_dec]) gLe_0)))) (by simp only [sI_s, markM_s])
      · refine j_iload_n C dX1_walkToBestBase_36 rfl ?_
        exact q_iretS C CM rfl (by decide) (by decide) dX1_walkToBestBase_37 (by rw [last_some.mpr ⟨show i < n by omega, mk_3.mp h33, fun j h1 h2 => hm j h1 h2⟩]; rfl) ⟨_, rfl⟩
  exact q_cast (K23 n (by omega) _ (gMk_n2 hl (gMk_n1 (z := cpF (fun _ => nI 0) (M.1 9) 60) hl (fun x hx => cpF_lt (show x < 60 by omega)) hc) ho) (fun j h1 h2 => absurd h1 (by omega))) (gLe_c rfl (gLe_c rfl (gLe_c rfl (gLe_c (by rw [pI_sub (by omega)]) gLe_0)))) (by rfl)
set_option maxHeartbeats 4000000 in
set_option maxRecDepth 100000 in
theorem sp_X1_lastChangeAt (G : gG) (M : gMem) {n : Nat} (hn : M.2.2.1 1 7 = nI n) (h60 : n ≤ 60) (fp : Nat → Option Nat) (hl : ∀ c q, fp c = some q → q < c) (h5 : ∀ c, c < n → M.1 5 c = oI (fp c)) {p h : Nat} (hp : p < 8) (hh : h < n) : SpR G mX1_lastChangeAt (gRm 2 0) [.ref (gb G + 1), .int (nI p), .int (nI h)] M (some (.int (oI (lch (fun c q => decide (¬ M.1 (10 + 2 * c + 1) p = M.1 (10 + 2 * q + 1) p)) fp 60 h)))) M := by
  refine Sp.of (by decide +kernel) (Nat.le_of_ble_eq_true rfl) (fun X C CM => ?_)
  have C : gC G X RX1 cX1_lastChangeAt 6 (gRm 2 0) := C
  refine j_iload_n C dX1_lastChangeAt_0 rfl ?_
  refine j_istore_n C dX1_lastChangeAt_1 (by decide) rfl ?_
  refine j_iconst C (v := nI 0) dX1_lastChangeAt_2 rfl ?_
  refine j_istore C dX1_lastChangeAt_3 (by decide) rfl ?_
  have K5 : ∀ i, i ≤ 60 → ∀ c, c < n → lch (fun c q => decide (¬ M.1 (10 + 2 * c + 1) p = M.1 (10 + 2 * q + 1) p)) fp (60 - i) c = lch (fun c q => decide (¬ M.1 (10 + 2 * c + 1) p = M.1 (10 + 2 * q + 1) p)) fp 60 h → Q G X 0 0 5 [some (.ref (gb G + 1)), some (.int (nI p)), some (.int (nI h)), some (.int (nI c)), some (.int (nI i)), none] [] (M) := by
    refine g_up _ _ (fun i hi ih => ?_)
    intro c hc he
    refine j_iload C dX1_lastChangeAt_5 rfl ?_
    refine j_bipush C (v := nI 60) dX1_lastChangeAt_7 rfl ?_
    refine q_icmp_ge C 61 dX1_lastChangeAt_9 (by decide) (by omega) (by omega) (fun h9 => ?_) (fun h9 => ?_)
    · refine j_iconst C (v := -1) dX1_lastChangeAt_61 rfl ?_
      exact q_iret C CM rfl (by decide) (by decide) dX1_lastChangeAt_62 (by first | (rw [← he, lch_none h18]; rfl) | (rw [← he, show 60 - i = 0 by omega]; rfl)) rfl
    · refine j_aload_n C dX1_lastChangeAt_12 rfl ?_
      refine j_iload_n C dX1_lastChangeAt_13 rfl ?_
      refine q_callV C (sp_X1_firstParent G _ hn h60 hc) vX1_firstParent lk_X1_73 rfl (by decide) rfl rfl (Nat.le_of_ble_eq_true rfl) (by decide) dX1_lastChangeAt_14 ?_
      rw [h5 c hc]
      refine j_iconst C (v := -1) dX1_lastChangeAt_17 rfl ?_
      refine q_icmp_eqN C 61 dX1_lastChangeAt_18 (by decide) (fun v hv => by have := hl _ _ hv; omega) (fun h18 => ?_) (fun v18 h18 => ?_)
      · refine j_iconst C (v := -1) dX1_lastChangeAt_61 rfl ?_
        exact q_iret C CM rfl (by decide) (by decide) dX1_lastChangeAt_62 (by first | (rw [← he, lch_none h18]; rfl) | (rw [← he, show 60 - i = 0 by omega]; rfl)) rfl
      · refine j_aload_n C dX1_lastChangeAt_21 rfl ?_
        refine j_iload_n C dX1_lastChangeAt_22 rfl ?_
        refine q_callV C (sp_X1_firstParent G _ hn h60 hc) vX1_firstParent lk_X1_73 rfl (by decide) rfl rfl (Nat.le_of_ble_eq_true rfl) (by decide) dX1_lastChangeAt_23 ?_
        rw [h5 c hc, h18, show oI (some v18) = nI v18 from rfl]
        have hv : v18 < n := Nat.lt_trans (hl _ _ h18) hc
        refine j_istore C dX1_lastChangeAt_26 (by decide) rfl ?_
        refine j_aload_n C dX1_lastChangeAt_28 rfl ?_
        refine j_iload_n C dX1_lastChangeAt_29 rfl ?_
        refine q_callV C (sp_X1_treeOf G _ hn h60 hc) vX1_treeOf lk_X1_51 rfl (by decide) rfl rfl (Nat.le_of_ble_eq_true rfl) (by decide) dX1_lastChangeAt_30 ?_
        refine j_iload_n C dX1_lastChangeAt_33 rfl ?_
        refine q_callV C (sp_X4_at G _ (gTr_c (show c < 60 by omega)) hp) vX4_at lk_X1_109 (gTr_c (show c < 60 by omega)).1 (gTr_lt (gTr_c (show c < 60 by omega))) rfl rfl (Nat.le_of_ble_eq_true rfl) (by decide) dX1_lastChangeAt_34 ?_
        refine j_aload_n C dX1_lastChangeAt_37 rfl ?_
        refine j_iload C dX1_lastChangeAt_38 rfl ?_
        refine q_callV C (sp_X1_treeOf G _ hn h60 hv) vX1_treeOf lk_X1_51 rfl (by decide) rfl rfl (Nat.le_of_ble_eq_true rfl) (by decide) dX1_lastChangeAt_40 ?_
        refine j_iload_n C dX1_lastChangeAt_43 rfl ?_
        refine q_callV C (sp_X4_at G _ (gTr_c (show v18 < 60 by omega)) hp) vX4_at lk_X1_109 (gTr_c (show v18 < 60 by omega)).1 (gTr_lt (gTr_c (show v18 < 60 by omega))) rfl rfl (Nat.le_of_ble_eq_true rfl) (by decide) dX1_lastChangeAt_44 ?_
        refine j_icmp_eq C 52 dX1_lastChangeAt_47 (fun h47 => ?_) (fun h47 => ?_) (by decide)
        · refine j_iload C dX1_lastChangeAt_52 rfl ?_
          refine j_istore_n C dX1_lastChangeAt_54 (by decide) rfl ?_
          refine q_iinc C dX1_lastChangeAt_55 rfl (by decide) rfl ?_
          refine j_goto C 5 dX1_lastChangeAt_58 ?_ (by decide)
          exact q_cast (ih (by omega) _ hv (by rw [← he, show 60 - i = (60 - (i + 1)) + 1 by omega, lch_go h18 (decide_eq_false (fun q => q h47))])) (gLe_c rfl (gLe_c rfl (gLe_c rfl (gLe_c rfl (gLe_c rfl (gLe_n gLe_0)))))) (rfl)
        · refine j_iload_n C dX1_lastChangeAt_50 rfl ?_
          exact q_iret C CM rfl (by decide) (by decide) dX1_lastChangeAt_51 (by rw [← he, show 60 - i = (60 - (i + 1)) + 1 by omega, lch_hit h18 (decide_eq_true h47)]; rfl) rfl
  exact q_cast (K5 0 (by omega) h hh rfl) (gLe_c rfl (gLe_c rfl (gLe_c rfl (gLe_c rfl (gLe_c rfl (gLe_n gLe_0)))))) (rfl)
set_option maxHeartbeats 4000000 in
set_option maxRecDepth 100000 in
theorem sp_X1_countBases (G : gG) (M : gMem) {n : Nat} (hn : M.2.2.1 1 7 = nI n) (h60 : n ≤ 60) {c o : Nat} (hc : c < n) (ho : o < n) : SpR G mX1_countBases (gRm 2 0) [.ref (gb G + 1), .int (nI c), .int (nI o)] M (some (.int (nI (cntN (fun x => (fun k => tb (M.2.1 8 c) k && tb (M.2.1 8 o) k) x && !surN (fun k => tb (M.2.1 8 c) k && tb (M.2.1 8 o) k) (M.2.1 8) n x) 64)))) M := by
  refine Sp.of (by decide +kernel) (Nat.le_of_ble_eq_true rfl) (fun X C CM => ?_)
  have C : gC G X RX1 cX1_countBases 8 (gRm 2 0) := C
  refine j_aload_n C dX1_countBases_0 rfl ?_
  refine j_iload_n C dX1_countBases_1 rfl ?_
  refine q_callV C (sp_X1_ancestorsAt G _ hn h60 hc) vX1_ancestorsAt lk_X1_69 rfl (by decide) rfl rfl (Nat.le_of_ble_eq_true rfl) (by decide) dX1_countBases_2 ?_
  refine j_aload_n C dX1_countBases_5 rfl ?_
  refine j_iload_n C dX1_countBases_6 rfl ?_
  refine q_callV C (sp_X1_ancestorsAt G _ hn h60 ho) vX1_ancestorsAt lk_X1_69 rfl (by decide) rfl rfl (Nat.le_of_ble_eq_true rfl) (by decide) dX1_countBases_7 ?_
  refine j_land C dX1_countBases_10 ?_
  refine j_lstore_n C dX1_countBases_11 (by decide) rfl ?_
  refine j_lconst C (v := 0) dX1_countBases_12 rfl ?_
  refine j_lstore C dX1_countBases_13 (by decide) rfl ?_
  refine j_iconst C (v := nI 0) dX1_countBases_15 rfl ?_
  refine j_istore C dX1_countBases_16 (by decide) rfl ?_
  have K18 : ∀ i, i ≤ n → ∀ s, (∀ x, x < 64 → tb s x = surN (fun k => tb (M.2.1 8 c) k && tb (M.2.1 8 o) k) (M.2.1 8) i x) → Q G X 0 0 18 [some (.ref (gb G + 1)), some (.int (nI c)), some (.int (nI o)), some (.long (M.2.1 8 c &&& M.2.1 8 o)), none, some (.long s), none, some (.int (nI i))] [] (M) := by
    refine g_up _ _ (fun i hi ih => ?_)
    intro s hs
    refine j_iload C dX1_countBases_18 rfl ?_
    refine j_aload_n C dX1_countBases_20 rfl ?_
    refine q_get C fX1 7 rfl (by decide) (by decide) lf_X1_39 rfl rfl dX1_countBases_21 ?_
    rw [hn]
    refine q_icmp_ge C 63 dX1_countBases_24 (by decide) (by omega) (by omega) (fun h24 => ?_) (fun h24 => ?_)
    · refine j_lload_n C dX1_countBases_63 rfl ?_
      refine j_lload C dX1_countBases_64 rfl ?_
      refine j_ldc2 C (-1) ll_X1_87 dX1_countBases_66 ?_
      refine j_lxor C dX1_countBases_69 ?_
      refine j_land C dX1_countBases_70 ?_
      refine q_callS C (sp_J13_bitCount_95d88 G _ _) vJ13_bitCount_95d88 lk_X1_89 rfl rfl (Nat.le_of_ble_eq_true rfl) (by decide) dX1_countBases_71 ?_
      rw [bcL_eq]
      exact q_iret C CM rfl (by decide) (by decide) dX1_countBases_74 (by rw [show i = n by omega] at hs; exact congrArg nI (cnt_congr (fun x hx => by rw [tb_and, tb_and, tb_not _ hx, hs x hx]))) rfl
    · refine j_aload_n C dX1_countBases_27 rfl ?_
      refine j_lload_n C dX1_countBases_28 rfl ?_
      refine j_iload C dX1_countBases_29 rfl ?_
      refine q_callV C (sp_X1_isIn G _ hn h60 _ h24) vX1_isIn lk_X1_83 rfl (by decide) rfl rfl (Nat.le_of_ble_eq_true rfl) (by decide) dX1_countBases_31 ?_
      refine q_if_eq0 C 57 dX1_countBases_34 (by decide) (fun h34 => ?_) (fun h34 => ?_)
      · refine q_iinc C dX1_countBases_57 rfl (by decide) rfl ?_
        refine j_goto C 18 dX1_countBases_60 ?_ (by decide)
        exact q_cast (ih (by omega) _ (by intro x hx; rw [tb_and] at h34; rw [sur_s]; first | (rw [tb_cut _ _ (show i < 64 by omega) hx, hs x hx]; simp only [h34, Bool.true_and]; done) | (rw [hs x hx]; simp only [h34, Bool.false_and, Bool.or_false]; done))) (gLe_c rfl (gLe_c rfl (gLe_c rfl (gLe_c rfl (gLe_n (gLe_c rfl (gLe_n (gLe_c rfl gLe_0)))))))) (rfl)
      · refine j_lload C dX1_countBases_37 rfl ?_
        refine j_aload_n C dX1_countBases_39 rfl ?_
        refine j_iload C dX1_countBases_40 rfl ?_
        refine q_callV C (sp_X1_ancestorsAt G _ hn h60 h24) vX1_ancestorsAt lk_X1_69 rfl (by decide) rfl rfl (Nat.le_of_ble_eq_true rfl) (by decide) dX1_countBases_42 ?_
        refine j_lconst C (v := 1) dX1_countBases_45 rfl ?_
        refine j_iload C dX1_countBases_46 rfl ?_
        refine j_lshl C dX1_countBases_48 ?_
        refine j_ldc2 C (-1) ll_X1_87 dX1_countBases_49 ?_
        refine j_lxor C dX1_countBases_52 ?_
        refine j_land C dX1_countBases_53 ?_
        refine j_lor C dX1_countBases_54 ?_
        refine j_lstore C dX1_countBases_55 (by decide) rfl ?_
        refine q_iinc C dX1_countBases_57 rfl (by decide) rfl ?_
        refine j_goto C 18 dX1_countBases_60 ?_ (by decide)
        exact q_cast (ih (by omega) _ (by intro x hx; rw [tb_and] at h34; rw [sur_s]; first | (rw [tb_cut _ _ (show i < 64 by omega) hx, hs x hx]; simp only [h34, Bool.true_and]; done) | (rw [hs x hx]; simp only [h34, Bool.false_and, Bool.or_false]; done))) (gLe_c rfl (gLe_c rfl (gLe_c rfl (gLe_c rfl (gLe_n (gLe_c rfl (gLe_n (gLe_c rfl gLe_0)))))))) (rfl)
  exact q_cast (K18 0 (by omega) _ (fun x hx => tb_0 x)) (gLe_c rfl (gLe_c rfl (gLe_c rfl (gLe_c rfl (gLe_n (gLe_c rfl (gLe_n (gLe_c rfl gLe_0)))))))) (rfl)
