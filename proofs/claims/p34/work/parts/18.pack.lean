/-! packing -/
def vN (f : Nat → Nat) (k x : Nat) : Nat → Nat := fun i => if i = k then x else f i
theorem vN_s (f : Nat → Nat) (k x : Nat) : vN f k x k = x := if_pos rfl
theorem vN_n (f : Nat → Nat) {k j : Nat} (x : Nat) (h : j ≠ k) : vN f k x j = f j := if_neg h
/-- how many, contents, sizes, depths, from where -/
abbrev gPk : Type := Nat × (Nat → Nat) × (Nat → Nat) × (Nat → Nat) × (Nat → Option Nat)
def pkB (P : gPk) (c : Nat) : Nat → Option Nat × Nat
  | 0 => (none, 4)
  | k + 1 => if P.2.2.2.1 k ≤ 2 ∧ 5 - like (P.2.1 k) c < (pkB P c k).2 then (some k, 5 - like (P.2.1 k) c) else pkB P c k
def pkF (P : gPk) (v : Int32) : Option Nat := firstN (fun k => decide (nI (P.2.1 k) = v)) P.1
def pkD (P : gPk) (o : Option Nat) : Nat := match o with
  | none => 0
  | some b => P.2.2.2.1 b + 1
def pkA (P : gPk) (c : Nat) : gPk := if (pkF P (nI c)).isSome = true then P else (P.1 + 1, vN P.2.1 P.1 c, vN P.2.2.1 P.1 (pkB P c P.1).2, vN P.2.2.2.1 P.1 (pkD P (pkB P c P.1).1), uO P.2.2.2.2 P.1 (pkB P c P.1).1)
def pkO (P : gPk) (o : Option Nat) : gPk := match o with
  | none => P
  | some c => pkA P c
def pkT (P : gPk) (t : Nat → Option Nat) : Nat → gPk
  | 0 => P
  | p + 1 => pkO (pkT P t p) (t p)
def pkN (T : Nat → Nat → Option Nat) : Nat → gPk
  | 0 => (0, fun _ => 0, fun _ => 0, fun _ => 0, fun _ => none)
  | c + 1 => pkT (pkN T c) (T c) 8
def gPi (P : gPk) : Prop := ∀ k, k < P.1 → P.2.1 k < 10000 ∧ P.2.2.1 k ≤ 4 ∧ P.2.2.2.1 k ≤ 3 ∧ ∀ j, P.2.2.2.2 k = some j → j < k
theorem pkB_no {P : gPk} {c k : Nat} (h : 2 < P.2.2.2.1 k ∨ (pkB P c k).2 ≤ 5 - like (P.2.1 k) c) : pkB P c (k + 1) = pkB P c k := if_neg (by rcases h with h | h <;> omega)
theorem pkB_go {P : gPk} {c k : Nat} (h1 : P.2.2.2.1 k ≤ 2) (h2 : 5 - like (P.2.1 k) c < (pkB P c k).2) : pkB P c (k + 1) = (some k, 5 - like (P.2.1 k) c) := if_pos ⟨h1, h2⟩
theorem pkB_ok (P : gPk) (c : Nat) : ∀ k, (pkB P c k).2 ≤ 4 ∧ ∀ b, (pkB P c k).1 = some b → b < k ∧ P.2.2.2.1 b ≤ 2 := by
  intro k
  induction k with
  | zero => exact ⟨Nat.le_refl _, fun b h => by cases h⟩
  | succ k ih =>
    by_cases h : P.2.2.2.1 k ≤ 2 ∧ 5 - like (P.2.1 k) c < (pkB P c k).2
    · rw [pkB_go h.1 h.2]
      refine ⟨by have := ih.1; have := h.2; show 5 - like (P.2.1 k) c ≤ 4; omega, fun b hb => ?_⟩
      cases hb
      exact ⟨by omega, h.1⟩
    · rw [show pkB P c (k + 1) = pkB P c k from if_neg h]
      exact ⟨ih.1, fun b hb => ⟨by have := (ih.2 b hb).1; omega, (ih.2 b hb).2⟩⟩
theorem pkA_old {P : gPk} {c k : Nat} (h : pkF P (nI c) = some k) : pkA P c = P := if_pos (by rw [h]; rfl)
theorem pkA_new {P : gPk} {c : Nat} (h : pkF P (nI c) = none) : pkA P c = (P.1 + 1, vN P.2.1 P.1 c, vN P.2.2.1 P.1 (pkB P c P.1).2, vN P.2.2.2.1 P.1 (pkD P (pkB P c P.1).1), uO P.2.2.2.2 P.1 (pkB P c P.1).1) := if_neg (by rw [h]; decide)
theorem pkA_pi {P : gPk} {c : Nat} (h : gPi P) (hc : c < 10000) : gPi (pkA P c) := by
  cases hf : pkF P (nI c) with
  | some k => rw [pkA_old hf]; exact h
  | none =>
    rw [pkA_new hf]
    intro k hk
    have hk : k < P.1 + 1 := hk
    show vN P.2.1 P.1 c k < 10000 ∧ vN P.2.2.1 P.1 (pkB P c P.1).2 k ≤ 4 ∧ vN P.2.2.2.1 P.1 (pkD P (pkB P c P.1).1) k ≤ 3 ∧ ∀ j, uO P.2.2.2.2 P.1 (pkB P c P.1).1 k = some j → j < k
    by_cases e : k = P.1
    · rw [e, vN_s, vN_s, vN_s, uO_s]
      refine ⟨hc, (pkB_ok P c P.1).1, ?_, fun j hj => ((pkB_ok P c P.1).2 j hj).1⟩
      cases hb : (pkB P c P.1).1 with
      | none => exact Nat.zero_le _
      | some b => exact Nat.succ_le_succ ((pkB_ok P c P.1).2 b hb).2
    · rw [vN_n _ _ e, vN_n _ _ e, vN_n _ _ e, uO_n _ _ e]
      exact h k (by omega)
theorem pkA_le (P : gPk) (c : Nat) : (pkA P c).1 ≤ P.1 + 1 := by
  cases hf : pkF P (nI c) with
  | some k => rw [pkA_old hf]; omega
  | none => rw [pkA_new hf]; exact Nat.le_refl _
theorem pkO_pi {P : gPk} {o : Option Nat} (h : gPi P) (hc : ∀ c, o = some c → c < 10000) : gPi (pkO P o) := by
  cases o with
  | none => exact h
  | some c => exact pkA_pi h (hc c rfl)
theorem pkO_le (P : gPk) (o : Option Nat) : (pkO P o).1 ≤ P.1 + 1 := by
  cases o with
  | none => exact Nat.le_succ _
  | some c => exact pkA_le P c
theorem pkT_pi {P : gPk} {t : Nat → Option Nat} (h : gPi P) (ht : gTn t) : ∀ {p}, p ≤ 8 → gPi (pkT P t p) ∧ (pkT P t p).1 ≤ P.1 + p := by
  intro p
  induction p with
  | zero => intro _; exact ⟨h, Nat.le_refl _⟩
  | succ p ih =>
    intro hp
    have := ih (by omega)
    exact ⟨pkO_pi this.1 (fun c hc => ht p c (by omega) hc), Nat.le_trans (pkO_le _ _) (by omega)⟩
theorem pkN_pi {T : Nat → Nat → Option Nat} {n : Nat} (hT : ∀ c, c < n → gTn (T c)) : ∀ {c}, c ≤ n → gPi (pkN T c) ∧ (pkN T c).1 ≤ 8 * c := by
  intro c
  induction c with
  | zero => intro _; exact ⟨fun k hk => absurd hk (Nat.not_lt_zero _), Nat.le_refl _⟩
  | succ c ih =>
    intro hc
    have h1 := ih (by omega)
    have h2 := pkT_pi h1.1 (hT c (by omega)) (Nat.le_refl 8)
    exact ⟨h2.1, Nat.le_trans h2.2 (by omega)⟩
theorem pkN_congr {T T' : Nat → Nat → Option Nat} {n : Nat} (h : ∀ c, c < n → T c = T' c) : pkN T n = pkN T' n := by
  induction n with
  | zero => rfl
  | succ n ih =>
    show pkT (pkN T n) (T n) 8 = pkT (pkN T' n) (T' n) 8
    rw [ih (fun c hc => h c (by omega)), h n (by omega)]
def lI (n : Nat) : Int64 := Int64.ofNat n
theorem lI_add (a b : Nat) : lI a + lI b = lI (a + b) := (Int64.ofNat_add a b).symm
theorem lI_4 {x : Nat} (h : x ≤ 4) : (nI x).toInt64 = lI x := by
  match x, h with
  | 0, _ => decide
  | 1, _ => decide
  | 2, _ => decide
  | 3, _ => decide
  | 4, _ => decide
theorem sum_s (f : Nat → Nat) (n : Nat) : sumN f (n + 1) = sumN f n + f n := rfl
/-- the class's pack holds P -/
def gPq (P : gPk) (M : gMem) : Prop := M.2.2.1 148 3 = nI P.1 ∧ M.2.2.2.1 = lI (sumN P.2.2.1 P.1) ∧ ∀ k, k < P.1 → M.1 149 k = nI (P.2.1 k) ∧ M.1 150 k = oI ((P.2.2.2.2 k).map P.2.1) ∧ M.1 151 k = nI (P.2.2.2.1 k)
/-- only the pack differs -/
def gSp (M M' : gMem) : Prop := M'.2.1 = M.2.1 ∧ M'.2.2.2.2 = M.2.2.2.2 ∧ (∀ o j, o ≠ 148 → M'.2.2.1 o j = M.2.2.1 o j) ∧ ∀ o, o < 149 ∨ 151 < o → M'.1 o = M.1 o
theorem sp_refl (M : gMem) : gSp M M := ⟨rfl, rfl, fun _ _ _ => rfl, fun _ _ => rfl⟩
theorem sp_trans {M M1 M2 : gMem} (h : gSp M M1) (h' : gSp M1 M2) : gSp M M2 := ⟨h'.1.trans h.1, h'.2.1.trans h.2.1, fun o j ho => (h'.2.2.1 o j ho).trans (h.2.2.1 o j ho), fun o ho => (h'.2.2.2 o ho).trans (h.2.2.2 o ho)⟩
theorem sp_sF (M : gMem) (j : Nat) (v : Int32) : gSp M (sF M 148 j v) := ⟨rfl, rfl, fun o j h => by rw [sF_F, if_neg h], fun _ _ => rfl⟩
theorem sF_ne (M : gMem) {o j o' j' : Nat} (v : Int32) (h : ¬ (o' = o ∧ j' = j)) : (sF M o j v).2.2.1 o' j' = M.2.2.1 o' j' := by
  rw [sF_F]
  by_cases e : o' = o
  · rw [if_pos e, if_neg (fun w => h ⟨e, w⟩), e]
  · rw [if_neg e]
theorem pq_sF {P : gPk} {M : gMem} {v : Int32} (h : gPq P M) : gPq P (sF M 148 4 v) := ⟨by rw [sF_ne _ _ (by decide)]; exact h.1, h.2.1, h.2.2⟩
/-- a new content is in -/
def pkM (M : gMem) (n : Nat) (c x y : Int32) (s : Int64) : gMem := sF (sS (sI (sI (sI M 149 (upd (M.1 149) n c)) 150 (upd (M.1 150) n x)) 151 (upd (M.1 151) n y)) s) 148 3 (nI (n + 1))
theorem pkM_149 (M : gMem) (n : Nat) (c x y : Int32) (s : Int64) : (pkM M n c x y s).1 149 = upd (M.1 149) n c := rfl
theorem pkM_150 (M : gMem) (n : Nat) (c x y : Int32) (s : Int64) : (pkM M n c x y s).1 150 = upd (M.1 150) n x := rfl
theorem pkM_151 (M : gMem) (n : Nat) (c x y : Int32) (s : Int64) : (pkM M n c x y s).1 151 = upd (M.1 151) n y := rfl
theorem pkM_sp (M : gMem) (n : Nat) (c x y : Int32) (s : Int64) : gSp M (pkM M n c x y s) ∧ (pkM M n c x y s).2.2.1 148 4 = M.2.2.1 148 4 := by
  refine ⟨⟨rfl, rfl, fun o j h => ?_, fun o h => ?_⟩, ?_⟩
  · unfold pkM
    rw [sF_F, if_neg h]
    rfl
  · unfold pkM
    rw [sF_1, sS_1, sI_n _ _ (by omega), sI_n _ _ (by omega), sI_n _ _ (by omega)]
  · unfold pkM
    rw [sF_ne _ _ (by decide)]
    rfl
theorem pkM_pc {P : gPk} {M : gMem} {c : Nat} {x y : Int32} {s : Int64} (h : gPq P M) (hpi : gPi P) (hf : pkF P (nI c) = none) (hx : x = oI ((pkB P c P.1).1.map P.2.1)) (hy : y = nI (pkD P (pkB P c P.1).1)) (hs : s = lI (sumN P.2.2.1 P.1) + (nI (pkB P c P.1).2).toInt64) : gPq (pkA P c) (pkM M P.1 (nI c) x y s) := by
  rw [pkA_new hf]
  refine ⟨?_, ?_, fun k hk => ?_⟩
  · unfold pkM; rw [sF_at]
  · show s = lI (sumN (vN P.2.2.1 P.1 (pkB P c P.1).2) (P.1 + 1))
    rw [hs, lI_4 (pkB_ok P c P.1).1, lI_add, sum_s, vN_s, sum_congr (fun i hi => vN_n _ _ (by omega))]
  · have hk : k < P.1 + 1 := hk
    show (pkM M P.1 (nI c) x y s).1 149 k = nI (vN P.2.1 P.1 c k) ∧ (pkM M P.1 (nI c) x y s).1 150 k = oI ((uO P.2.2.2.2 P.1 (pkB P c P.1).1 k).map (vN P.2.1 P.1 c)) ∧ (pkM M P.1 (nI c) x y s).1 151 k = nI (vN P.2.2.2.1 P.1 (pkD P (pkB P c P.1).1) k)
    rw [pkM_149, pkM_150, pkM_151]
    have hm : ∀ o : Option Nat, (∀ j, o = some j → j < P.1) → o.map (vN P.2.1 P.1 c) = o.map P.2.1 := fun o ho => by
      cases o with
      | none => rfl
      | some j => show some _ = some _; rw [vN_n _ _ (by have := ho j rfl; omega)]
    by_cases e : k = P.1
    · rw [e, upd_s, upd_s, upd_s, vN_s, uO_s, vN_s, hm _ (fun j hj => ((pkB_ok P c P.1).2 j hj).1), hx, hy]
      exact ⟨rfl, rfl, rfl⟩
    · rw [upd_n _ _ e, upd_n _ _ e, upd_n _ _ e, vN_n _ _ e, uO_n _ _ e, vN_n _ _ e, hm _ (fun j hj => by have := (hpi k (by omega)).2.2.2 j hj; omega)]
      exact h.2.2 k (by omega)
theorem pkF_lt {P : gPk} {v : Int32} {k : Nat} (h : pkF P v = some k) : k < P.1 := (first_some.mp h).1
theorem pkD_n {P : gPk} {o : Option Nat} (h : o = none) : nI 0 = nI (pkD P o) := by rw [h]; rfl
theorem pkD_s {P : gPk} {o : Option Nat} {b : Nat} (h : o = some b) : nI (P.2.2.2.1 b + 1) = nI (pkD P o) := by rw [h]; rfl
set_option maxHeartbeats 4000000 in
set_option maxRecDepth 100000 in
theorem sp_X3_size (G : gG) (M : gMem) : SpR G mX3_size (gRm 0 0) [.ref (gb G + 148)] M (some (.int (M.2.2.1 148 3))) M := by
  refine Sp.of (by decide +kernel) (Nat.le_of_ble_eq_true rfl) (fun X C CM => ?_)
  have C : gC G X RX3 cX3_size 1 (gRm 0 0) := C
  refine j_aload_n C dX3_size_0 rfl ?_
  refine q_get C fX3 3 rfl (by decide) (by decide) lf_X3_21 rfl rfl dX3_size_1 ?_
  exact q_iret C CM rfl (by decide) (by decide) dX3_size_4 rfl rfl
set_option maxHeartbeats 4000000 in
set_option maxRecDepth 100000 in
theorem sp_X3_sumOfSizes (G : gG) (M : gMem) : SpR G mX3_sumOfSizes (gRm 0 0) [.ref (gb G + 148)] M (some (.long M.2.2.2.1)) M := by
  refine Sp.of (by decide +kernel) (Nat.le_of_ble_eq_true rfl) (fun X C CM => ?_)
  have C : gC G X RX3 cX3_sumOfSizes 1 (gRm 0 0) := C
  refine j_aload_n C dX3_sumOfSizes_0 rfl ?_
  refine q_get C fX3 5 rfl (by decide) (by decide) lf_X3_25 rfl rfl dX3_sumOfSizes_1 ?_
  exact q_lret C CM rfl (by decide) (by decide) dX3_sumOfSizes_4 rfl rfl
set_option maxHeartbeats 4000000 in
set_option maxRecDepth 100000 in
theorem sp_X3_hasPlace (G : gG) (M : gMem) {P : gPk} (hP : gPq P M) (hn : P.1 ≤ 480) {k : Nat} (hk : k < P.1) : SpR G mX3_hasPlace (gRm 0 0) [.ref (gb G + 148), .int (nI k)] M (some (.int (bI true))) M := by
  refine Sp.of (by decide +kernel) (Nat.le_of_ble_eq_true rfl) (fun X C CM => ?_)
  have C : gC G X RX3 cX3_hasPlace 2 (gRm 0 0) := C
  refine j_iload_n C dX3_hasPlace_0 rfl ?_
  refine j_if_lt C 16 dX3_hasPlace_1 (fun h => absurd h (nI_pos (by omega))) (fun _ => ?_) (by decide)
  refine j_iload_n C dX3_hasPlace_4 rfl ?_
  refine j_aload_n C dX3_hasPlace_5 rfl ?_
  refine q_get C fX3 3 rfl (by decide) (by decide) lf_X3_21 rfl rfl dX3_hasPlace_6 ?_
  rw [hP.1]
  refine q_icmp_ge C 16 dX3_hasPlace_9 (by decide) (by omega) (by omega) (fun h9 => ?_) (fun h9 => ?_)
  · omega
  · refine j_iconst C (v := nI 1) dX3_hasPlace_12 rfl ?_
    refine j_goto C 17 dX3_hasPlace_13 ?_ (by decide)
    exact q_zret C CM rfl (by decide) (by decide) dX3_hasPlace_17 rfl rfl
set_option maxHeartbeats 4000000 in
set_option maxRecDepth 100000 in
theorem sp_X3_hasPlace_n (G : gG) (M : gMem) : SpR G mX3_hasPlace (gRm 0 0) [.ref (gb G + 148), .int (-1)] M (some (.int (bI false))) M := by
  refine Sp.of (by decide +kernel) (Nat.le_of_ble_eq_true rfl) (fun X C CM => ?_)
  have C : gC G X RX3 cX3_hasPlace 2 (gRm 0 0) := C
  refine j_iload_n C dX3_hasPlace_0 rfl ?_
  refine j_if_lt C 16 dX3_hasPlace_1 (fun _ => ?_) (fun h => absurd (by decide) h) (by decide)
  refine j_iconst C (v := nI 0) dX3_hasPlace_16 rfl ?_
  exact q_zret C CM rfl (by decide) (by decide) dX3_hasPlace_17 rfl rfl
set_option maxHeartbeats 4000000 in
set_option maxRecDepth 100000 in
theorem sp_X3_find (G : gG) (M : gMem) {P : gPk} (hP : gPq P M) (hn : P.1 ≤ 480) (v : Int32) : SpR G mX3_find (gRm 0 0) [.ref (gb G + 148), .int v] M (some (.int (oI (pkF P v)))) M := by
  refine Sp.of (by decide +kernel) (Nat.le_of_ble_eq_true rfl) (fun X C CM => ?_)
  have C : gC G X RX3 cX3_find 3 (gRm 0 0) := C
  refine j_iconst C (v := nI 0) dX3_find_0 rfl ?_
  refine j_istore_n C dX3_find_1 (by decide) rfl ?_
  have K2 : ∀ i, i ≤ P.1 → (∀ k, k < i → decide (nI (P.2.1 k) = v) = false) → Q G X 0 0 2 [some (.ref (gb G + 148)), some (.int v), some (.int (nI i))] [] (M) := by
    refine g_up _ _ (fun i hi ih => ?_)
    intro hm
    refine j_iload_n C dX3_find_2 rfl ?_
    refine j_aload_n C dX3_find_3 rfl ?_
    refine q_get C fX3 3 rfl (by decide) (by decide) lf_X3_21 rfl rfl dX3_find_4 ?_
    rw [hP.1]
    refine q_icmp_ge C 28 dX3_find_7 (by decide) (by omega) (by omega) (fun h7 => ?_) (fun h7 => ?_)
    · refine j_iconst C (v := -1) dX3_find_28 rfl ?_
      exact q_iret C CM rfl (by decide) (by decide) dX3_find_29 (by unfold pkF; rw [first_none.mpr (fun k hk => hm k (by omega))]; rfl) rfl
    · refine j_aload_n C dX3_find_10 rfl ?_
      refine q_get C fX3 0 rfl (by decide) (by decide) lf_X3_9 rfl rfl dX3_find_11 ?_
      refine j_iload_n C dX3_find_14 rfl ?_
      refine q_iald C rfl (by decide) (by decide) (by omega) dX3_find_15 ?_
      rw [(hP.2.2 i h7).1]
      refine j_iload_n C dX3_find_16 rfl ?_
      refine j_icmp_ne C 22 dX3_find_17 (fun h17 => ?_) (fun h17 => ?_) (by decide)
      · refine q_iinc C dX3_find_22 rfl (by decide) rfl ?_
        refine j_goto C 2 dX3_find_25 ?_ (by decide)
        exact q_cast (ih (by omega) (fun k hk => if e : k = i then (by rw [e]; exact decide_eq_false h17) else hm k (by omega))) (gLe_c rfl (gLe_c rfl (gLe_c rfl gLe_0))) (rfl)
      · refine j_iload_n C dX3_find_20 rfl ?_
        exact q_iret C CM rfl (by decide) (by decide) dX3_find_21 (by unfold pkF; rw [first_some.mpr ⟨h7, decide_eq_true h17, hm⟩]; rfl) rfl
  exact q_cast (K2 0 (by omega) (fun k hk => absurd hk (by omega))) (gLe_c rfl (gLe_c rfl (gLe_c rfl gLe_0))) (rfl)
set_option maxHeartbeats 4000000 in
set_option maxRecDepth 100000 in
theorem sp_X3_depthAt (G : gG) (M : gMem) {P : gPk} (hP : gPq P M) (hn : P.1 ≤ 480) {k : Nat} (hk : k < P.1) : SpR G mX3_depthAt (gRm 1 0) [.ref (gb G + 148), .int (nI k)] M (some (.int (M.1 151 k))) M := by
  refine Sp.of (by decide +kernel) (Nat.le_of_ble_eq_true rfl) (fun X C CM => ?_)
  have C : gC G X RX3 cX3_depthAt 2 (gRm 1 0) := C
  refine j_aload_n C dX3_depthAt_0 rfl ?_
  refine j_iload_n C dX3_depthAt_1 rfl ?_
  refine q_callV C (sp_X3_hasPlace G M hP hn hk) vX3_hasPlace lk_X3_29 rfl (by decide) rfl rfl (Nat.le_of_ble_eq_true rfl) (by decide) dX3_depthAt_2 ?_
  refine q_if_eq0 C 17 dX3_depthAt_5 (by decide) (fun h5 => ?_) (fun h5 => ?_)
  · exact absurd h5 (by decide)
  · refine j_aload_n C dX3_depthAt_8 rfl ?_
    refine q_get C fX3 2 rfl (by decide) (by decide) lf_X3_18 rfl rfl dX3_depthAt_9 ?_
    refine j_iload_n C dX3_depthAt_12 rfl ?_
    refine q_iald C rfl (by decide) (by decide) (by omega) dX3_depthAt_13 ?_
    refine j_goto C 18 dX3_depthAt_14 ?_ (by decide)
    exact q_iret C CM rfl (by decide) (by decide) dX3_depthAt_18 rfl rfl
set_option maxHeartbeats 4000000 in
set_option maxRecDepth 100000 in
theorem sp_X3_depthAt_n (G : gG) (M : gMem) : SpR G mX3_depthAt (gRm 1 0) [.ref (gb G + 148), .int (-1)] M (some (.int (-1))) M := by
  refine Sp.of (by decide +kernel) (Nat.le_of_ble_eq_true rfl) (fun X C CM => ?_)
  have C : gC G X RX3 cX3_depthAt 2 (gRm 1 0) := C
  refine j_aload_n C dX3_depthAt_0 rfl ?_
  refine j_iload_n C dX3_depthAt_1 rfl ?_
  refine q_callV C (sp_X3_hasPlace_n G M) vX3_hasPlace lk_X3_29 rfl (by decide) rfl rfl (Nat.le_of_ble_eq_true rfl) (by decide) dX3_depthAt_2 ?_
  refine q_if_eq0 C 17 dX3_depthAt_5 (by decide) (fun h5 => ?_) (fun h5 => ?_)
  · refine j_iconst C (v := -1) dX3_depthAt_17 rfl ?_
    exact q_iret C CM rfl (by decide) (by decide) dX3_depthAt_18 rfl rfl
  · exact absurd h5 (by decide)
set_option maxHeartbeats 4000000 in
set_option maxRecDepth 100000 in
theorem sp_X3_sourceAt (G : gG) (M : gMem) {P : gPk} (hP : gPq P M) (hn : P.1 ≤ 480) {k : Nat} (hk : k < P.1) : SpR G mX3_sourceAt (gRm 1 0) [.ref (gb G + 148), .int (nI k)] M (some (.int (M.1 150 k))) M := by
  refine Sp.of (by decide +kernel) (Nat.le_of_ble_eq_true rfl) (fun X C CM => ?_)
  have C : gC G X RX3 cX3_sourceAt 2 (gRm 1 0) := C
  refine j_aload_n C dX3_sourceAt_0 rfl ?_
  refine j_iload_n C dX3_sourceAt_1 rfl ?_
  refine q_callV C (sp_X3_hasPlace G M hP hn hk) vX3_hasPlace lk_X3_29 rfl (by decide) rfl rfl (Nat.le_of_ble_eq_true rfl) (by decide) dX3_sourceAt_2 ?_
  refine q_if_eq0 C 17 dX3_sourceAt_5 (by decide) (fun h5 => ?_) (fun h5 => ?_)
  · exact absurd h5 (by decide)
  · refine j_aload_n C dX3_sourceAt_8 rfl ?_
    refine q_get C fX3 1 rfl (by decide) (by decide) lf_X3_15 rfl rfl dX3_sourceAt_9 ?_
    refine j_iload_n C dX3_sourceAt_12 rfl ?_
    refine q_iald C rfl (by decide) (by decide) (by omega) dX3_sourceAt_13 ?_
    refine j_goto C 18 dX3_sourceAt_14 ?_ (by decide)
    exact q_iret C CM rfl (by decide) (by decide) dX3_sourceAt_18 rfl rfl
set_option maxHeartbeats 4000000 in
set_option maxRecDepth 100000 in
theorem sp_X3_sourceAt_n (G : gG) (M : gMem) : SpR G mX3_sourceAt (gRm 1 0) [.ref (gb G + 148), .int (-1)] M (some (.int (-1))) M := by
  refine Sp.of (by decide +kernel) (Nat.le_of_ble_eq_true rfl) (fun X C CM => ?_)
  have C : gC G X RX3 cX3_sourceAt 2 (gRm 1 0) := C
  refine j_aload_n C dX3_sourceAt_0 rfl ?_
  refine j_iload_n C dX3_sourceAt_1 rfl ?_
  refine q_callV C (sp_X3_hasPlace_n G M) vX3_hasPlace lk_X3_29 rfl (by decide) rfl rfl (Nat.le_of_ble_eq_true rfl) (by decide) dX3_sourceAt_2 ?_
  refine q_if_eq0 C 17 dX3_sourceAt_5 (by decide) (fun h5 => ?_) (fun h5 => ?_)
  · refine j_iconst C (v := -1) dX3_sourceAt_17 rfl ?_
    exact q_iret C CM rfl (by decide) (by decide) dX3_sourceAt_18 rfl rfl
  · exact absurd h5 (by decide)
set_option maxHeartbeats 4000000 in
set_option maxRecDepth 100000 in
theorem sp_X3_add (G : gG) (M : gMem) {P : gPk} (hP : gPq P M) (hpi : gPi P) (hn : P.1 < 480) (o : Option Nat) (hc : ∀ c, o = some c → c < 10000) : SpS G mX3_add (gRm 1 0) [.ref (gb G + 148), .int (oI o)] M (none) (fun M2 => (gSp M M2 ∧ M2.2.2.1 148 4 = M.2.2.1 148 4) ∧ gPq (pkO P o) M2) := by
  refine Sp.of (by decide +kernel) (Nat.le_of_ble_eq_true rfl) (fun X C CM => ?_)
  have C : gC G X RX3 cX3_add 6 (gRm 1 0) := C
  refine j_iload_n C dX3_add_0 rfl ?_
  refine j_iconst C (v := -1) dX3_add_1 rfl ?_
  refine q_icmp_eqN C 26 dX3_add_2 (by decide) (fun w hw => Nat.lt_trans (hc w hw) (by decide)) (fun h2 => ?_) (fun v2 h2 => ?_)
  · exact q_vretS C CM rfl (by decide) (by decide) dX3_add_26 ⟨⟨sp_refl M, rfl⟩, by first | (rw [h2]; exact hP) | (rw [h2]; show gPq (pkA P v2) M; rw [pkA_old h11]; exact hP)⟩
  · rw [h2, show oI (some v2) = nI v2 from rfl]
    refine j_aload_n C dX3_add_5 rfl ?_
    refine j_iload_n C dX3_add_6 rfl ?_
    refine q_callV C (sp_X3_find G M hP (by omega) (nI v2)) vX3_find lk_X3_56 rfl (by decide) rfl rfl (Nat.le_of_ble_eq_true rfl) (by decide) dX3_add_7 ?_
    refine j_iconst C (v := -1) dX3_add_10 rfl ?_
    refine q_icmp_neN C 26 dX3_add_11 (by decide) (fun w hw => by have := pkF_lt hw; omega) (fun v11 h11 => ?_) (fun h11 => ?_)
    · exact q_vretS C CM rfl (by decide) (by decide) dX3_add_26 ⟨⟨sp_refl M, rfl⟩, by first | (rw [h2]; exact hP) | (rw [h2]; show gPq (pkA P v2) M; rw [pkA_old h11]; exact hP)⟩
    · refine j_aload_n C dX3_add_14 rfl ?_
      refine q_get C fX3 3 rfl (by decide) (by decide) lf_X3_21 rfl rfl dX3_add_15 ?_
      rw [hP.1]
      refine j_aload_n C dX3_add_18 rfl ?_
      refine q_get C fX3 0 rfl (by decide) (by decide) lf_X3_9 rfl rfl dX3_add_19 ?_
      refine q_alen C rfl (by decide) dX3_add_22 ?_
      refine q_icmp_lt C 27 dX3_add_23 (by decide) (by omega) (by omega) (fun h23 => ?_) (fun h23 => ?_)
      · refine j_iconst C (v := -1) dX3_add_27 rfl ?_
        refine j_istore_n C dX3_add_28 (by decide) rfl ?_
        refine j_iconst C (v := nI 4) dX3_add_29 rfl ?_
        refine j_istore_n C dX3_add_30 (by decide) rfl ?_
        refine j_iconst C (v := nI 0) dX3_add_31 rfl ?_
        refine j_istore C dX3_add_32 (by decide) rfl ?_
        have K34 : ∀ i, i ≤ P.1 → Q G X 0 0 34 [some (.ref (gb G + 148)), some (.int (nI v2)), some (.int (oI (pkB P v2 i).1)), some (.int (nI (pkB P v2 i).2)), some (.int (nI i)), none] [] (M) := by
          refine g_up _ _ (fun i hi ih => ?_)
          refine j_iload C dX3_add_34 rfl ?_
          refine j_aload_n C dX3_add_36 rfl ?_
          refine q_get C fX3 3 rfl (by decide) (by decide) lf_X3_21 rfl rfl dX3_add_37 ?_
          rw [hP.1]
          refine q_icmp_ge C 87 dX3_add_40 (by decide) (by omega) (by omega) (fun h40 => ?_) (fun h40 => ?_)
          · obtain rfl : i = P.1 := by omega
            refine j_aload_n C dX3_add_87 rfl ?_
            refine q_get C fX3 0 rfl (by decide) (by decide) lf_X3_9 rfl rfl dX3_add_88 ?_
            refine j_aload_n C dX3_add_91 rfl ?_
            refine q_get C fX3 3 rfl (by decide) (by decide) lf_X3_21 rfl rfl dX3_add_92 ?_
            rw [hP.1]
            refine j_iload_n C dX3_add_95 rfl ?_
            refine q_iast C rfl (by decide) (by decide) (by omega) dX3_add_96 ?_
            refine j_aload_n C dX3_add_97 rfl ?_
            refine q_get C fX3 1 rfl (by decide) (by decide) lf_X3_15 rfl rfl dX3_add_98 ?_
            refine j_aload_n C dX3_add_101 rfl ?_
            refine q_get C fX3 3 rfl (by decide) (by decide) lf_X3_21 rfl rfl dX3_add_102 ?_
            simp only [sI_2]
            rw [hP.1]
            refine j_iload_n C dX3_add_105 rfl ?_
            refine j_iconst C (v := -1) dX3_add_106 rfl ?_
            refine q_icmp_neN C 114 dX3_add_107 (by decide) (fun w hw => by have := ((pkB_ok P v2 P.1).2 w hw).1; omega) (fun v107 h107 => ?_) (fun h107 => ?_)
            · refine j_aload_n C dX3_add_114 rfl ?_
              rw [h107, show oI (some v107) = nI v107 from rfl]
              have hb := ((pkB_ok P v2 P.1).2 v107 h107).1
              refine q_get C fX3 0 rfl (by decide) (by decide) lf_X3_9 rfl rfl dX3_add_115 ?_
              refine j_iload_n C dX3_add_118 rfl ?_
              refine q_iald C rfl (by decide) (by decide) (by omega) dX3_add_119 ?_
              try rw [show (sI M 149 (upd (M.1 149) P.1 (nI v2))).1 149 v107 = _ from upd_n _ _ (show v107 ≠ P.1 by omega), (hP.2.2 v107 hb).1]
              refine q_iast C rfl (by decide) (by decide) (by omega) dX3_add_120 ?_
              refine j_aload_n C dX3_add_121 rfl ?_
              refine q_get C fX3 2 rfl (by decide) (by decide) lf_X3_18 rfl rfl dX3_add_122 ?_
              refine j_aload_n C dX3_add_125 rfl ?_
              refine q_get C fX3 3 rfl (by decide) (by decide) lf_X3_21 rfl rfl dX3_add_126 ?_
              simp only [sI_2]
              rw [hP.1]
              refine j_iload_n C dX3_add_129 rfl ?_
              try rw [show nI v107 = oI (pkB P v2 P.1).1 from by rw [h107]; rfl]
              refine j_iconst C (v := -1) dX3_add_130 rfl ?_
              refine q_icmp_neN C 138 dX3_add_131 (by decide) (fun w hw => by have := ((pkB_ok P v2 P.1).2 w hw).1; omega) (fun v131 h131 => ?_) (fun h131 => ?_)
              · rw [h131, show oI (some v131) = nI v131 from rfl]
                have hb2 := ((pkB_ok P v2 P.1).2 v131 h131).1
                refine j_aload_n C dX3_add_138 rfl ?_
                refine q_get C fX3 2 rfl (by decide) (by decide) lf_X3_18 rfl rfl dX3_add_139 ?_
                refine j_iload_n C dX3_add_142 rfl ?_
                refine q_iald C rfl (by decide) (by decide) (by omega) dX3_add_143 ?_
                simp only [sI_n _ _ (show (151 : Nat) ≠ 150 by decide), sI_n _ _ (show (151 : Nat) ≠ 149 by decide)]
                rw [(hP.2.2 v131 hb2).2.2]
                refine j_iconst C (v := nI 1) dX3_add_144 rfl ?_
                refine q_iadd C dX3_add_145 ?_
                refine q_iast C rfl (by decide) (by decide) (by omega) dX3_add_146 ?_
                refine j_aload_n C dX3_add_147 rfl ?_
                refine j_dup C dX3_add_148 rfl ?_
                refine q_get C fX3 5 rfl (by decide) (by decide) lf_X3_25 rfl rfl dX3_add_149 ?_
                simp only [sI_2]
                rw [hP.2.1]
                refine j_iload_n C dX3_add_152 rfl ?_
                refine j_i2l C dX3_add_153 ?_
                refine j_ladd C dX3_add_154 ?_
                refine q_putS C fX3 (by decide) lf_X3_25 rfl rfl rfl dX3_add_155 ?_
                refine j_aload_n C dX3_add_158 rfl ?_
                refine j_dup C dX3_add_159 rfl ?_
                refine q_get C fX3 3 rfl (by decide) (by decide) lf_X3_21 rfl rfl dX3_add_160 ?_
                simp only [sS_F, sI_2]
                rw [hP.1]
                refine j_iconst C (v := nI 1) dX3_add_163 rfl ?_
                refine q_iadd C dX3_add_164 ?_
                refine q_putI C fX3 3 rfl (by decide) (by decide) lf_X3_21 rfl rfl rfl (Nat.le_of_ble_eq_true rfl) rfl dX3_add_165 ?_
                exact q_vretS C CM rfl (by decide) (by decide) dX3_add_168 (by first | (rw [h2]; exact ⟨pkM_sp M P.1 _ _ _ _, pkM_pc hP hpi h11 (by first | (rw [h107]; rfl) | rw [h107]) (by first | exact pkD_n h131 | exact pkD_s h131) rfl⟩) | cases (h107.symm.trans h131))
              · refine j_iconst C (v := nI 0) dX3_add_134 rfl ?_
                refine j_goto C 146 dX3_add_135 ?_ (by decide)
                refine q_iast C rfl (by decide) (by decide) (by omega) dX3_add_146 ?_
                refine j_aload_n C dX3_add_147 rfl ?_
                refine j_dup C dX3_add_148 rfl ?_
                refine q_get C fX3 5 rfl (by decide) (by decide) lf_X3_25 rfl rfl dX3_add_149 ?_
                simp only [sI_2]
                rw [hP.2.1]
                refine j_iload_n C dX3_add_152 rfl ?_
                refine j_i2l C dX3_add_153 ?_
                refine j_ladd C dX3_add_154 ?_
                refine q_putS C fX3 (by decide) lf_X3_25 rfl rfl rfl dX3_add_155 ?_
                refine j_aload_n C dX3_add_158 rfl ?_
                refine j_dup C dX3_add_159 rfl ?_
                refine q_get C fX3 3 rfl (by decide) (by decide) lf_X3_21 rfl rfl dX3_add_160 ?_
                simp only [sS_F, sI_2]
                rw [hP.1]
                refine j_iconst C (v := nI 1) dX3_add_163 rfl ?_
                refine q_iadd C dX3_add_164 ?_
                refine q_putI C fX3 3 rfl (by decide) (by decide) lf_X3_21 rfl rfl rfl (Nat.le_of_ble_eq_true rfl) rfl dX3_add_165 ?_
                exact q_vretS C CM rfl (by decide) (by decide) dX3_add_168 (by first | (rw [h2]; exact ⟨pkM_sp M P.1 _ _ _ _, pkM_pc hP hpi h11 (by first | (rw [h107]; rfl) | rw [h107]) (by first | exact pkD_n h131 | exact pkD_s h131) rfl⟩) | cases (h107.symm.trans h131))
            · refine j_iconst C (v := -1) dX3_add_110 rfl ?_
              refine j_goto C 120 dX3_add_111 ?_ (by decide)
              try rw [show (sI M 149 (upd (M.1 149) P.1 (nI v2))).1 149 v107 = _ from upd_n _ _ (show v107 ≠ P.1 by omega), (hP.2.2 v107 hb).1]
              refine q_iast C rfl (by decide) (by decide) (by omega) dX3_add_120 ?_
              refine j_aload_n C dX3_add_121 rfl ?_
              refine q_get C fX3 2 rfl (by decide) (by decide) lf_X3_18 rfl rfl dX3_add_122 ?_
              refine j_aload_n C dX3_add_125 rfl ?_
              refine q_get C fX3 3 rfl (by decide) (by decide) lf_X3_21 rfl rfl dX3_add_126 ?_
              simp only [sI_2]
              rw [hP.1]
              refine j_iload_n C dX3_add_129 rfl ?_
              try rw [show nI v107 = oI (pkB P v2 P.1).1 from by rw [h107]; rfl]
              refine j_iconst C (v := -1) dX3_add_130 rfl ?_
              refine q_icmp_neN C 138 dX3_add_131 (by decide) (fun w hw => by have := ((pkB_ok P v2 P.1).2 w hw).1; omega) (fun v131 h131 => ?_) (fun h131 => ?_)
              · rw [h131, show oI (some v131) = nI v131 from rfl]
                have hb2 := ((pkB_ok P v2 P.1).2 v131 h131).1
                refine j_aload_n C dX3_add_138 rfl ?_
                refine q_get C fX3 2 rfl (by decide) (by decide) lf_X3_18 rfl rfl dX3_add_139 ?_
                refine j_iload_n C dX3_add_142 rfl ?_
                refine q_iald C rfl (by decide) (by decide) (by omega) dX3_add_143 ?_
                simp only [sI_n _ _ (show (151 : Nat) ≠ 150 by decide), sI_n _ _ (show (151 : Nat) ≠ 149 by decide)]
                rw [(hP.2.2 v131 hb2).2.2]
                refine j_iconst C (v := nI 1) dX3_add_144 rfl ?_
                refine q_iadd C dX3_add_145 ?_
                refine q_iast C rfl (by decide) (by decide) (by omega) dX3_add_146 ?_
                refine j_aload_n C dX3_add_147 rfl ?_
                refine j_dup C dX3_add_148 rfl ?_
                refine q_get C fX3 5 rfl (by decide) (by decide) lf_X3_25 rfl rfl dX3_add_149 ?_
                simp only [sI_2]
                rw [hP.2.1]
                refine j_iload_n C dX3_add_152 rfl ?_
                refine j_i2l C dX3_add_153 ?_
                refine j_ladd C dX3_add_154 ?_
                refine q_putS C fX3 (by decide) lf_X3_25 rfl rfl rfl dX3_add_155 ?_
                refine j_aload_n C dX3_add_158 rfl ?_
                refine j_dup C dX3_add_159 rfl ?_
                refine q_get C fX3 3 rfl (by decide) (by decide) lf_X3_21 rfl rfl dX3_add_160 ?_
                simp only [sS_F, sI_2]
                rw [hP.1]
                refine j_iconst C (v := nI 1) dX3_add_163 rfl ?_
                refine q_iadd C dX3_add_164 ?_
                refine q_putI C fX3 3 rfl (by decide) (by decide) lf_X3_21 rfl rfl rfl (Nat.le_of_ble_eq_true rfl) rfl dX3_add_165 ?_
                exact q_vretS C CM rfl (by decide) (by decide) dX3_add_168 (by first | (rw [h2]; exact ⟨pkM_sp M P.1 _ _ _ _, pkM_pc hP hpi h11 (by first | (rw [h107]; rfl) | rw [h107]) (by first | exact pkD_n h131 | exact pkD_s h131) rfl⟩) | cases (h107.symm.trans h131))
              · refine j_iconst C (v := nI 0) dX3_add_134 rfl ?_
                refine j_goto C 146 dX3_add_135 ?_ (by decide)
                refine q_iast C rfl (by decide) (by decide) (by omega) dX3_add_146 ?_
                refine j_aload_n C dX3_add_147 rfl ?_
                refine j_dup C dX3_add_148 rfl ?_
                refine q_get C fX3 5 rfl (by decide) (by decide) lf_X3_25 rfl rfl dX3_add_149 ?_
                simp only [sI_2]
                rw [hP.2.1]
                refine j_iload_n C dX3_add_152 rfl ?_
                refine j_i2l C dX3_add_153 ?_
                refine j_ladd C dX3_add_154 ?_
                refine q_putS C fX3 (by decide) lf_X3_25 rfl rfl rfl dX3_add_155 ?_
                refine j_aload_n C dX3_add_158 rfl ?_
                refine j_dup C dX3_add_159 rfl ?_
                refine q_get C fX3 3 rfl (by decide) (by decide) lf_X3_21 rfl rfl dX3_add_160 ?_
                simp only [sS_F, sI_2]
                rw [hP.1]
                refine j_iconst C (v := nI 1) dX3_add_163 rfl ?_
                refine q_iadd C dX3_add_164 ?_
                refine q_putI C fX3 3 rfl (by decide) (by decide) lf_X3_21 rfl rfl rfl (Nat.le_of_ble_eq_true rfl) rfl dX3_add_165 ?_
                exact q_vretS C CM rfl (by decide) (by decide) dX3_add_168 (by first | (rw [h2]; exact ⟨pkM_sp M P.1 _ _ _ _, pkM_pc hP hpi h11 (by first | (rw [h107]; rfl) | rw [h107]) (by first | exact pkD_n h131 | exact pkD_s h131) rfl⟩) | cases (h107.symm.trans h131))
          · refine j_iconst C (v := nI 5) dX3_add_43 rfl ?_
            refine j_aload_n C dX3_add_44 rfl ?_
            refine q_get C fX3 0 rfl (by decide) (by decide) lf_X3_9 rfl rfl dX3_add_45 ?_
            refine j_iload C dX3_add_48 rfl ?_
            refine q_iald C rfl (by decide) (by decide) (by omega) dX3_add_50 ?_
            rw [(hP.2.2 i h40).1]
            refine j_iload_n C dX3_add_51 rfl ?_
            refine q_callS C (sp_X2_likeness G M (hpi i h40).1 (hc v2 h2)) vX2_likeness lk_X3_59 rfl rfl (Nat.le_of_ble_eq_true rfl) (by decide) dX3_add_52 ?_
            have hlk := like_le (P.2.1 i) v2
            refine q_isub C (by omega) dX3_add_55 ?_
            refine j_istore C dX3_add_56 (by decide) rfl ?_
            refine j_aload_n C dX3_add_58 rfl ?_
            refine q_get C fX3 2 rfl (by decide) (by decide) lf_X3_18 rfl rfl dX3_add_59 ?_
            refine j_iload C dX3_add_62 rfl ?_
            refine q_iald C rfl (by decide) (by decide) (by omega) dX3_add_64 ?_
            rw [(hP.2.2 i h40).2.2]
            have hd := (hpi i h40).2.2.1
            have hb4 := (pkB_ok P v2 i).1
            refine j_iconst C (v := nI 2) dX3_add_65 rfl ?_
            refine q_icmp_gt C 81 dX3_add_66 (by decide) (by omega) (by omega) (fun h66 => ?_) (fun h66 => ?_)
            · refine q_iinc C dX3_add_81 rfl (by decide) rfl ?_
              refine j_goto C 34 dX3_add_84 ?_ (by decide)
              exact q_cast (ih (by omega)) (gLe_c rfl (gLe_c rfl (gLe_c (by first | rw [pkB_no (Or.inl h66)] | rw [pkB_no (Or.inr h72)] | (rw [pkB_go h66 h72]; rfl)) (gLe_c (by first | rw [pkB_no (Or.inl h66)] | rw [pkB_no (Or.inr h72)] | rw [pkB_go h66 h72]) (gLe_c rfl (gLe_n gLe_0)))))) (rfl)
            · refine j_iload C dX3_add_69 rfl ?_
              refine j_iload_n C dX3_add_71 rfl ?_
              refine q_icmp_ge C 81 dX3_add_72 (by decide) (by omega) (by omega) (fun h72 => ?_) (fun h72 => ?_)
              · refine q_iinc C dX3_add_81 rfl (by decide) rfl ?_
                refine j_goto C 34 dX3_add_84 ?_ (by decide)
                exact q_cast (ih (by omega)) (gLe_c rfl (gLe_c rfl (gLe_c (by first | rw [pkB_no (Or.inl h66)] | rw [pkB_no (Or.inr h72)] | (rw [pkB_go h66 h72]; rfl)) (gLe_c (by first | rw [pkB_no (Or.inl h66)] | rw [pkB_no (Or.inr h72)] | rw [pkB_go h66 h72]) (gLe_c rfl (gLe_n gLe_0)))))) (rfl)
              · refine j_iload C dX3_add_75 rfl ?_
                refine j_istore_n C dX3_add_77 (by decide) rfl ?_
                refine j_iload C dX3_add_78 rfl ?_
                refine j_istore_n C dX3_add_80 (by decide) rfl ?_
                refine q_iinc C dX3_add_81 rfl (by decide) rfl ?_
                refine j_goto C 34 dX3_add_84 ?_ (by decide)
                exact q_cast (ih (by omega)) (gLe_c rfl (gLe_c rfl (gLe_c (by first | rw [pkB_no (Or.inl h66)] | rw [pkB_no (Or.inr h72)] | (rw [pkB_go h66 h72]; rfl)) (gLe_c (by first | rw [pkB_no (Or.inl h66)] | rw [pkB_no (Or.inr h72)] | rw [pkB_go h66 h72]) (gLe_c rfl (gLe_n gLe_0)))))) (rfl)
        exact q_cast (K34 0 (by omega)) (gLe_c rfl (gLe_c rfl (gLe_c rfl (gLe_c rfl (gLe_c rfl (gLe_n gLe_0)))))) (rfl)
      · omega
set_option maxHeartbeats 4000000 in
set_option maxRecDepth 100000 in
theorem sp_X3_catchUpWith (G : gG) (M : gMem) {n : Nat} (hn : M.2.2.1 1 7 = nI n) (h60 : n ≤ 60) (T : Nat → Nat → Option Nat) (hT : ∀ c, c < n → gTn (T c)) (hR : ∀ c, c < n → gRo M (10 + 2 * c + 1) (T c)) {k : Nat} (hk : k ≤ n) (hF : M.2.2.1 148 4 = nI k) (hP : gPq (pkN T k) M) : SpS G mX3_catchUpWith (gRm 2 0) [.ref (gb G + 148), .ref (gb G + 1)] M (none) (fun M2 => gSp M M2 ∧ M2.2.2.1 148 4 = nI n ∧ gPq (pkN T n) M2) := by
  refine Sp.of (by decide +kernel) (Nat.le_of_ble_eq_true rfl) (fun X C CM => ?_)
  have C : gC G X RX3 cX3_catchUpWith 4 (gRm 2 0) := C
  have K0 : ∀ i, i ≤ n → ∀ M2, gSp M M2 → M2.2.2.1 148 4 = nI i → gPq (pkN T i) M2 → Q G X 0 0 0 [some (.ref (gb G + 148)), some (.ref (gb G + 1)), none, none] [] (M2) := by
    refine g_up _ _ (fun i hi ih => ?_)
    intro M2 s2 f2 q2
    refine j_aload_n C dX3_catchUpWith_0 rfl ?_
    refine q_get C fX3 4 rfl (by decide) (by decide) lf_X3_33 rfl rfl dX3_catchUpWith_1 ?_
    refine j_aload_n C dX3_catchUpWith_4 rfl ?_
    refine q_callV C (sp_X1_size G M2 (n := n) (by rw [s2.2.2.1 _ _ (by decide)]; exact hn)) vX1_size lk_X3_36 rfl (by decide) rfl rfl (Nat.le_of_ble_eq_true rfl) (by decide) dX3_catchUpWith_5 ?_
    rw [f2]
    refine q_icmp_ge C 56 dX3_catchUpWith_8 (by decide) (by omega) (by omega) (fun h8 => ?_) (fun h8 => ?_)
    · exact q_vretS C CM rfl (by decide) (by decide) dX3_catchUpWith_56 ⟨s2, by rw [show i = n by omega] at f2; exact f2, by rw [show i = n by omega] at q2; exact q2⟩
    · refine j_aload_n C dX3_catchUpWith_11 rfl ?_
      refine j_aload_n C dX3_catchUpWith_12 rfl ?_
      refine q_get C fX3 4 rfl (by decide) (by decide) lf_X3_33 rfl rfl dX3_catchUpWith_13 ?_
      rw [f2]
      refine q_callV C (sp_X1_treeOf G M2 (n := n) (by rw [s2.2.2.1 _ _ (by decide)]; exact hn) h60 h8) vX1_treeOf lk_X3_42 rfl (by decide) rfl rfl (Nat.le_of_ble_eq_true rfl) (by decide) dX3_catchUpWith_16 ?_
      refine j_astore_n C dX3_catchUpWith_19 (by decide) rfl ?_
      refine j_iconst C (v := nI 0) dX3_catchUpWith_20 rfl ?_
      refine j_istore_n C dX3_catchUpWith_21 (by decide) rfl ?_
      have K22 : ∀ j, j ≤ 8 → ∀ M3, gSp M M3 → M3.2.2.1 148 4 = nI i → gPq (pkT (pkN T i) (T i) j) M3 → Q G X 0 0 22 [some (.ref (gb G + 148)), some (.ref (gb G + 1)), some (.ref (gb G + (10 + 2 * i))), some (.int (nI j))] [] (M3) := by
        refine g_up _ _ (fun j hj ihj => ?_)
        intro M3 s3 f3 q3
        refine j_iload_n C dX3_catchUpWith_22 rfl ?_
        refine j_bipush C (v := nI 8) dX3_catchUpWith_23 rfl ?_
        refine q_icmp_ge C 43 dX3_catchUpWith_25 (by decide) (by omega) (by omega) (fun h25 => ?_) (fun h25 => ?_)
        · refine j_aload_n C dX3_catchUpWith_43 rfl ?_
          refine j_dup C dX3_catchUpWith_44 rfl ?_
          refine q_get C fX3 4 rfl (by decide) (by decide) lf_X3_33 rfl rfl dX3_catchUpWith_45 ?_
          rw [f3]
          refine j_iconst C (v := nI 1) dX3_catchUpWith_48 rfl ?_
          refine q_iadd C dX3_catchUpWith_49 ?_
          refine q_putI C fX3 4 rfl (by decide) (by decide) lf_X3_33 rfl rfl rfl (Nat.le_of_ble_eq_true rfl) rfl dX3_catchUpWith_50 ?_
          refine j_goto C 0 dX3_catchUpWith_53 ?_ (by decide)
          exact q_cast (ih (by omega) _ (sp_trans s3 (sp_sF M3 4 _)) (sF_at _ _ _ _) (pq_sF (show gPq (pkT (pkN T i) (T i) 8) M3 from by rw [show j = 8 by omega] at q3; exact q3))) (gLe_c rfl (gLe_c rfl (gLe_n (gLe_n gLe_0)))) (rfl)
        · refine j_aload_n C dX3_catchUpWith_28 rfl ?_
          refine j_aload_n C dX3_catchUpWith_29 rfl ?_
          refine j_iload_n C dX3_catchUpWith_30 rfl ?_
          refine q_callV C (sp_X4_at G M3 (gTr_c (show i < 60 by omega)) h25) vX4_at lk_X3_46 (gTr_c (show i < 60 by omega)).1 (gTr_lt (gTr_c (show i < 60 by omega))) rfl rfl (Nat.le_of_ble_eq_true rfl) (by decide) dX3_catchUpWith_31 ?_
          rw [show M3.1 (10 + 2 * i + 1) j = oI (T i j) from by rw [s3.2.2.2 _ (by omega)]; exact hR i h8 j h25]
          have hp1 := pkN_pi hT (c := i) (by omega)
          have hp2 := pkT_pi hp1.1 (hT i h8) (p := j) (by omega)
          refine q_callVS C (sp_X3_add G M3 q3 hp2.1 (by have := hp2.2; have := hp1.2; omega) (T i j) (fun c hc => hT i h8 j c h25 hc)) vX3_add lk_X3_52 rfl (by decide) rfl rfl (Nat.le_of_ble_eq_true rfl) (by decide) dX3_catchUpWith_34 (fun M4 hM4 => ?_)
          refine q_iinc C dX3_catchUpWith_37 rfl (by decide) rfl ?_
          refine j_goto C 22 dX3_catchUpWith_40 ?_ (by decide)
          exact q_cast (ihj (by omega) _ (sp_trans s3 hM4.1.1) (hM4.1.2.trans f3) hM4.2) (gLe_c rfl (gLe_c rfl (gLe_c rfl (gLe_c rfl gLe_0)))) (rfl)
      exact q_cast (K22 0 (by omega) _ s2 f2 q2) (gLe_c rfl (gLe_c rfl (gLe_c rfl (gLe_c rfl gLe_0)))) (rfl)
  exact q_cast (K0 k (by omega) _ (sp_refl M) hF hP) (gLe_c rfl (gLe_c rfl (gLe_n (gLe_n gLe_0)))) (rfl)
