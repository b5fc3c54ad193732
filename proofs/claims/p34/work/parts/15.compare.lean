/-! moves between two trees -/
def uO (f : Nat → Option Nat) (k : Nat) (x : Option Nat) : Nat → Option Nat := fun i => if i = k then x else f i
theorem uO_s (f : Nat → Option Nat) (k : Nat) (x : Option Nat) : uO f k x k = x := if_pos rfl
theorem uO_n (f : Nat → Option Nat) {k j : Nat} (x : Option Nat) (h : j ≠ k) : uO f k x j = f j := if_neg h
def gv (t : Nat → Option Nat) (p : Nat) : Nat := (t p).getD 0
/-- the contents of a tree -/
def gTn (t : Nat → Option Nat) : Prop := ∀ p a, p < 8 → t p = some a → a < 10000
def srcO (mv : Nat → Option Nat) (q : Nat) : Option Nat := firstN (fun p => mv p == some q) 8
def lvB (t u mv : Nat → Option Nat) (p : Nat) : Bool := (t p).isSome && ((u p).isNone && (mv p).isNone)
def cmB (t u mv : Nat → Option Nat) (q : Nat) : Bool := (t q).isNone && ((u q).isSome && (srcO mv q).isNone)
def mvS (t u : Nat → Option Nat) (l p q : Nat) (mv : Nat → Option Nat) : Nat → Option Nat :=
  if (lvB t u mv p && cmB t u mv q && decide (like (gv t p) (gv u q) = l)) = true then uO mv p (some q) else mv
def mvQ (t u : Nat → Option Nat) (l p : Nat) : Nat → (Nat → Option Nat) → Nat → Option Nat
  | 0, mv => mv
  | n + 1, mv => mvS t u l p n (mvQ t u l p n mv)
def mvP (t u : Nat → Option Nat) (l : Nat) : Nat → (Nat → Option Nat) → Nat → Option Nat
  | 0, mv => mv
  | n + 1, mv => mvQ t u l n 8 (mvP t u l n mv)
def moves (t u : Nat → Option Nat) : Nat → Option Nat := mvP t u 3 8 (mvP t u 4 8 (fun _ => none))
theorem mvQ_s (t u : Nat → Option Nat) (l p n : Nat) (mv : Nat → Option Nat) : mvQ t u l p (n + 1) mv = mvS t u l p n (mvQ t u l p n mv) := rfl
theorem mvP_s (t u : Nat → Option Nat) (l n : Nat) (mv : Nat → Option Nat) : mvP t u l (n + 1) mv = mvQ t u l n 8 (mvP t u l n mv) := rfl
theorem mvS_no {t u mv : Nat → Option Nat} {l p q : Nat} (h : lvB t u mv p = false ∨ cmB t u mv q = false ∨ ¬ like (gv t p) (gv u q) = l) : mvS t u l p q mv = mv := by
  unfold mvS
  refine if_neg ?_
  rcases h with h | h | h
  · rw [h]; simp
  · rw [h]; simp
  · rw [decide_eq_false h]; simp
theorem mvS_go {t u mv : Nat → Option Nat} {l p q : Nat} (h1 : lvB t u mv p = true) (h2 : cmB t u mv q = true) (h3 : like (gv t p) (gv u q) = l) : mvS t u l p q mv = uO mv p (some q) := by
  unfold mvS
  refine if_pos ?_
  rw [h1, h2, decide_eq_true h3]
  rfl
theorem mvQ_end {t u mv : Nat → Option Nat} {l p i : Nat} (h : lvB t u (mvQ t u l p i mv) p = false) : ∀ j, mvQ t u l p (i + j) mv = mvQ t u l p i mv := by
  intro j
  induction j with
  | zero => rfl
  | succ j ih =>
    show mvS t u l p (i + j) (mvQ t u l p (i + j) mv) = _
    rw [ih]
    exact mvS_no (Or.inl h)
/-- what a comparison holds -/
def gCp (M : gMem) (k : Nat) (t u mv : Nat → Option Nat) : Prop := ∀ p, p < 8 → M.1 (k + 2) p = oI (t p) ∧ M.1 (k + 4) p = oI (u p) ∧ M.1 (k + 5) p = oI (mv p) ∧ M.1 (k + 6) p = oI (srcO mv p)
/-- moves go to places -/
def gMv (t u mv : Nat → Option Nat) : Prop := ∀ p q, p < 8 → mv p = some q → q < 8 ∧ (t p).isSome = true ∧ u p = none ∧ t q = none ∧ (u q).isSome = true
theorem src_lt {mv : Nat → Option Nat} {q v : Nat} (h : srcO mv q = some v) : v < 8 := (first_some.mp h).1
theorem lv_iff {t u mv : Nat → Option Nat} {p : Nat} : lvB t u mv p = true ↔ (t p).isSome = true ∧ u p = none ∧ mv p = none := by
  unfold lvB
  simp [Bool.and_eq_true]
theorem cm_iff {t u mv : Nat → Option Nat} {q : Nat} : cmB t u mv q = true ↔ t q = none ∧ (u q).isSome = true ∧ srcO mv q = none := by
  unfold cmB
  simp [Bool.and_eq_true]
theorem mv_0 (t u : Nat → Option Nat) : gMv t u (fun _ => none) := fun p q _ h => by cases h
theorem src_0 (q : Nat) : srcO (fun _ => none) q = none := first_none.mpr (fun _ _ => rfl)
theorem mv_S {t u mv : Nat → Option Nat} {l p q : Nat} (h : gMv t u mv) (hq : q < 8) : gMv t u (mvS t u l p q mv) := by
  unfold mvS
  split
  · next c =>
    simp only [Bool.and_eq_true, decide_eq_true_eq] at c
    obtain ⟨⟨c1, c2⟩, -⟩ := c
    have c1 := lv_iff.mp c1
    have c2 := cm_iff.mp c2
    intro a b ha hb
    by_cases e : a = p
    · subst e
      rw [uO_s] at hb
      cases hb
      exact ⟨hq, c1.1, c1.2.1, c2.1, c2.2.1⟩
    · rw [uO_n _ _ e] at hb
      exact h a b ha hb
  · exact h
theorem mv_Q {t u mv : Nat → Option Nat} {l p : Nat} (h : gMv t u mv) : ∀ {n}, n ≤ 8 → gMv t u (mvQ t u l p n mv) := by
  intro n
  induction n with
  | zero => intro _; exact h
  | succ n ih => intro hn; exact mv_S (ih (by omega)) (by omega)
theorem mv_P {t u mv : Nat → Option Nat} {l : Nat} (h : gMv t u mv) : ∀ {n}, gMv t u (mvP t u l n mv) := by
  intro n
  induction n with
  | zero => exact h
  | succ n ih => exact mv_Q ih (Nat.le_refl _)
theorem mv_all (t u : Nat → Option Nat) : gMv t u (moves t u) := mv_P (mv_P (mv_0 t u))
theorem src_upd {t u mv : Nat → Option Nat} {p q : Nat} (hp : p < 8) (c1 : lvB t u mv p = true) (c2 : cmB t u mv q = true) (z : Nat) : srcO (uO mv p (some q)) z = if z = q then some p else srcO mv z := by
  have c1 := lv_iff.mp c1
  have c2 := cm_iff.mp c2
  by_cases e : z = q
  · subst e
    rw [if_pos rfl]
    refine first_some.mpr ⟨hp, by rw [uO_s]; exact beq_self_eq_true _, fun i hi => ?_⟩
    rw [uO_n _ _ (by omega)]
    exact first_none.mp c2.2.2 i (by omega)
  · rw [if_neg e]
    refine first_congr (fun i hi => ?_)
    by_cases e2 : i = p
    · subst e2
      show (uO mv i (some q) i == some z) = (mv i == some z)
      rw [uO_s, c1.2.2]
      simp
      exact fun h => e h.symm
    · rw [uO_n _ _ e2]
theorem cp_set {M : gMem} {k : Nat} {t u mv : Nat → Option Nat} {p q : Nat} (h : gCp M k t u mv) (hp : p < 8) (hq : q < 8) (c1 : lvB t u mv p = true) (c2 : cmB t u mv q = true) : gCp (sI (sI M (k + 5) (upd (M.1 (k + 5)) p (nI q))) (k + 6) (upd ((sI M (k + 5) (upd (M.1 (k + 5)) p (nI q))).1 (k + 6)) q (nI p))) k t u (uO mv p (some q)) := by
  intro z hz
  obtain ⟨h1, h2, h3, h4⟩ := h z hz
  refine ⟨?_, ?_, ?_, ?_⟩
  · rw [sI_n _ _ (by omega), sI_n _ _ (by omega)]; exact h1
  · rw [sI_n _ _ (by omega), sI_n _ _ (by omega)]; exact h2
  · rw [sI_n _ _ (by omega), sI_s]
    by_cases e : z = p
    · rw [e, upd_s, uO_s]; rfl
    · rw [upd_n _ _ e, uO_n _ _ e]; exact h3
  · rw [sI_s, sI_n _ _ (by omega), src_upd hp c1 c2]
    by_cases e : z = q
    · rw [e, upd_s, if_pos rfl]; rfl
    · rw [upd_n _ _ e, if_neg e]; exact h4
/-- only rows from lo to hi differ -/
def gSc (lo hi : Nat) (M M' : gMem) : Prop := M'.2 = M.2 ∧ ∀ o, o < lo ∨ hi < o → M'.1 o = M.1 o
theorem sc_refl {lo hi : Nat} (M : gMem) : gSc lo hi M M := ⟨rfl, fun _ _ => rfl⟩
theorem sc_trans {lo hi : Nat} {M M1 M2 : gMem} (h : gSc lo hi M M1) (h' : gSc lo hi M1 M2) : gSc lo hi M M2 := ⟨h'.1.trans h.1, fun o ho => (h'.2 o ho).trans (h.2 o ho)⟩
theorem sc_mono {lo hi lo' hi' : Nat} {M M' : gMem} (h : gSc lo hi M M') (h1 : lo' ≤ lo) (h2 : hi ≤ hi') : gSc lo' hi' M M' := ⟨h.1, fun o ho => h.2 o (by omega)⟩
theorem sc_sI {lo hi o : Nat} (M : gMem) (f : Nat → Int32) (h1 : lo ≤ o) (h2 : o ≤ hi) : gSc lo hi M (sI M o f) := ⟨rfl, fun a ha => sI_n _ _ (by omega)⟩
theorem nI_lt8 {t : Nat → Option Nat} (ht : gTn t) {p : Nat} (hp : p < 8) : ∀ v, t p = some v → v < 2 ^ 31 := fun v h => Nat.lt_trans (ht p v hp h) (by decide)
theorem some_gv {t : Nat → Option Nat} {p : Nat} (h : (t p).isSome = true) : t p = some (gv t p) := by
  unfold gv
  cases e : t p with
  | none => rw [e] at h; cases h
  | some v => rfl
theorem gv_lt {t : Nat → Option Nat} (ht : gTn t) {p : Nat} (hp : p < 8) : gv t p < 10000 := by
  unfold gv
  cases e : t p with
  | none => exact Nat.zero_lt_succ _
  | some v => exact ht p v hp e
def plO (u mv : Nat → Option Nat) (p : Nat) : Option Nat := if (u p).isSome = true then some p else mv p
def nuB (t u mv : Nat → Option Nat) (p : Nat) : Bool := (plO u mv p).isNone || decide (u p = t p)
def nwO (t u mv : Nat → Option Nat) (p : Nat) : Option Nat := if cmB t u mv p = true then u p else none
theorem pl_lt {t u mv : Nat → Option Nat} (h : gMv t u mv) {p v : Nat} (hp : p < 8) (e : plO u mv p = some v) : v < 8 ∧ (u v).isSome = true := by
  unfold plO at e
  split at e
  · next c => cases e; exact ⟨hp, c⟩
  · have := h p v hp e
    exact ⟨this.1, this.2.2.2.2⟩
theorem gKd_c5 {k : Nat} (h : gCm k) : gKd (k + 5) = (0, 8) := by rcases h with rfl | rfl <;> rfl
theorem gKd_c6 {k : Nat} (h : gCm k) : gKd (k + 6) = (0, 8) := by rcases h with rfl | rfl <;> rfl
theorem gCm_l5 {k : Nat} (h : gCm k) : k + 5 < 156 := by rcases h with rfl | rfl <;> decide
theorem gCm_l6 {k : Nat} (h : gCm k) : k + 6 < 156 := by rcases h with rfl | rfl <;> decide
theorem gCm_t1 {k : Nat} (h : gCm k) : gTr (k + 1) := by rcases h with rfl | rfl <;> (unfold gTr; decide)
theorem gCm_t2 {k : Nat} (h : gCm k) : gTr (k + 3) := by rcases h with rfl | rfl <;> (unfold gTr; decide)
theorem nu_w {t u mv : Nat → Option Nat} {p : Nat} (h : plO u mv p = none) : nuB t u mv p = true := by
  unfold nuB; rw [h]; rfl
theorem nu_t {t u mv : Nat → Option Nat} (ht : gTn t) (hu : gTn u) {p v : Nat} (hp : p < 8) (h : plO u mv p = some v) (e : oI (u p) = oI (t p)) : nuB t u mv p = true := by
  unfold nuB; rw [h, decide_eq_true ((oI_eq (nI_lt8 hu hp) (nI_lt8 ht hp)).mp e)]; rfl
theorem nu_f {t u mv : Nat → Option Nat} {p v : Nat} (h : plO u mv p = some v) (e : ¬ oI (u p) = oI (t p)) : nuB t u mv p = false := by
  unfold nuB; rw [h, decide_eq_false (fun q => e (by rw [q]))]; rfl
theorem pl_t {u mv : Nat → Option Nat} {p v : Nat} (h : u p = some v) : plO u mv p = some p := by unfold plO; rw [h]; rfl
theorem pl_f {u mv : Nat → Option Nat} {p : Nat} (h : u p = none) : plO u mv p = mv p := by unfold plO; rw [h]; rfl
set_option maxHeartbeats 4000000 in
set_option maxRecDepth 100000 in
theorem sp_X0_target (G : gG) (M : gMem) {k : Nat} (hk : gCm k) {p : Nat} (hp : p < 8) : SpR G mX0_target (gRm 0 0) [.ref (gb G + k), .int (nI p)] M (some (.int (M.1 (k + 5) p))) M := by
  refine Sp.of (by decide +kernel) (Nat.le_of_ble_eq_true rfl) (fun X C CM => ?_)
  have C : gC G X RX0 cX0_target 2 (gRm 0 0) := C
  refine j_iload_n C dX0_target_0 rfl ?_
  refine j_if_lt C 22 dX0_target_1 (fun h => absurd h (nI_pos (by omega))) (fun _ => ?_) (by decide)
  refine j_iload_n C dX0_target_4 rfl ?_
  refine j_aload_n C dX0_target_5 rfl ?_
  refine q_get C fX0 2 (gCm_k hk) (gCm_lt hk) (by decide) lf_X0_21 rfl (gFs_cm2 hk) dX0_target_6 ?_
  refine q_alen C (gKd_c5 hk) (gCm_l5 hk) dX0_target_9 ?_
  refine q_icmp_ge C 22 dX0_target_10 (by decide) (by omega) (by omega) (fun h10 => ?_) (fun h10 => ?_)
  · omega
  · refine j_aload_n C dX0_target_13 rfl ?_
    refine q_get C fX0 2 (gCm_k hk) (gCm_lt hk) (by decide) lf_X0_21 rfl (gFs_cm2 hk) dX0_target_14 ?_
    refine j_iload_n C dX0_target_17 rfl ?_
    refine q_iald C (gKd_c5 hk) (gCm_l5 hk) (by decide) (by omega) dX0_target_18 ?_
    refine j_goto C 23 dX0_target_19 ?_ (by decide)
    exact q_iret C CM rfl (by decide) (by decide) dX0_target_23 rfl rfl
set_option maxHeartbeats 4000000 in
set_option maxRecDepth 100000 in
theorem sp_X0_source (G : gG) (M : gMem) {k : Nat} (hk : gCm k) {p : Nat} (hp : p < 8) : SpR G mX0_source (gRm 0 0) [.ref (gb G + k), .int (nI p)] M (some (.int (M.1 (k + 6) p))) M := by
  refine Sp.of (by decide +kernel) (Nat.le_of_ble_eq_true rfl) (fun X C CM => ?_)
  have C : gC G X RX0 cX0_source 2 (gRm 0 0) := C
  refine j_iload_n C dX0_source_0 rfl ?_
  refine j_if_lt C 22 dX0_source_1 (fun h => absurd h (nI_pos (by omega))) (fun _ => ?_) (by decide)
  refine j_iload_n C dX0_source_4 rfl ?_
  refine j_aload_n C dX0_source_5 rfl ?_
  refine q_get C fX0 3 (gCm_k hk) (gCm_lt hk) (by decide) lf_X0_25 rfl (gFs_cm3 hk) dX0_source_6 ?_
  refine q_alen C (gKd_c6 hk) (gCm_l6 hk) dX0_source_9 ?_
  refine q_icmp_ge C 22 dX0_source_10 (by decide) (by omega) (by omega) (fun h10 => ?_) (fun h10 => ?_)
  · omega
  · refine j_aload_n C dX0_source_13 rfl ?_
    refine q_get C fX0 3 (gCm_k hk) (gCm_lt hk) (by decide) lf_X0_25 rfl (gFs_cm3 hk) dX0_source_14 ?_
    refine j_iload_n C dX0_source_17 rfl ?_
    refine q_iald C (gKd_c6 hk) (gCm_l6 hk) (by decide) (by omega) dX0_source_18 ?_
    refine j_goto C 23 dX0_source_19 ?_ (by decide)
    exact q_iret C CM rfl (by decide) (by decide) dX0_source_23 rfl rfl
set_option maxHeartbeats 4000000 in
set_option maxRecDepth 100000 in
theorem sp_X0_contentBefore (G : gG) (M : gMem) {k : Nat} (hk : gCm k) {p : Nat} (hp : p < 8) : SpR G mX0_contentBefore (gRm 1 0) [.ref (gb G + k), .int (nI p)] M (some (.int (M.1 (k + 2) p))) M := by
  refine Sp.of (by decide +kernel) (Nat.le_of_ble_eq_true rfl) (fun X C CM => ?_)
  have C : gC G X RX0 cX0_contentBefore 2 (gRm 1 0) := C
  refine j_aload_n C dX0_contentBefore_0 rfl ?_
  refine q_get C fX0 0 (gCm_k hk) (gCm_lt hk) (by decide) lf_X0_12 rfl (gFs_cm0 hk) dX0_contentBefore_1 ?_
  refine j_iload_n C dX0_contentBefore_4 rfl ?_
  refine q_callV C (sp_X4_at G _ (gCm_t1 hk) hp) vX4_at lk_X0_43 (gCm_t1 hk).1 (gTr_lt (gCm_t1 hk)) rfl rfl (Nat.le_of_ble_eq_true rfl) (by decide) dX0_contentBefore_5 ?_
  exact q_iret C CM rfl (by decide) (by decide) dX0_contentBefore_8 rfl rfl
set_option maxHeartbeats 4000000 in
set_option maxRecDepth 100000 in
theorem sp_X0_contentAfter (G : gG) (M : gMem) {k : Nat} (hk : gCm k) {p : Nat} (hp : p < 8) : SpR G mX0_contentAfter (gRm 1 0) [.ref (gb G + k), .int (nI p)] M (some (.int (M.1 (k + 4) p))) M := by
  refine Sp.of (by decide +kernel) (Nat.le_of_ble_eq_true rfl) (fun X C CM => ?_)
  have C : gC G X RX0 cX0_contentAfter 2 (gRm 1 0) := C
  refine j_aload_n C dX0_contentAfter_0 rfl ?_
  refine q_get C fX0 1 (gCm_k hk) (gCm_lt hk) (by decide) lf_X0_18 rfl (gFs_cm1 hk) dX0_contentAfter_1 ?_
  refine j_iload_n C dX0_contentAfter_4 rfl ?_
  refine q_callV C (sp_X4_at G _ (gCm_t2 hk) hp) vX4_at lk_X0_43 (gCm_t2 hk).1 (gTr_lt (gCm_t2 hk)) rfl rfl (Nat.le_of_ble_eq_true rfl) (by decide) dX0_contentAfter_5 ?_
  exact q_iret C CM rfl (by decide) (by decide) dX0_contentAfter_8 rfl rfl
set_option maxHeartbeats 4000000 in
set_option maxRecDepth 100000 in
theorem sp_X0_isFreeToLeave (G : gG) (M : gMem) {k : Nat} (hk : gCm k) {t u mv : Nat → Option Nat} (hc : gCp M k t u mv) (ht : gTn t) (hu : gTn u) (hm : gMv t u mv) {p : Nat} (hp : p < 8) : SpR G mX0_isFreeToLeave (gRm 1 0) [.ref (gb G + k), .int (nI p)] M (some (.int (bI (lvB t u mv p)))) M := by
  refine Sp.of (by decide +kernel) (Nat.le_of_ble_eq_true rfl) (fun X C CM => ?_)
  have C : gC G X RX0 cX0_isFreeToLeave 2 (gRm 1 0) := C
  refine j_aload_n C dX0_isFreeToLeave_0 rfl ?_
  refine q_get C fX0 0 (gCm_k hk) (gCm_lt hk) (by decide) lf_X0_12 rfl (gFs_cm0 hk) dX0_isFreeToLeave_1 ?_
  refine j_iload_n C dX0_isFreeToLeave_4 rfl ?_
  refine q_callV C (sp_X4_at G _ (gCm_t1 hk) hp) vX4_at lk_X0_43 (gCm_t1 hk).1 (gTr_lt (gCm_t1 hk)) rfl rfl (Nat.le_of_ble_eq_true rfl) (by decide) dX0_isFreeToLeave_5 ?_
  rw [(hc p hp).1]
  refine j_iconst C (v := -1) dX0_isFreeToLeave_8 rfl ?_
  refine q_icmp_eqN C 37 dX0_isFreeToLeave_9 (by decide) (fun v hv => nI_lt8 ht hp v hv) (fun h9 => ?_) (fun v9 h9 => ?_)
  · refine j_iconst C (v := nI 0) dX0_isFreeToLeave_37 rfl ?_
    exact q_zret C CM rfl (by decide) (by decide) dX0_isFreeToLeave_38 (by unfold lvB; simp only [*]; rfl) rfl
  · refine j_aload_n C dX0_isFreeToLeave_12 rfl ?_
    refine q_get C fX0 1 (gCm_k hk) (gCm_lt hk) (by decide) lf_X0_18 rfl (gFs_cm1 hk) dX0_isFreeToLeave_13 ?_
    refine j_iload_n C dX0_isFreeToLeave_16 rfl ?_
    refine q_callV C (sp_X4_at G _ (gCm_t2 hk) hp) vX4_at lk_X0_43 (gCm_t2 hk).1 (gTr_lt (gCm_t2 hk)) rfl rfl (Nat.le_of_ble_eq_true rfl) (by decide) dX0_isFreeToLeave_17 ?_
    rw [(hc p hp).2.1]
    refine j_iconst C (v := -1) dX0_isFreeToLeave_20 rfl ?_
    refine q_icmp_neN C 37 dX0_isFreeToLeave_21 (by decide) (fun v hv => nI_lt8 hu hp v hv) (fun v21 h21 => ?_) (fun h21 => ?_)
    · refine j_iconst C (v := nI 0) dX0_isFreeToLeave_37 rfl ?_
      exact q_zret C CM rfl (by decide) (by decide) dX0_isFreeToLeave_38 (by unfold lvB; simp only [*]; rfl) rfl
    · refine j_aload_n C dX0_isFreeToLeave_24 rfl ?_
      refine j_iload_n C dX0_isFreeToLeave_25 rfl ?_
      refine q_callV C (sp_X0_target G M hk hp) vX0_target lk_X0_53 (gCm_k (hk)) (gCm_lt (hk)) rfl rfl (Nat.le_of_ble_eq_true rfl) (by decide) dX0_isFreeToLeave_26 ?_
      rw [(hc p hp).2.2.1]
      refine j_iconst C (v := -1) dX0_isFreeToLeave_29 rfl ?_
      refine q_icmp_neN C 37 dX0_isFreeToLeave_30 (by decide) (fun v hv => Nat.lt_trans (hm p v hp hv).1 (by decide)) (fun v30 h30 => ?_) (fun h30 => ?_)
      · refine j_iconst C (v := nI 0) dX0_isFreeToLeave_37 rfl ?_
        exact q_zret C CM rfl (by decide) (by decide) dX0_isFreeToLeave_38 (by unfold lvB; simp only [*]; rfl) rfl
      · refine j_iconst C (v := nI 1) dX0_isFreeToLeave_33 rfl ?_
        refine j_goto C 38 dX0_isFreeToLeave_34 ?_ (by decide)
        exact q_zret C CM rfl (by decide) (by decide) dX0_isFreeToLeave_38 (by unfold lvB; simp only [*]; rfl) rfl
set_option maxHeartbeats 4000000 in
set_option maxRecDepth 100000 in
theorem sp_X0_isFreeToCome (G : gG) (M : gMem) {k : Nat} (hk : gCm k) {t u mv : Nat → Option Nat} (hc : gCp M k t u mv) (ht : gTn t) (hu : gTn u) {p : Nat} (hp : p < 8) : SpR G mX0_isFreeToCome (gRm 1 0) [.ref (gb G + k), .int (nI p)] M (some (.int (bI (cmB t u mv p)))) M := by
  refine Sp.of (by decide +kernel) (Nat.le_of_ble_eq_true rfl) (fun X C CM => ?_)
  have C : gC G X RX0 cX0_isFreeToCome 2 (gRm 1 0) := C
  refine j_aload_n C dX0_isFreeToCome_0 rfl ?_
  refine q_get C fX0 0 (gCm_k hk) (gCm_lt hk) (by decide) lf_X0_12 rfl (gFs_cm0 hk) dX0_isFreeToCome_1 ?_
  refine j_iload_n C dX0_isFreeToCome_4 rfl ?_
  refine q_callV C (sp_X4_at G _ (gCm_t1 hk) hp) vX4_at lk_X0_43 (gCm_t1 hk).1 (gTr_lt (gCm_t1 hk)) rfl rfl (Nat.le_of_ble_eq_true rfl) (by decide) dX0_isFreeToCome_5 ?_
  rw [(hc p hp).1]
  refine j_iconst C (v := -1) dX0_isFreeToCome_8 rfl ?_
  refine q_icmp_neN C 37 dX0_isFreeToCome_9 (by decide) (fun v hv => nI_lt8 ht hp v hv) (fun v9 h9 => ?_) (fun h9 => ?_)
  · refine j_iconst C (v := nI 0) dX0_isFreeToCome_37 rfl ?_
    exact q_zret C CM rfl (by decide) (by decide) dX0_isFreeToCome_38 (by unfold cmB; simp only [*]; rfl) rfl
  · refine j_aload_n C dX0_isFreeToCome_12 rfl ?_
    refine q_get C fX0 1 (gCm_k hk) (gCm_lt hk) (by decide) lf_X0_18 rfl (gFs_cm1 hk) dX0_isFreeToCome_13 ?_
    refine j_iload_n C dX0_isFreeToCome_16 rfl ?_
    refine q_callV C (sp_X4_at G _ (gCm_t2 hk) hp) vX4_at lk_X0_43 (gCm_t2 hk).1 (gTr_lt (gCm_t2 hk)) rfl rfl (Nat.le_of_ble_eq_true rfl) (by decide) dX0_isFreeToCome_17 ?_
    rw [(hc p hp).2.1]
    refine j_iconst C (v := -1) dX0_isFreeToCome_20 rfl ?_
    refine q_icmp_eqN C 37 dX0_isFreeToCome_21 (by decide) (fun v hv => nI_lt8 hu hp v hv) (fun h21 => ?_) (fun v21 h21 => ?_)
    · refine j_iconst C (v := nI 0) dX0_isFreeToCome_37 rfl ?_
      exact q_zret C CM rfl (by decide) (by decide) dX0_isFreeToCome_38 (by unfold cmB; simp only [*]; rfl) rfl
    · refine j_aload_n C dX0_isFreeToCome_24 rfl ?_
      refine j_iload_n C dX0_isFreeToCome_25 rfl ?_
      refine q_callV C (sp_X0_source G M hk hp) vX0_source lk_X0_56 (gCm_k (hk)) (gCm_lt (hk)) rfl rfl (Nat.le_of_ble_eq_true rfl) (by decide) dX0_isFreeToCome_26 ?_
      rw [(hc p hp).2.2.2]
      refine j_iconst C (v := -1) dX0_isFreeToCome_29 rfl ?_
      refine q_icmp_neN C 37 dX0_isFreeToCome_30 (by decide) (fun v hv => Nat.lt_trans (src_lt hv) (by decide)) (fun v30 h30 => ?_) (fun h30 => ?_)
      · refine j_iconst C (v := nI 0) dX0_isFreeToCome_37 rfl ?_
        exact q_zret C CM rfl (by decide) (by decide) dX0_isFreeToCome_38 (by unfold cmB; simp only [*]; rfl) rfl
      · refine j_iconst C (v := nI 1) dX0_isFreeToCome_33 rfl ?_
        refine j_goto C 38 dX0_isFreeToCome_34 ?_ (by decide)
        exact q_zret C CM rfl (by decide) (by decide) dX0_isFreeToCome_38 (by unfold cmB; simp only [*]; rfl) rfl
set_option maxHeartbeats 4000000 in
set_option maxRecDepth 100000 in
theorem sp_X0_placeOf (G : gG) (M : gMem) {k : Nat} (hk : gCm k) {t u mv : Nat → Option Nat} (hc : gCp M k t u mv) (ht : gTn t) (hu : gTn u) {p : Nat} (hp : p < 8) : SpR G mX0_placeOf (gRm 1 0) [.ref (gb G + k), .int (nI p)] M (some (.int (oI (plO u mv p)))) M := by
  refine Sp.of (by decide +kernel) (Nat.le_of_ble_eq_true rfl) (fun X C CM => ?_)
  have C : gC G X RX0 cX0_placeOf 2 (gRm 1 0) := C
  refine j_aload_n C dX0_placeOf_0 rfl ?_
  refine q_get C fX0 1 (gCm_k hk) (gCm_lt hk) (by decide) lf_X0_18 rfl (gFs_cm1 hk) dX0_placeOf_1 ?_
  refine j_iload_n C dX0_placeOf_4 rfl ?_
  refine q_callV C (sp_X4_at G _ (gCm_t2 hk) hp) vX4_at lk_X0_43 (gCm_t2 hk).1 (gTr_lt (gCm_t2 hk)) rfl rfl (Nat.le_of_ble_eq_true rfl) (by decide) dX0_placeOf_5 ?_
  rw [(hc p hp).2.1]
  refine j_iconst C (v := -1) dX0_placeOf_8 rfl ?_
  refine q_icmp_eqN C 16 dX0_placeOf_9 (by decide) (fun v hv => nI_lt8 hu hp v hv) (fun h9 => ?_) (fun v9 h9 => ?_)
  · refine j_aload_n C dX0_placeOf_16 rfl ?_
    refine j_iload_n C dX0_placeOf_17 rfl ?_
    refine q_callV C (sp_X0_target G M hk hp) vX0_target lk_X0_53 (gCm_k (hk)) (gCm_lt (hk)) rfl rfl (Nat.le_of_ble_eq_true rfl) (by decide) dX0_placeOf_18 ?_
    rw [(hc p hp).2.2.1]
    exact q_iret C CM rfl (by decide) (by decide) dX0_placeOf_21 (by first | (rw [pl_t h9]; rfl) | rw [pl_f h9]) rfl
  · refine j_iload_n C dX0_placeOf_12 rfl ?_
    refine j_goto C 21 dX0_placeOf_13 ?_ (by decide)
    exact q_iret C CM rfl (by decide) (by decide) dX0_placeOf_21 (by first | (rw [pl_t h9]; rfl) | rw [pl_f h9]) rfl
set_option maxHeartbeats 4000000 in
set_option maxRecDepth 100000 in
theorem sp_X0_isNowhereOrUnchanged (G : gG) (M : gMem) {k : Nat} (hk : gCm k) {t u mv : Nat → Option Nat} (hc : gCp M k t u mv) (ht : gTn t) (hu : gTn u) (hm : gMv t u mv) {p : Nat} (hp : p < 8) : SpR G mX0_isNowhereOrUnchanged (gRm 2 0) [.ref (gb G + k), .int (nI p)] M (some (.int (bI (nuB t u mv p)))) M := by
  refine Sp.of (by decide +kernel) (Nat.le_of_ble_eq_true rfl) (fun X C CM => ?_)
  have C : gC G X RX0 cX0_isNowhereOrUnchanged 2 (gRm 2 0) := C
  refine j_aload_n C dX0_isNowhereOrUnchanged_0 rfl ?_
  refine j_iload_n C dX0_isNowhereOrUnchanged_1 rfl ?_
  refine q_callV C (sp_X0_placeOf G M hk hc ht hu hp) vX0_placeOf lk_X0_59 (gCm_k (hk)) (gCm_lt (hk)) rfl rfl (Nat.le_of_ble_eq_true rfl) (by decide) dX0_isNowhereOrUnchanged_2 ?_
  refine j_iconst C (v := -1) dX0_isNowhereOrUnchanged_5 rfl ?_
  refine q_icmp_eqN C 28 dX0_isNowhereOrUnchanged_6 (by decide) (fun v hv => Nat.lt_trans (pl_lt hm hp hv).1 (by decide)) (fun h6 => ?_) (fun v6 h6 => ?_)
  · refine j_iconst C (v := nI 1) dX0_isNowhereOrUnchanged_28 rfl ?_
    refine j_goto C 33 dX0_isNowhereOrUnchanged_29 ?_ (by decide)
    exact q_zret C CM rfl (by decide) (by decide) dX0_isNowhereOrUnchanged_33 (by first | (rw [nu_w h6]; rfl) | (rw [nu_f h6 h25]; rfl) | (rw [nu_t ht hu hp h6 h25]; rfl) | (rw [nu_t ht hu hp h6 (Classical.not_not.mp h25)]; rfl)) rfl
  · refine j_aload_n C dX0_isNowhereOrUnchanged_9 rfl ?_
    refine q_get C fX0 1 (gCm_k hk) (gCm_lt hk) (by decide) lf_X0_18 rfl (gFs_cm1 hk) dX0_isNowhereOrUnchanged_10 ?_
    refine j_iload_n C dX0_isNowhereOrUnchanged_13 rfl ?_
    refine q_callV C (sp_X4_at G _ (gCm_t2 hk) hp) vX4_at lk_X0_43 (gCm_t2 hk).1 (gTr_lt (gCm_t2 hk)) rfl rfl (Nat.le_of_ble_eq_true rfl) (by decide) dX0_isNowhereOrUnchanged_14 ?_
    rw [(hc p hp).2.1]
    refine j_aload_n C dX0_isNowhereOrUnchanged_17 rfl ?_
    refine q_get C fX0 0 (gCm_k hk) (gCm_lt hk) (by decide) lf_X0_12 rfl (gFs_cm0 hk) dX0_isNowhereOrUnchanged_18 ?_
    refine j_iload_n C dX0_isNowhereOrUnchanged_21 rfl ?_
    refine q_callV C (sp_X4_at G _ (gCm_t1 hk) hp) vX4_at lk_X0_43 (gCm_t1 hk).1 (gTr_lt (gCm_t1 hk)) rfl rfl (Nat.le_of_ble_eq_true rfl) (by decide) dX0_isNowhereOrUnchanged_22 ?_
    rw [(hc p hp).1]
    refine j_icmp_ne C 32 dX0_isNowhereOrUnchanged_25 (fun h25 => ?_) (fun h25 => ?_) (by decide)
    · refine j_iconst C (v := nI 0) dX0_isNowhereOrUnchanged_32 rfl ?_
      exact q_zret C CM rfl (by decide) (by decide) dX0_isNowhereOrUnchanged_33 (by first | (rw [nu_w h6]; rfl) | (rw [nu_f h6 h25]; rfl) | (rw [nu_t ht hu hp h6 h25]; rfl) | (rw [nu_t ht hu hp h6 (Classical.not_not.mp h25)]; rfl)) rfl
    · refine j_iconst C (v := nI 1) dX0_isNowhereOrUnchanged_28 rfl ?_
      refine j_goto C 33 dX0_isNowhereOrUnchanged_29 ?_ (by decide)
      exact q_zret C CM rfl (by decide) (by decide) dX0_isNowhereOrUnchanged_33 (by first | (rw [nu_w h6]; rfl) | (rw [nu_f h6 h25]; rfl) | (rw [nu_t ht hu hp h6 h25]; rfl) | (rw [nu_t ht hu hp h6 (Classical.not_not.mp h25)]; rfl)) rfl
set_option maxHeartbeats 4000000 in
set_option maxRecDepth 100000 in
theorem sp_X0_newContentAt (G : gG) (M : gMem) {k : Nat} (hk : gCm k) {t u mv : Nat → Option Nat} (hc : gCp M k t u mv) (ht : gTn t) (hu : gTn u) {p : Nat} (hp : p < 8) : SpR G mX0_newContentAt (gRm 2 0) [.ref (gb G + k), .int (nI p)] M (some (.int (oI (nwO t u mv p)))) M := by
  refine Sp.of (by decide +kernel) (Nat.le_of_ble_eq_true rfl) (fun X C CM => ?_)
  have C : gC G X RX0 cX0_newContentAt 2 (gRm 2 0) := C
  refine j_aload_n C dX0_newContentAt_0 rfl ?_
  refine j_iload_n C dX0_newContentAt_1 rfl ?_
  refine q_callV C (sp_X0_isFreeToCome G M hk hc ht hu hp) vX0_isFreeToCome lk_X0_40 (gCm_k (hk)) (gCm_lt (hk)) rfl rfl (Nat.le_of_ble_eq_true rfl) (by decide) dX0_newContentAt_2 ?_
  refine q_if_eq0 C 19 dX0_newContentAt_5 (by decide) (fun h5 => ?_) (fun h5 => ?_)
  · refine j_iconst C (v := -1) dX0_newContentAt_19 rfl ?_
    exact q_iret C CM rfl (by decide) (by decide) dX0_newContentAt_20 (by unfold nwO; rw [h5]; rfl) rfl
  · refine j_aload_n C dX0_newContentAt_8 rfl ?_
    refine q_get C fX0 1 (gCm_k hk) (gCm_lt hk) (by decide) lf_X0_18 rfl (gFs_cm1 hk) dX0_newContentAt_9 ?_
    refine j_iload_n C dX0_newContentAt_12 rfl ?_
    refine q_callV C (sp_X4_at G _ (gCm_t2 hk) hp) vX4_at lk_X0_43 (gCm_t2 hk).1 (gTr_lt (gCm_t2 hk)) rfl rfl (Nat.le_of_ble_eq_true rfl) (by decide) dX0_newContentAt_13 ?_
    rw [(hc p hp).2.1]
    refine j_goto C 20 dX0_newContentAt_16 ?_ (by decide)
    exact q_iret C CM rfl (by decide) (by decide) dX0_newContentAt_20 (by unfold nwO; rw [h5]; rfl) rfl
