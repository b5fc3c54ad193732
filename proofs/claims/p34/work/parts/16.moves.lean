theorem like_le (a b : Nat) : like a b ≤ 4 := cnt_le _ 4
theorem oI_gv {t : Nat → Option Nat} {p : Nat} (h : (t p).isSome = true) : oI (t p) = nI (gv t p) := by
  rw [some_gv h]
  unfold gv
  rfl
def mvD (t u : Nat → Option Nat) : Nat → Nat → Option Nat
  | 0 => fun _ => none
  | j + 1 => mvP t u (4 - j) 8 (mvD t u j)
theorem mvD_s (t u : Nat → Option Nat) (j : Nat) : mvD t u (j + 1) = mvP t u (4 - j) 8 (mvD t u j) := rfl
theorem mvD_2 (t u : Nat → Option Nat) : mvD t u 2 = moves t u := rfl
theorem mv_D (t u : Nat → Option Nat) : ∀ j, gMv t u (mvD t u j) := by
  intro j
  cases j with
  | zero => exact mv_0 t u
  | succ j => 
    induction j with
    | zero => exact mv_P (mv_0 t u)
    | succ j ih => exact mv_P ih
/-- the rows of a tree hold it -/
def gRo (M : gMem) (o : Nat) (t : Nat → Option Nat) : Prop := ∀ p, p < 8 → M.1 o p = oI (t p)
theorem ro_cp (M : gMem) {a o : Nat} {t : Nat → Option Nat} (h : gRo M a t) : gRo (sI M o (cpF (M.1 a) (M.1 o) 8)) o t := fun p hp => by
  rw [sI_s, cpF_lt hp]; exact h p hp
theorem ro_n {M : gMem} {o a : Nat} {t : Nat → Option Nat} (f : Nat → Int32) (h : gRo M a t) (e : a ≠ o) : gRo (sI M o f) a t := fun p hp => by
  rw [sI_n _ _ e]; exact h p hp
theorem ro_sc {lo hi : Nat} {M M' : gMem} {a : Nat} {t : Nat → Option Nat} (h : gRo M a t) (hs : gSc lo hi M M') (e : a < lo ∨ hi < a) : gRo M' a t := fun p hp => by
  rw [hs.2 a e]; exact h p hp
theorem cp_mv {M : gMem} {k : Nat} {t u mv mv' : Nat → Option Nat} (h : gCp M k t u mv) (e : mv = mv') : gCp M k t u mv' := e ▸ h
theorem run_ini {M : gMem} {k i : Nat} (h : ∀ p, p < i → M.1 (k + 5) p = -1 ∧ M.1 (k + 6) p = -1) : ∀ p, p < i + 1 → (sI (sI M (k + 5) (upd (M.1 (k + 5)) i (-1))) (k + 6) (upd ((sI M (k + 5) (upd (M.1 (k + 5)) i (-1))).1 (k + 6)) i (-1))).1 (k + 5) p = -1 ∧ (sI (sI M (k + 5) (upd (M.1 (k + 5)) i (-1))) (k + 6) (upd ((sI M (k + 5) (upd (M.1 (k + 5)) i (-1))).1 (k + 6)) i (-1))).1 (k + 6) p = -1 := by
  intro p hp
  rw [sI_s, sI_n _ _ (show k + 5 ≠ k + 6 by omega), sI_n _ _ (show k + 6 ≠ k + 5 by omega), sI_s]
  by_cases e : p = i
  · rw [e, upd_s, upd_s]; exact ⟨rfl, rfl⟩
  · rw [upd_n _ _ e, upd_n _ _ e]; exact h p (by omega)
theorem run_cp {M : gMem} {k : Nat} {t u : Nat → Option Nat} (h2 : gRo M (k + 2) t) (h4 : gRo M (k + 4) u) (h : ∀ p, p < 8 → M.1 (k + 5) p = -1 ∧ M.1 (k + 6) p = -1) : gCp M k t u (fun _ => none) := fun p hp => ⟨h2 p hp, h4 p hp, (h p hp).1, by rw [(h p hp).2, src_0]; rfl⟩
set_option maxHeartbeats 4000000 in
set_option maxRecDepth 100000 in
theorem sp_X0_takeMoves (G : gG) (M : gMem) {k : Nat} (hk : gCm k) {t u mv : Nat → Option Nat} (hc : gCp M k t u mv) (ht : gTn t) (hu : gTn u) (hm : gMv t u mv) {l : Nat} (hl : l < 2 ^ 31) : SpS G mX0_takeMoves (gRm 2 0) [.ref (gb G + k), .int (nI l)] M (none) (fun M2 => gSc (k + 5) (k + 6) M M2 ∧ gCp M2 k t u (mvP t u l 8 mv)) := by
  refine Sp.of (by decide +kernel) (Nat.le_of_ble_eq_true rfl) (fun X C CM => ?_)
  have C : gC G X RX0 cX0_takeMoves 4 (gRm 2 0) := C
  refine j_iconst C (v := nI 0) dX0_takeMoves_0 rfl ?_
  refine j_istore_n C dX0_takeMoves_1 (by decide) rfl ?_
  have K2 : ∀ i, i ≤ 8 → ∀ M2, gSc (k + 5) (k + 6) M M2 → gCp M2 k t u (mvP t u l i mv) → Q G X 0 0 2 [some (.ref (gb G + k)), some (.int (nI l)), some (.int (nI i)), none] [] (M2) := by
    refine g_up _ _ (fun i hi ih => ?_)
    intro M2 s2 c2
    refine j_iload_n C dX0_takeMoves_2 rfl ?_
    refine j_bipush C (v := nI 8) dX0_takeMoves_3 rfl ?_
    refine q_icmp_ge C 81 dX0_takeMoves_5 (by decide) (by omega) (by omega) (fun h5 => ?_) (fun h5 => ?_)
    · exact q_vretS C CM rfl (by decide) (by decide) dX0_takeMoves_81 ⟨s2, cp_mv c2 (by rw [show i = 8 by omega])⟩
    · refine j_iconst C (v := nI 0) dX0_takeMoves_8 rfl ?_
      refine j_istore_n C dX0_takeMoves_9 (by decide) rfl ?_
      have K10 : ∀ j, j ≤ 8 → ∀ M3, gSc (k + 5) (k + 6) M M3 → gCp M3 k t u (mvQ t u l i j (mvP t u l i mv)) → Q G X 0 0 10 [some (.ref (gb G + k)), some (.int (nI l)), some (.int (nI i)), some (.int (nI j))] [] (M3) := by
        refine g_up _ _ (fun j hj ihj => ?_)
        intro M3 s3 c3
        refine j_iload_n C dX0_takeMoves_10 rfl ?_
        refine j_bipush C (v := nI 8) dX0_takeMoves_11 rfl ?_
        refine q_icmp_ge C 75 dX0_takeMoves_13 (by decide) (by omega) (by omega) (fun h13 => ?_) (fun h13 => ?_)
        · refine q_iinc C dX0_takeMoves_75 rfl (by decide) rfl ?_
          refine j_goto C 2 dX0_takeMoves_78 ?_ (by decide)
          exact q_cast (ih (by omega) _ s3 (cp_mv c3 (by first | (rw [mvP_s, show j = 8 by omega]) | (rw [mvP_s, show (8 : Nat) = j + (8 - j) by omega, mvQ_end h21])))) (gLe_c rfl (gLe_c rfl (gLe_c rfl (gLe_n gLe_0)))) (rfl)
        · refine j_aload_n C dX0_takeMoves_16 rfl ?_
          refine j_iload_n C dX0_takeMoves_17 rfl ?_
          refine q_callV C (sp_X0_isFreeToLeave G M3 hk c3 ht hu (mv_Q (n := j) (p := i) (l := l) (mv_P (n := i) (l := l) hm) (by omega)) h5) vX0_isFreeToLeave lk_X0_36 (gCm_k (hk)) (gCm_lt (hk)) rfl rfl (Nat.le_of_ble_eq_true rfl) (by decide) dX0_takeMoves_18 ?_
          refine q_if_eq0 C 75 dX0_takeMoves_21 (by decide) (fun h21 => ?_) (fun h21 => ?_)
          · refine q_iinc C dX0_takeMoves_75 rfl (by decide) rfl ?_
            refine j_goto C 2 dX0_takeMoves_78 ?_ (by decide)
            exact q_cast (ih (by omega) _ s3 (cp_mv c3 (by first | (rw [mvP_s, show j = 8 by omega]) | (rw [mvP_s, show (8 : Nat) = j + (8 - j) by omega, mvQ_end h21])))) (gLe_c rfl (gLe_c rfl (gLe_c rfl (gLe_n gLe_0)))) (rfl)
          · refine j_aload_n C dX0_takeMoves_24 rfl ?_
            refine j_iload_n C dX0_takeMoves_25 rfl ?_
            refine q_callV C (sp_X0_isFreeToCome G M3 hk c3 ht hu h13) vX0_isFreeToCome lk_X0_40 (gCm_k (hk)) (gCm_lt (hk)) rfl rfl (Nat.le_of_ble_eq_true rfl) (by decide) dX0_takeMoves_26 ?_
            refine q_if_eq0 C 69 dX0_takeMoves_29 (by decide) (fun h29 => ?_) (fun h29 => ?_)
            · refine q_iinc C dX0_takeMoves_69 rfl (by decide) rfl ?_
              refine j_goto C 10 dX0_takeMoves_72 ?_ (by decide)
              exact q_cast (ihj (by omega) _ (by first | exact s3 | exact sc_trans s3 (sc_trans (sc_sI _ _ (by omega) (by omega)) (sc_sI _ _ (by omega) (by omega)))) (by first | exact cp_mv c3 (by rw [mvQ_s, mvS_no (Or.inr (Or.inl h29))]) | exact cp_mv c3 (by rw [mvQ_s, mvS_no (Or.inr (Or.inr h52))]) | exact cp_mv (cp_set c3 h5 h13 h21 h29) (by rw [mvQ_s, mvS_go h21 h29 h52]))) (gLe_c rfl (gLe_c rfl (gLe_c rfl (gLe_c rfl gLe_0)))) (rfl)
            · refine j_aload_n C dX0_takeMoves_32 rfl ?_
              refine q_get C fX0 0 (gCm_k hk) (gCm_lt hk) (by decide) lf_X0_12 rfl (gFs_cm0 hk) dX0_takeMoves_33 ?_
              refine j_iload_n C dX0_takeMoves_36 rfl ?_
              refine q_callV C (sp_X4_at G _ (gCm_t1 hk) h5) vX4_at lk_X0_43 (gCm_t1 hk).1 (gTr_lt (gCm_t1 hk)) rfl rfl (Nat.le_of_ble_eq_true rfl) (by decide) dX0_takeMoves_37 ?_
              rw [(c3 i h5).1, oI_gv (lv_iff.mp h21).1]
              refine j_aload_n C dX0_takeMoves_40 rfl ?_
              refine q_get C fX0 1 (gCm_k hk) (gCm_lt hk) (by decide) lf_X0_18 rfl (gFs_cm1 hk) dX0_takeMoves_41 ?_
              refine j_iload_n C dX0_takeMoves_44 rfl ?_
              refine q_callV C (sp_X4_at G _ (gCm_t2 hk) h13) vX4_at lk_X0_43 (gCm_t2 hk).1 (gTr_lt (gCm_t2 hk)) rfl rfl (Nat.le_of_ble_eq_true rfl) (by decide) dX0_takeMoves_45 ?_
              rw [(c3 j h13).2.1, oI_gv (cm_iff.mp h29).2.1]
              refine q_callS C (sp_X2_likeness G _ (gv_lt ht h5) (gv_lt hu h13)) vX2_likeness lk_X0_47 rfl rfl (Nat.le_of_ble_eq_true rfl) (by decide) dX0_takeMoves_48 ?_
              have hlk := like_le (gv t i) (gv u j)
              refine j_iload_n C dX0_takeMoves_51 rfl ?_
              refine q_icmp_ne C 69 dX0_takeMoves_52 (by decide) (by omega) (by omega) (fun h52 => ?_) (fun h52 => ?_)
              · refine q_iinc C dX0_takeMoves_69 rfl (by decide) rfl ?_
                refine j_goto C 10 dX0_takeMoves_72 ?_ (by decide)
                exact q_cast (ihj (by omega) _ (by first | exact s3 | exact sc_trans s3 (sc_trans (sc_sI _ _ (by omega) (by omega)) (sc_sI _ _ (by omega) (by omega)))) (by first | exact cp_mv c3 (by rw [mvQ_s, mvS_no (Or.inr (Or.inl h29))]) | exact cp_mv c3 (by rw [mvQ_s, mvS_no (Or.inr (Or.inr h52))]) | exact cp_mv (cp_set c3 h5 h13 h21 h29) (by rw [mvQ_s, mvS_go h21 h29 h52]))) (gLe_c rfl (gLe_c rfl (gLe_c rfl (gLe_c rfl gLe_0)))) (rfl)
              · refine j_aload_n C dX0_takeMoves_55 rfl ?_
                refine q_get C fX0 2 (gCm_k hk) (gCm_lt hk) (by decide) lf_X0_21 rfl (gFs_cm2 hk) dX0_takeMoves_56 ?_
                refine j_iload_n C dX0_takeMoves_59 rfl ?_
                refine j_iload_n C dX0_takeMoves_60 rfl ?_
                refine q_iast C (gKd_c5 hk) (gCm_l5 hk) (by decide) (by omega) dX0_takeMoves_61 ?_
                refine j_aload_n C dX0_takeMoves_62 rfl ?_
                refine q_get C fX0 3 (gCm_k hk) (gCm_lt hk) (by decide) lf_X0_25 rfl (gFs_cm3 hk) dX0_takeMoves_63 ?_
                refine j_iload_n C dX0_takeMoves_66 rfl ?_
                refine j_iload_n C dX0_takeMoves_67 rfl ?_
                refine q_iast C (gKd_c6 hk) (gCm_l6 hk) (by decide) (by omega) dX0_takeMoves_68 ?_
                refine q_iinc C dX0_takeMoves_69 rfl (by decide) rfl ?_
                refine j_goto C 10 dX0_takeMoves_72 ?_ (by decide)
                exact q_cast (ihj (by omega) _ (by first | exact s3 | exact sc_trans s3 (sc_trans (sc_sI _ _ (by omega) (by omega)) (sc_sI _ _ (by omega) (by omega)))) (by first | exact cp_mv c3 (by rw [mvQ_s, mvS_no (Or.inr (Or.inl h29))]) | exact cp_mv c3 (by rw [mvQ_s, mvS_no (Or.inr (Or.inr h52))]) | exact cp_mv (cp_set c3 h5 h13 h21 h29) (by rw [mvQ_s, mvS_go h21 h29 h52]))) (gLe_c rfl (gLe_c rfl (gLe_c rfl (gLe_c rfl gLe_0)))) (rfl)
      exact q_cast (K10 0 (by omega) _ s2 c2) (gLe_c rfl (gLe_c rfl (gLe_c rfl (gLe_c rfl gLe_0)))) (rfl)
  exact q_cast (K2 0 (by omega) _ (sc_refl _) hc) (gLe_c rfl (gLe_c rfl (gLe_c rfl (gLe_n gLe_0)))) (rfl)
set_option maxHeartbeats 4000000 in
set_option maxRecDepth 100000 in
theorem sp_X0_run (G : gG) (M : gMem) {k : Nat} (hk : gCm k) {t u : Nat → Option Nat} (ht : gTn t) (hu : gTn u) {a b : Nat} (hrt : gRo M (a + 1) t) (hru : gRo M (b + 1) u) (hta : gTr a) (htb : gTr b) (ha : a < 130) (hb : b < 130) : SpS G mX0_run (gRm 3 0) [.ref (gb G + k), .ref (gb G + a), .ref (gb G + b)] M (none) (fun M2 => gSc k (k + 6) M M2 ∧ gCp M2 k t u (moves t u)) := by
  refine Sp.of (by decide +kernel) (Nat.le_of_ble_eq_true rfl) (fun X C CM => ?_)
  have C : gC G X RX0 cX0_run 4 (gRm 3 0) := C
  have hkk : 131 ≤ k := by rcases hk with rfl | rfl <;> decide
  refine j_aload_n C dX0_run_0 rfl ?_
  refine q_get C fX0 0 (gCm_k hk) (gCm_lt hk) (by decide) lf_X0_12 rfl (gFs_cm0 hk) dX0_run_1 ?_
  refine j_aload_n C dX0_run_4 rfl ?_
  refine q_callV C (sp_X4_copy G _ (gCm_t1 hk) hta (by omega)) vX4_copy lk_X0_28 (gCm_t1 hk).1 (gTr_lt (gCm_t1 hk)) rfl rfl (Nat.le_of_ble_eq_true rfl) (by decide) dX0_run_5 ?_
  refine j_aload_n C dX0_run_8 rfl ?_
  refine q_get C fX0 1 (gCm_k hk) (gCm_lt hk) (by decide) lf_X0_18 rfl (gFs_cm1 hk) dX0_run_9 ?_
  refine j_aload_n C dX0_run_12 rfl ?_
  refine q_callV C (sp_X4_copy G _ (gCm_t2 hk) htb (by omega)) vX4_copy lk_X0_28 (gCm_t2 hk).1 (gTr_lt (gCm_t2 hk)) rfl rfl (Nat.le_of_ble_eq_true rfl) (by decide) dX0_run_13 ?_
  refine j_iconst C (v := nI 0) dX0_run_16 rfl ?_
  refine j_istore_n C dX0_run_17 (by decide) rfl ?_
  have K18 : ∀ i, i ≤ 8 → ∀ M2, gSc k (k + 6) M M2 → gRo M2 (k + 2) t → gRo M2 (k + 4) u → (∀ p, p < i → M2.1 (k + 5) p = -1 ∧ M2.1 (k + 6) p = -1) → Q G X 0 0 18 [some (.ref (gb G + k)), none, none, some (.int (nI i))] [] (M2) := by
    refine g_up _ _ (fun i hi ih => ?_)
    intro M2 s2 r2 r4 c2
    refine j_iload_n C dX0_run_18 rfl ?_
    refine j_bipush C (v := nI 8) dX0_run_19 rfl ?_
    refine q_icmp_ge C 44 dX0_run_21 (by decide) (by omega) (by omega) (fun h21 => ?_) (fun h21 => ?_)
    · refine j_iconst C (v := nI 4) dX0_run_44 rfl ?_
      refine j_istore_n C dX0_run_45 (by decide) rfl ?_
      have K46 : ∀ i, i ≤ 2 → ∀ M3, gSc k (k + 6) M M3 → gCp M3 k t u (mvD t u i) → Q G X 0 0 46 [some (.ref (gb G + k)), none, none, some (.int (nI (4 - i)))] [] (M3) := by
        refine g_up _ _ (fun i hi ih => ?_)
        intro M3 s3 c3
        refine j_iload_n C dX0_run_46 rfl ?_
        refine j_iconst C (v := nI 3) dX0_run_47 rfl ?_
        refine q_icmp_lt C 62 dX0_run_48 (by decide) (by omega) (by omega) (fun h48 => ?_) (fun h48 => ?_)
        · exact q_vretS C CM rfl (by decide) (by decide) dX0_run_62 ⟨s3, cp_mv c3 (by rw [show i = 2 by omega, mvD_2])⟩
        · refine j_aload_n C dX0_run_51 rfl ?_
          refine j_iload_n C dX0_run_52 rfl ?_
          refine q_callVS C (sp_X0_takeMoves G M3 hk c3 ht hu (mv_D t u i) (l := 4 - i) (by omega)) vX0_takeMoves lk_X0_32 (gCm_k (hk)) (gCm_lt (hk)) rfl rfl (Nat.le_of_ble_eq_true rfl) (by decide) dX0_run_53 (fun M4 hM4 => ?_)
          refine q_idec C (a := 3 - i) dX0_run_56 (by rw [show 3 - i + 1 = 4 - i by omega]; rfl) (by decide) rfl ?_
          refine j_goto C 46 dX0_run_59 ?_ (by decide)
          exact q_cast (ih (by omega) _ (sc_trans s3 (sc_mono hM4.1 (by omega) (by omega))) hM4.2) (gLe_c rfl (gLe_n (gLe_n (gLe_c (by rw [show 4 - (i + 1) = 3 - i by omega]) gLe_0)))) (rfl)
      exact q_cast (K46 0 (by omega) _ s2 (run_cp r2 r4 (by rw [show i = 8 by omega] at c2; exact c2))) (gLe_c rfl (gLe_n (gLe_n (gLe_c rfl gLe_0)))) (rfl)
    · refine j_aload_n C dX0_run_24 rfl ?_
      refine q_get C fX0 2 (gCm_k hk) (gCm_lt hk) (by decide) lf_X0_21 rfl (gFs_cm2 hk) dX0_run_25 ?_
      refine j_iload_n C dX0_run_28 rfl ?_
      refine j_iconst C (v := -1) dX0_run_29 rfl ?_
      refine q_iast C (gKd_c5 hk) (gCm_l5 hk) (by decide) (by omega) dX0_run_30 ?_
      refine j_aload_n C dX0_run_31 rfl ?_
      refine q_get C fX0 3 (gCm_k hk) (gCm_lt hk) (by decide) lf_X0_25 rfl (gFs_cm3 hk) dX0_run_32 ?_
      refine j_iload_n C dX0_run_35 rfl ?_
      refine j_iconst C (v := -1) dX0_run_36 rfl ?_
      refine q_iast C (gKd_c6 hk) (gCm_l6 hk) (by decide) (by omega) dX0_run_37 ?_
      refine q_iinc C dX0_run_38 rfl (by decide) rfl ?_
      refine j_goto C 18 dX0_run_41 ?_ (by decide)
      exact q_cast (ih (by omega) _ (sc_trans s2 (sc_trans (sc_sI _ _ (by omega) (by omega)) (sc_sI _ _ (by omega) (by omega)))) (ro_n _ (ro_n _ r2 (by omega)) (by omega)) (ro_n _ (ro_n _ r4 (by omega)) (by omega)) (run_ini c2)) (gLe_c rfl (gLe_n (gLe_n (gLe_c rfl gLe_0)))) (rfl)
  exact q_cast (K18 0 (by omega) _ (sc_trans (sc_sI _ _ (by omega) (by omega)) (sc_sI _ _ (by omega) (by omega))) (ro_n _ (ro_cp _ hrt) (by omega)) (ro_cp _ (ro_n _ hru (by omega))) (fun p hp => absurd hp (by omega))) (gLe_c rfl (gLe_n (gLe_n (gLe_c rfl gLe_0)))) (rfl)
