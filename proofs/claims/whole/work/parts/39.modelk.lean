/-- the model's pack holds P -/
def gPmm (P : gPk) (M : gMem) : Prop := M.2.2.1 156 20 = nI P.1 ∧ ∀ k, k < P.1 → M.1 229 k = nI (P.2.1 k) ∧ M.1 230 k = nI (P.2.2.1 k) ∧ M.1 231 k = nI (P.2.2.2.1 k) ∧ M.1 232 k = oI (P.2.2.2.2 k)
def pkW (M : gMem) (n : Nat) (c s d f : Int32) : gMem := sF (sI (sI (sI (sI M 229 (upd (M.1 229) n c)) 230 (upd (M.1 230) n s)) 231 (upd (M.1 231) n d)) 232 (upd (M.1 232) n f)) 156 20 (nI (n + 1))
theorem kz_sF20 (M : gMem) (v : Int32) : gKz M (sF M 156 20 v) := ⟨km_sF M v (by decide), sF_ne _ _ (by decide)⟩
theorem pkW_kz (M : gMem) (n : Nat) (c s d f : Int32) : gKz M (pkW M n c s d f) := kt_trans (kt_trans (kt_trans (kt_trans (kt_sI M _ (by decide)) (kt_sI _ _ (by decide))) (kt_sI _ _ (by decide))) (kt_sI _ _ (by decide))) (kz_sF20 _ _)
theorem pkW_229 (M : gMem) (n : Nat) (c s d f : Int32) : (pkW M n c s d f).1 229 = upd (M.1 229) n c := rfl
theorem pkW_230 (M : gMem) (n : Nat) (c s d f : Int32) : (pkW M n c s d f).1 230 = upd (M.1 230) n s := rfl
theorem pkW_231 (M : gMem) (n : Nat) (c s d f : Int32) : (pkW M n c s d f).1 231 = upd (M.1 231) n d := rfl
theorem pkW_232 (M : gMem) (n : Nat) (c s d f : Int32) : (pkW M n c s d f).1 232 = upd (M.1 232) n f := rfl
theorem pkW_p {P : gPk} {M : gMem} {c : Nat} {y : Int32} (h : gPmm P M) (hf : pkF P (nI c) = none) (hy : y = nI (pkD P (pkB P c P.1).1)) : gPmm (pkA P c) (pkW M P.1 (nI c) (nI (pkB P c P.1).2) y (oI (pkB P c P.1).1)) := by
  rw [pkA_new hf]
  refine ⟨sF_at _ _ _ _, fun k hk => ?_⟩
  have hk : k < P.1 + 1 := hk
  show _ = nI (vN P.2.1 P.1 c k) ∧ _ = nI (vN P.2.2.1 P.1 (pkB P c P.1).2 k) ∧ _ = nI (vN P.2.2.2.1 P.1 (pkD P (pkB P c P.1).1) k) ∧ _ = oI (uO P.2.2.2.2 P.1 (pkB P c P.1).1 k)
  rw [pkW_229, pkW_230, pkW_231, pkW_232]
  by_cases e : k = P.1
  · rw [e, upd_s, upd_s, upd_s, upd_s, vN_s, vN_s, vN_s, uO_s, hy]
    exact ⟨rfl, rfl, rfl, rfl⟩
  · rw [upd_n _ _ e, upd_n _ _ e, upd_n _ _ e, upd_n _ _ e, vN_n _ _ e, vN_n _ _ e, vN_n _ _ e, uO_n _ _ e]
    exact h.2 k (by omega)
set_option maxHeartbeats 4000000 in
set_option maxRecDepth 100000 in
theorem sp_X7_packedAt (G : gG) (M : gMem) {P : gPk} (hP : gPmm P M) (hn : P.1 ≤ 480) (v : Int32) : SpR G mX7_packedAt (gRm 0 0) [.ref (gb G + 156), .int v] M (some (.int (oI (pkF P v)))) M := by
  refine Sp.of (by decide +kernel) (Nat.le_of_ble_eq_true rfl) (fun X C CM => ?_)
  have C : gC G X RX7 cX7_packedAt 3 (gRm 0 0) := C
  refine j_iconst C (v := nI 0) dX7_packedAt_0 rfl ?_
  refine j_istore_n C dX7_packedAt_1 (by decide) rfl ?_
  have K2 : ∀ i, i ≤ P.1 → (∀ k, k < i → decide (nI (P.2.1 k) = v) = false) → Q G X 0 0 2 [some (.ref (gb G + 156)), some (.int v), some (.int (nI i))] [] (M) := by
    refine g_up _ _ (fun i hi ih => ?_)
    intro hm
    refine j_iload_n C dX7_packedAt_2 rfl ?_
    refine j_aload_n C dX7_packedAt_3 rfl ?_
    refine q_get C fX7 20 rfl (by decide) (by decide) lf_X7_195 rfl rfl dX7_packedAt_4 ?_
    rw [hP.1]
    refine q_icmp_ge C 28 dX7_packedAt_7 (by decide) (by omega) (by omega) (fun h7 => ?_) (fun h7 => ?_)
    · refine j_iconst C (v := -1) dX7_packedAt_28 rfl ?_
      exact q_iret C CM rfl (by decide) (by decide) dX7_packedAt_29 (by unfold pkF; rw [first_none.mpr (fun k hk => hm k (by omega))]; rfl) rfl
    · refine j_aload_n C dX7_packedAt_10 rfl ?_
      refine q_get C fX7 16 rfl (by decide) (by decide) lf_X7_53 rfl rfl dX7_packedAt_11 ?_
      refine j_iload_n C dX7_packedAt_14 rfl ?_
      refine q_iald C rfl (by decide) (by decide) (by omega) dX7_packedAt_15 ?_
      rw [(hP.2 i h7).1]
      refine j_iload_n C dX7_packedAt_16 rfl ?_
      refine j_icmp_ne C 22 dX7_packedAt_17 (fun h17 => ?_) (fun h17 => ?_) (by decide)
      · refine q_iinc C dX7_packedAt_22 rfl (by decide) rfl ?_
        refine j_goto C 2 dX7_packedAt_25 ?_ (by decide)
        exact q_cast (ih (by omega) (fun k hk => if e : k = i then (by rw [e]; exact decide_eq_false h17) else hm k (by omega))) (gLe_c rfl (gLe_c rfl (gLe_c rfl gLe_0))) (rfl)
      · refine j_iload_n C dX7_packedAt_20 rfl ?_
        exact q_iret C CM rfl (by decide) (by decide) dX7_packedAt_21 (by unfold pkF; rw [first_some.mpr ⟨h7, decide_eq_true h17, hm⟩]; rfl) rfl
  exact q_cast (K2 0 (by omega) (fun k hk => absurd hk (by omega))) (gLe_c rfl (gLe_c rfl (gLe_c rfl gLe_0))) (rfl)
set_option maxHeartbeats 4000000 in
set_option maxRecDepth 100000 in
theorem sp_X7_packs (G : gG) (M : gMem) {P : gPk} (hP : gPmm P M) (hpi : gPi P) (hn : P.1 < 480) {c : Nat} (hc : c < 10000) (hF : pkF P (nI c) = none) : SpS G mX7_packs (gRm 2 0) [.ref (gb G + 156), .int (nI c)] M (none) (fun M2 => gPmm (pkA P c) M2 ∧ gKz M M2) := by
  refine Sp.of (by decide +kernel) (Nat.le_of_ble_eq_true rfl) (fun X C CM => ?_)
  have C : gC G X RX7 cX7_packs 6 (gRm 2 0) := C
  refine j_iconst C (v := -1) dX7_packs_0 rfl ?_
  refine j_istore_n C dX7_packs_1 (by decide) rfl ?_
  refine j_iconst C (v := nI 4) dX7_packs_2 rfl ?_
  refine j_istore_n C dX7_packs_3 (by decide) rfl ?_
  refine j_iconst C (v := nI 0) dX7_packs_4 rfl ?_
  refine j_istore C dX7_packs_5 (by decide) rfl ?_
  have K7 : ∀ i, i ≤ P.1 → Q G X 0 0 7 [some (.ref (gb G + 156)), some (.int (nI c)), some (.int (oI (pkB P c i).1)), some (.int (nI (pkB P c i).2)), some (.int (nI i)), none] [] (M) := by
    refine g_up _ _ (fun i hi ih => ?_)
    refine j_iload C dX7_packs_7 rfl ?_
    refine j_aload_n C dX7_packs_9 rfl ?_
    refine q_get C fX7 20 rfl (by decide) (by decide) lf_X7_195 rfl rfl dX7_packs_10 ?_
    rw [hP.1]
    refine q_icmp_ge C 60 dX7_packs_13 (by decide) (by omega) (by omega) (fun h13 => ?_) (fun h13 => ?_)
    · obtain rfl : i = P.1 := by omega
      refine j_aload_n C dX7_packs_60 rfl ?_
      refine q_get C fX7 16 rfl (by decide) (by decide) lf_X7_53 rfl rfl dX7_packs_61 ?_
      refine j_aload_n C dX7_packs_64 rfl ?_
      refine q_get C fX7 20 rfl (by decide) (by decide) lf_X7_195 rfl rfl dX7_packs_65 ?_
      rw [hP.1]
      refine j_iload_n C dX7_packs_68 rfl ?_
      refine q_iast C rfl (by decide) (by decide) (by omega) dX7_packs_69 ?_
      refine j_aload_n C dX7_packs_70 rfl ?_
      refine q_get C fX7 17 rfl (by decide) (by decide) lf_X7_56 rfl rfl dX7_packs_71 ?_
      refine j_aload_n C dX7_packs_74 rfl ?_
      refine q_get C fX7 20 rfl (by decide) (by decide) lf_X7_195 rfl rfl dX7_packs_75 ?_
      simp only [sI_2]
      rw [hP.1]
      refine j_iload_n C dX7_packs_78 rfl ?_
      refine q_iast C rfl (by decide) (by decide) (by omega) dX7_packs_79 ?_
      refine j_aload_n C dX7_packs_80 rfl ?_
      refine q_get C fX7 18 rfl (by decide) (by decide) lf_X7_59 rfl rfl dX7_packs_81 ?_
      refine j_aload_n C dX7_packs_84 rfl ?_
      refine q_get C fX7 20 rfl (by decide) (by decide) lf_X7_195 rfl rfl dX7_packs_85 ?_
      simp only [sI_2]
      rw [hP.1]
      refine j_iload_n C dX7_packs_88 rfl ?_
      refine j_iconst C (v := -1) dX7_packs_89 rfl ?_
      refine q_icmp_neN C 97 dX7_packs_90 (by decide) (fun w hw => by have := ((pkB_ok P c P.1).2 w hw).1; omega) (fun v90 h90 => ?_) (fun h90 => ?_)
      · rw [show oI (pkB P c P.1).1 = nI v90 from by rw [h90]; rfl]
        have hb := ((pkB_ok P c P.1).2 v90 h90).1
        refine j_aload_n C dX7_packs_97 rfl ?_
        refine q_get C fX7 18 rfl (by decide) (by decide) lf_X7_59 rfl rfl dX7_packs_98 ?_
        refine j_iload_n C dX7_packs_101 rfl ?_
        refine q_iald C rfl (by decide) (by decide) (by omega) dX7_packs_102 ?_
        simp only [sI_n _ _ (show (231 : Nat) ≠ 230 by decide), sI_n _ _ (show (231 : Nat) ≠ 229 by decide)]
        rw [(hP.2 v90 hb).2.2.1]
        refine j_iconst C (v := nI 1) dX7_packs_103 rfl ?_
        refine q_iadd C dX7_packs_104 ?_
        refine q_iast C rfl (by decide) (by decide) (by omega) dX7_packs_105 ?_
        refine j_aload_n C dX7_packs_106 rfl ?_
        refine q_get C fX7 19 rfl (by decide) (by decide) lf_X7_62 rfl rfl dX7_packs_107 ?_
        refine j_aload_n C dX7_packs_110 rfl ?_
        refine q_get C fX7 20 rfl (by decide) (by decide) lf_X7_195 rfl rfl dX7_packs_111 ?_
        simp only [sI_2]
        rw [hP.1]
        refine j_iload_n C dX7_packs_114 rfl ?_
        refine q_iast C rfl (by decide) (by decide) (by omega) dX7_packs_115 ?_
        refine j_aload_n C dX7_packs_116 rfl ?_
        refine j_dup C dX7_packs_117 rfl ?_
        refine q_get C fX7 20 rfl (by decide) (by decide) lf_X7_195 rfl rfl dX7_packs_118 ?_
        simp only [sI_2]
        rw [hP.1]
        refine j_iconst C (v := nI 1) dX7_packs_121 rfl ?_
        refine q_iadd C dX7_packs_122 ?_
        refine q_putI C fX7 20 rfl (by decide) (by decide) lf_X7_195 rfl rfl rfl (Nat.le_of_ble_eq_true rfl) rfl dX7_packs_123 ?_
        exact q_vretS C CM rfl (by decide) (by decide) dX7_packs_126 (by first | exact ⟨pkW_p hP hF (pkD_n h90), pkW_kz M P.1 _ _ _ _⟩ | (rw [show nI v90 = oI (pkB P c P.1).1 from by rw [h90]; rfl]; exact ⟨pkW_p hP hF (pkD_s h90), pkW_kz M P.1 _ _ _ _⟩))
      · refine j_iconst C (v := nI 0) dX7_packs_93 rfl ?_
        refine j_goto C 105 dX7_packs_94 ?_ (by decide)
        refine q_iast C rfl (by decide) (by decide) (by omega) dX7_packs_105 ?_
        refine j_aload_n C dX7_packs_106 rfl ?_
        refine q_get C fX7 19 rfl (by decide) (by decide) lf_X7_62 rfl rfl dX7_packs_107 ?_
        refine j_aload_n C dX7_packs_110 rfl ?_
        refine q_get C fX7 20 rfl (by decide) (by decide) lf_X7_195 rfl rfl dX7_packs_111 ?_
        simp only [sI_2]
        rw [hP.1]
        refine j_iload_n C dX7_packs_114 rfl ?_
        refine q_iast C rfl (by decide) (by decide) (by omega) dX7_packs_115 ?_
        refine j_aload_n C dX7_packs_116 rfl ?_
        refine j_dup C dX7_packs_117 rfl ?_
        refine q_get C fX7 20 rfl (by decide) (by decide) lf_X7_195 rfl rfl dX7_packs_118 ?_
        simp only [sI_2]
        rw [hP.1]
        refine j_iconst C (v := nI 1) dX7_packs_121 rfl ?_
        refine q_iadd C dX7_packs_122 ?_
        refine q_putI C fX7 20 rfl (by decide) (by decide) lf_X7_195 rfl rfl rfl (Nat.le_of_ble_eq_true rfl) rfl dX7_packs_123 ?_
        exact q_vretS C CM rfl (by decide) (by decide) dX7_packs_126 (by first | exact ⟨pkW_p hP hF (pkD_n h90), pkW_kz M P.1 _ _ _ _⟩ | (rw [show nI v90 = oI (pkB P c P.1).1 from by rw [h90]; rfl]; exact ⟨pkW_p hP hF (pkD_s h90), pkW_kz M P.1 _ _ _ _⟩))
    · refine j_iconst C (v := nI 5) dX7_packs_16 rfl ?_
      refine j_aload_n C dX7_packs_17 rfl ?_
      refine q_get C fX7 16 rfl (by decide) (by decide) lf_X7_53 rfl rfl dX7_packs_18 ?_
      refine j_iload C dX7_packs_21 rfl ?_
      refine q_iald C rfl (by decide) (by decide) (by omega) dX7_packs_23 ?_
      rw [(hP.2 i h13).1]
      refine j_iload_n C dX7_packs_24 rfl ?_
      refine q_callS C (sp_X7_likeness G M (hpi i h13).1 hc) vX7_likeness lk_X7_135 rfl rfl (Nat.le_of_ble_eq_true rfl) (by decide) dX7_packs_25 ?_
      have hlk := like_le (P.2.1 i) c
      refine q_isub C (by omega) dX7_packs_28 ?_
      refine j_istore C dX7_packs_29 (by decide) rfl ?_
      refine j_aload_n C dX7_packs_31 rfl ?_
      refine q_get C fX7 18 rfl (by decide) (by decide) lf_X7_59 rfl rfl dX7_packs_32 ?_
      refine j_iload C dX7_packs_35 rfl ?_
      refine q_iald C rfl (by decide) (by decide) (by omega) dX7_packs_37 ?_
      rw [(hP.2 i h13).2.2.1]
      have hd := (hpi i h13).2.2.1
      have hb4 := (pkB_ok P c i).1
      refine j_iconst C (v := nI 2) dX7_packs_38 rfl ?_
      refine q_icmp_gt C 54 dX7_packs_39 (by decide) (by omega) (by omega) (fun h39 => ?_) (fun h39 => ?_)
      · refine q_iinc C dX7_packs_54 rfl (by decide) rfl ?_
        refine j_goto C 7 dX7_packs_57 ?_ (by decide)
        exact q_cast (ih (by omega)) (gLe_c rfl (gLe_c rfl (gLe_c (by first | rw [pkB_no (Or.inl h39)] | rw [pkB_no (Or.inr h45)] | (rw [pkB_go h39 h45]; rfl)) (gLe_c (by first | rw [pkB_no (Or.inl h39)] | rw [pkB_no (Or.inr h45)] | rw [pkB_go h39 h45]) (gLe_c rfl (gLe_n gLe_0)))))) (rfl)
      · refine j_iload C dX7_packs_42 rfl ?_
        refine j_iload_n C dX7_packs_44 rfl ?_
        refine q_icmp_ge C 54 dX7_packs_45 (by decide) (by omega) (by omega) (fun h45 => ?_) (fun h45 => ?_)
        · refine q_iinc C dX7_packs_54 rfl (by decide) rfl ?_
          refine j_goto C 7 dX7_packs_57 ?_ (by decide)
          exact q_cast (ih (by omega)) (gLe_c rfl (gLe_c rfl (gLe_c (by first | rw [pkB_no (Or.inl h39)] | rw [pkB_no (Or.inr h45)] | (rw [pkB_go h39 h45]; rfl)) (gLe_c (by first | rw [pkB_no (Or.inl h39)] | rw [pkB_no (Or.inr h45)] | rw [pkB_go h39 h45]) (gLe_c rfl (gLe_n gLe_0)))))) (rfl)
        · refine j_iload C dX7_packs_48 rfl ?_
          refine j_istore_n C dX7_packs_50 (by decide) rfl ?_
          refine j_iload C dX7_packs_51 rfl ?_
          refine j_istore_n C dX7_packs_53 (by decide) rfl ?_
          refine q_iinc C dX7_packs_54 rfl (by decide) rfl ?_
          refine j_goto C 7 dX7_packs_57 ?_ (by decide)
          exact q_cast (ih (by omega)) (gLe_c rfl (gLe_c rfl (gLe_c (by first | rw [pkB_no (Or.inl h39)] | rw [pkB_no (Or.inr h45)] | (rw [pkB_go h39 h45]; rfl)) (gLe_c (by first | rw [pkB_no (Or.inl h39)] | rw [pkB_no (Or.inr h45)] | rw [pkB_go h39 h45]) (gLe_c rfl (gLe_n gLe_0)))))) (rfl)
  exact q_cast (K7 0 (by omega)) (gLe_c rfl (gLe_c rfl (gLe_c rfl (gLe_c rfl (gLe_c rfl (gLe_n gLe_0)))))) (rfl)
set_option maxHeartbeats 4000000 in
set_option maxRecDepth 100000 in
theorem sp_X7_packsAll (G : gG) (M : gMem) {A : gSt0} (hA : gAi A) (hk : gRk A M) : SpS G mX7_packsAll (gRm 3 0) [.ref (gb G + 156)] M (none) (fun M2 => gPmm (aP A) M2 ∧ gKz (sF M 156 7 (nI 0)) M2) := by
  refine Sp.of (by decide +kernel) (Nat.le_of_ble_eq_true rfl) (fun X C CM => ?_)
  have C : gC G X RX7 cX7_packsAll 3 (gRm 3 0) := C
  have h60 := hA.1.2
  refine j_aload_n C dX7_packsAll_0 rfl ?_
  refine j_iconst C (v := nI 0) dX7_packsAll_1 rfl ?_
  refine q_putI C fX7 7 rfl (by decide) (by decide) lf_X7_77 rfl rfl rfl (Nat.le_of_ble_eq_true rfl) rfl dX7_packsAll_2 ?_
  refine j_aload_n C dX7_packsAll_5 rfl ?_
  refine j_iconst C (v := nI 0) dX7_packsAll_6 rfl ?_
  refine q_putI C fX7 20 rfl (by decide) (by decide) lf_X7_195 rfl rfl rfl (Nat.le_of_ble_eq_true rfl) rfl dX7_packsAll_7 ?_
  refine j_iconst C (v := nI 0) dX7_packsAll_10 rfl ?_
  refine j_istore_n C dX7_packsAll_11 (by decide) rfl ?_
  have K12 : ∀ i, i ≤ aN A → ∀ M2, gPmm (pkN (aT A) i) M2 → gKz (sF M 156 7 (nI 0)) M2 → Q G X 0 0 12 [some (.ref (gb G + 156)), some (.int (nI i)), none] [] (M2) := by
    refine g_up _ _ (fun i hi ih => ?_)
    intro M2 q2 s2
    have hk2 := rk_k hA hk (km_trans (km_sF M (j := 7) (nI 0) (by decide)) s2.1)
    refine j_iload_n C dX7_packsAll_12 rfl ?_
    refine j_aload_n C dX7_packsAll_13 rfl ?_
    refine q_get C fX7 3 rfl (by decide) (by decide) lf_X7_21 rfl rfl dX7_packsAll_14 ?_
    rw [hk2.1]
    refine q_icmp_ge C 80 dX7_packsAll_17 (by decide) (by omega) (by omega) (fun h17 => ?_) (fun h17 => ?_)
    · exact q_vretS C CM rfl (by decide) (by decide) dX7_packsAll_80 ⟨by rw [show i = aN A by omega] at q2; exact q2, s2⟩
    · refine j_iconst C (v := nI 0) dX7_packsAll_20 rfl ?_
      refine j_istore_n C dX7_packsAll_21 (by decide) rfl ?_
      have K22 : ∀ j, j ≤ 8 → ∀ M3, gPmm (pkT (pkN (aT A) i) (aT A i) j) M3 → gKz (sF M 156 7 (nI 0)) M3 → Q G X 0 0 22 [some (.ref (gb G + 156)), some (.int (nI i)), some (.int (nI j))] [] (M3) := by
        refine g_up _ _ (fun j hj ihj => ?_)
        intro M3 q3 s3
        have hk3 := rk_k hA hk (km_trans (km_sF M (j := 7) (nI 0) (by decide)) s3.1)
        refine j_iload_n C dX7_packsAll_22 rfl ?_
        refine j_bipush C (v := nI 8) dX7_packsAll_23 rfl ?_
        refine q_icmp_ge C 74 dX7_packsAll_25 (by decide) (by omega) (by omega) (fun h25 => ?_) (fun h25 => ?_)
        · refine q_iinc C dX7_packsAll_74 rfl (by decide) rfl ?_
          refine j_goto C 12 dX7_packsAll_77 ?_ (by decide)
          exact q_cast (ih (by omega) _ (show gPmm (pkT (pkN (aT A) i) (aT A i) 8) M3 from by rw [show j = 8 by omega] at q3; exact q3) s3) (gLe_c rfl (gLe_c rfl (gLe_n gLe_0))) (rfl)
        · refine j_aload_n C dX7_packsAll_28 rfl ?_
          refine q_get C fX7 0 rfl (by decide) (by decide) lf_X7_11 rfl rfl dX7_packsAll_29 ?_
          refine j_iload_n C dX7_packsAll_32 rfl ?_
          refine q_aald157 C (by omega) dX7_packsAll_33 ?_
          refine j_iload_n C dX7_packsAll_34 rfl ?_
          refine q_iald C (gKd_row (show i < 60 by omega)) (by omega) (by decide) (by omega) dX7_packsAll_35 ?_
          rw [hk3.2.2 i h17 j h25]
          have hp1 := pkN_pi (T := aT A) (n := aN A) (fun c _ => hA.2.2.2 c) (c := i) (by omega)
          have hp2 := pkT_pi hp1.1 (hA.2.2.2 i) (p := j) (by omega)
          have hpl : (pkT (pkN (aT A) i) (aT A i) j).1 < 480 := by have := hp2.2; have := hp1.2; omega
          refine j_iconst C (v := -1) dX7_packsAll_36 rfl ?_
          refine q_icmp_eqN C 68 dX7_packsAll_37 (by decide) (nI_lt8 (hA.2.2.2 i) h25) (fun h37 => ?_) (fun v37 h37 => ?_)
          · refine q_iinc C dX7_packsAll_68 rfl (by decide) rfl ?_
            refine j_goto C 22 dX7_packsAll_71 ?_ (by decide)
            exact q_cast (ihj (by omega) _ (by first | (rw [show pkT (pkN (aT A) i) (aT A i) (j + 1) = pkO (pkT (pkN (aT A) i) (aT A i) j) (aT A i j) from rfl, h37]; exact hM4.1) | (rw [show pkT (pkN (aT A) i) (aT A i) (j + 1) = pkO (pkT (pkN (aT A) i) (aT A i) j) (aT A i j) from rfl, h37]; show gPmm (pkA (pkT (pkN (aT A) i) (aT A i) j) v37) M3; rw [pkA_old h53]; exact q3) | (rw [show pkT (pkN (aT A) i) (aT A i) (j + 1) = pkO (pkT (pkN (aT A) i) (aT A i) j) (aT A i j) from rfl, h37]; exact q3)) (by first | exact kt_trans s3 hM4.2 | exact s3)) (gLe_c rfl (gLe_c rfl (gLe_c rfl gLe_0))) (rfl)
          · refine j_aload_n C dX7_packsAll_40 rfl ?_
            refine j_aload_n C dX7_packsAll_41 rfl ?_
            refine q_get C fX7 0 rfl (by decide) (by decide) lf_X7_11 rfl rfl dX7_packsAll_42 ?_
            refine j_iload_n C dX7_packsAll_45 rfl ?_
            refine q_aald157 C (by omega) dX7_packsAll_46 ?_
            refine j_iload_n C dX7_packsAll_47 rfl ?_
            refine q_iald C (gKd_row (show i < 60 by omega)) (by omega) (by decide) (by omega) dX7_packsAll_48 ?_
            rw [hk3.2.2 i h17 j h25, h37, show oI (some v37) = nI v37 from rfl]
            refine q_callV C (sp_X7_packedAt G M3 q3 (by omega) (nI v37)) vX7_packedAt lk_X7_198 rfl (by decide) rfl rfl (Nat.le_of_ble_eq_true rfl) (by decide) dX7_packsAll_49 ?_
            refine j_iconst C (v := -1) dX7_packsAll_52 rfl ?_
            refine q_icmp_neN C 68 dX7_packsAll_53 (by decide) (fun w hw => by have := pkF_lt hw; omega) (fun v53 h53 => ?_) (fun h53 => ?_)
            · refine q_iinc C dX7_packsAll_68 rfl (by decide) rfl ?_
              refine j_goto C 22 dX7_packsAll_71 ?_ (by decide)
              exact q_cast (ihj (by omega) _ (by first | (rw [show pkT (pkN (aT A) i) (aT A i) (j + 1) = pkO (pkT (pkN (aT A) i) (aT A i) j) (aT A i j) from rfl, h37]; exact hM4.1) | (rw [show pkT (pkN (aT A) i) (aT A i) (j + 1) = pkO (pkT (pkN (aT A) i) (aT A i) j) (aT A i j) from rfl, h37]; show gPmm (pkA (pkT (pkN (aT A) i) (aT A i) j) v37) M3; rw [pkA_old h53]; exact q3) | (rw [show pkT (pkN (aT A) i) (aT A i) (j + 1) = pkO (pkT (pkN (aT A) i) (aT A i) j) (aT A i j) from rfl, h37]; exact q3)) (by first | exact kt_trans s3 hM4.2 | exact s3)) (gLe_c rfl (gLe_c rfl (gLe_c rfl gLe_0))) (rfl)
            · refine j_aload_n C dX7_packsAll_56 rfl ?_
              refine j_aload_n C dX7_packsAll_57 rfl ?_
              refine q_get C fX7 0 rfl (by decide) (by decide) lf_X7_11 rfl rfl dX7_packsAll_58 ?_
              refine j_iload_n C dX7_packsAll_61 rfl ?_
              refine q_aald157 C (by omega) dX7_packsAll_62 ?_
              refine j_iload_n C dX7_packsAll_63 rfl ?_
              refine q_iald C (gKd_row (show i < 60 by omega)) (by omega) (by decide) (by omega) dX7_packsAll_64 ?_
              rw [hk3.2.2 i h17 j h25, h37, show oI (some v37) = nI v37 from rfl]
              refine q_callVS C (sp_X7_packs G M3 q3 hp2.1 hpl (hA.2.2.2 i j v37 h25 h37) h53) vX7_packs lk_X7_201 rfl (by decide) rfl rfl (Nat.le_of_ble_eq_true rfl) (by decide) dX7_packsAll_65 (fun M4 hM4 => ?_)
              refine q_iinc C dX7_packsAll_68 rfl (by decide) rfl ?_
              refine j_goto C 22 dX7_packsAll_71 ?_ (by decide)
              exact q_cast (ihj (by omega) _ (by first | (rw [show pkT (pkN (aT A) i) (aT A i) (j + 1) = pkO (pkT (pkN (aT A) i) (aT A i) j) (aT A i j) from rfl, h37]; exact hM4.1) | (rw [show pkT (pkN (aT A) i) (aT A i) (j + 1) = pkO (pkT (pkN (aT A) i) (aT A i) j) (aT A i j) from rfl, h37]; show gPmm (pkA (pkT (pkN (aT A) i) (aT A i) j) v37) M3; rw [pkA_old h53]; exact q3) | (rw [show pkT (pkN (aT A) i) (aT A i) (j + 1) = pkO (pkT (pkN (aT A) i) (aT A i) j) (aT A i j) from rfl, h37]; exact q3)) (by first | exact kt_trans s3 hM4.2 | exact s3)) (gLe_c rfl (gLe_c rfl (gLe_c rfl gLe_0))) (rfl)
      exact q_cast (K22 0 (by omega) _ q2 s2) (gLe_c rfl (gLe_c rfl (gLe_c rfl gLe_0))) (rfl)
  exact q_cast (K12 0 (by omega) _ ⟨sF_at _ _ _ _, fun k hk => absurd hk (Nat.not_lt_zero k)⟩ (kz_sF20 _ _)) (gLe_c rfl (gLe_c rfl (gLe_n gLe_0))) (rfl)
