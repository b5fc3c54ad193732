theorem mg_kt {M M' : gMem} (h : gMg M M') : gKz M M' := ⟨mg_km h, h.2.2.1 _ _ (by decide)⟩
/-- commits and scratch may differ, not the chain -/
def gKe (M M' : gMem) : Prop := (∀ o, o = 220 ∨ o = 221 ∨ o = 226 ∨ o = 236 → M'.1 o = M.1 o) ∧ M'.2.2.1 156 5 = M.2.2.1 156 5 ∧ M'.2.2.1 156 7 = M.2.2.1 156 7 ∧ gMod M M'
theorem ke_refl (M : gMem) : gKe M M := ⟨fun _ _ => rfl, rfl, rfl, mod_refl M⟩
theorem ke_trans {M M1 M2 : gMem} (h : gKe M M1) (h' : gKe M1 M2) : gKe M M2 := ⟨fun o ho => (h'.1 o ho).trans (h.1 o ho), h'.2.1.trans h.2.1, h'.2.2.1.trans h.2.2.1, mod_trans h.2.2.2 h'.2.2.2⟩
theorem ke_mg {M M' : gMem} (h : gMg M M') : gKe M M' := ⟨fun o ho => h.2.2.2 o (by omega), h.2.2.1 _ _ (by decide), h.2.2.1 _ _ (by decide), (mg_km h).2.2.2.2⟩
theorem ke_kc {M M' : gMem} (h : gKc M M') : gKe M M' := ⟨fun o ho => h.1 o (by omega), h.2.1 _ (by decide), h.2.1 _ (by decide), h.2.2⟩
theorem ke_sI (M : gMem) {o : Nat} (f : Nat → Int32) (h : o = 227 ∨ o = 233) : gKe M (sI M o f) := ⟨fun a ha => sI_n _ _ (by omega), rfl, rfl, mod_sI M f (by omega)⟩
theorem rl_ke {A : gSt0} {M M' : gMem} (h : gRl A M) (k : gKe M M') : gRl A M' := by
  refine ⟨fun b hb => by rw [k.1 220 (by decide)]; exact h.1 b hb, by rw [k.2.1]; exact h.2.1, fun p hp => ?_⟩
  rw [k.1 221 (by decide)]
  exact h.2.2 p hp
theorem rm_ext {A B : gSt0} {M M' : gMem} (he : gExt A B) (hR : gRM A M) (hk : gRk B M') (k : gKe M M') : gRM B M' := by
  have hl := rl_ke hR.2.1 k
  refine ⟨hk, ⟨fun b hb => by rw [he.2.2.1]; exact hl.1 b hb, by rw [he.2.2.2.1]; exact hl.2.1, ?_⟩, by rw [k.1 236 (by decide)]; exact hR.2.2⟩
  rw [he.2.2.2.2]
  exact hl.2.2
theorem rk_ext {A B : gSt0} {M : gMem} (he : gExt A B) (h : gRk B M) : gRk A (sF M 156 3 (nI (aN A))) := by
  refine ⟨sF_at _ _ _ _, fun c hc => ?_, fun c hc p hp => ?_⟩
  · have h1 := h.2.1 c (Nat.lt_of_lt_of_le hc he.1)
    exact ⟨h1.1.trans (by rw [(he.2.1 c hc).1]), h1.2.trans (by rw [(he.2.1 c hc).2.1])⟩
  · exact (h.2.2 c (Nat.lt_of_lt_of_le hc he.1) p hp).trans (by rw [(he.2.1 c hc).2.2])
theorem ke_17 (M : gMem) (v : Int32) : gKe M (sF M 156 3 v) := ⟨fun _ _ => rfl, sF_ne _ _ (by decide), sF_ne _ _ (by decide), mod_sF M 3 v⟩
theorem df_dec {P : Nat} (h : decide (P = 0) = false) : 0 < P := Nat.pos_of_ne_zero (of_decide_eq_false h)
set_option maxHeartbeats 4000000 in
set_option maxRecDepth 100000 in
theorem sp_X7_applied (G : gG) (M : gMem) {A : gSt0} (hA : gAi A) (hk : gRk A M) {c l : Nat} (hc : c < aN A) (hl : l < aN A) (hp : (aF A c).isSome = true) : SpS G mX7_applied (gRm 4 0) [.ref (gb G + 156), .int (nI c), .int (nI l)] M (some (.int (oI (ap1 A c l).1))) (fun M2 => gRk (ap1 A c l).2 M2 ∧ gKe M M2) := by
  refine Sp.of (by decide +kernel) (Nat.le_of_ble_eq_true rfl) (fun X C CM => ?_)
  have C : gC G X RX7 cX7_applied 4 (gRm 4 0) := C
  have h60 := hA.1.2
  have hg := gD_lt hA hc
  refine j_iconst C (v := nI 0) dX7_applied_0 rfl ?_
  refine j_istore_n C dX7_applied_1 (by decide) rfl ?_
  have K2 : ∀ i, i ≤ 8 → Q G X 0 0 2 [some (.ref (gb G + 156)), some (.int (nI c)), some (.int (nI l)), some (.int (nI i))] [] ((sI M 227 (cpF (M.1 (158 + l)) (M.1 227) i))) := by
    refine g_up _ _ (fun i hi ih => ?_)
    refine j_iload_n C dX7_applied_2 rfl ?_
    refine j_bipush C (v := nI 8) dX7_applied_3 rfl ?_
    refine q_icmp_ge C 28 dX7_applied_5 (by decide) (by omega) (by omega) (fun h5 => ?_) (fun h5 => ?_)
    · obtain rfl : i = 8 := by omega
      have hk2 := rk_k hA hk (km_sI M (o := 227) (cpF (M.1 (158 + l)) (M.1 227) 8) (by decide))
      have hs7 : gRo (sI M 227 (cpF (M.1 (158 + l)) (M.1 227) 8)) 227 (aT A l) := ro_sI (fun r hr => by rw [cpF_lt hr]; exact hk.2.2 l hl r hr)
      refine j_aload_n C dX7_applied_28 rfl ?_
      refine j_aload_n C dX7_applied_29 rfl ?_
      refine q_get C fX7 0 rfl (by decide) (by decide) lf_X7_11 rfl rfl dX7_applied_30 ?_
      refine j_aload_n C dX7_applied_33 rfl ?_
      refine q_get C fX7 1 rfl (by decide) (by decide) lf_X7_14 rfl rfl dX7_applied_34 ?_
      refine j_iload_n C dX7_applied_37 rfl ?_
      refine q_iald C rfl (by decide) (by decide) (by omega) dX7_applied_38 ?_
      rw [(hk2.2.1 c hc).1, oI_gD hp]
      refine q_aald157 C (by omega) dX7_applied_39 ?_
      refine j_aload_n C dX7_applied_40 rfl ?_
      refine q_get C fX7 14 rfl (by decide) (by decide) lf_X7_46 rfl rfl dX7_applied_41 ?_
      refine j_aload_n C dX7_applied_44 rfl ?_
      refine q_get C fX7 0 rfl (by decide) (by decide) lf_X7_11 rfl rfl dX7_applied_45 ?_
      refine j_iload_n C dX7_applied_48 rfl ?_
      refine q_aald157 C (by omega) dX7_applied_49 ?_
      refine q_callVS C (sp_X7_merges G _ (a := 158 + ((aF A c).getD 0)) (b := 227) (c := 158 + c) ⟨gKd_row (by omega), by omega⟩ ⟨rfl, by decide⟩ ⟨gKd_row (by omega), by omega⟩ (by omega) (by omega) (by omega) (hk2.2.2 _ hg) hs7 (hk2.2.2 c hc) (hA.2.2.2 _) (hA.2.2.2 l) (hA.2.2.2 c)) vX7_merges lk_X7_171 rfl (by decide) rfl rfl (Nat.le_of_ble_eq_true rfl) (by decide) dX7_applied_50 (fun M3 hM3 => ?_)
      rw [show mgN (aT A ((aF A c).getD 0)) (aT A l) (aT A c) = apM A c l from rfl]
      have hk3 := rk_k hA hk2 (mg_km hM3.1)
      have hs3 := mg_ro hs7 hM3.1 (by decide)
      have hke := ke_trans (ke_sI M (o := 227) (cpF (M.1 (158 + l)) (M.1 227) 8) (Or.inl rfl)) (ke_mg hM3.1)
      refine q_ifz_le C 58 dX7_applied_53 (by decide) (mg_lt _ _ _) (fun h53 => ?_) (fun h53 => ?_)
      · refine j_aload_n C dX7_applied_58 rfl ?_
        refine q_get C fX7 10 rfl (by decide) (by decide) lf_X7_37 rfl rfl dX7_applied_59 ?_
        refine j_aload_n C dX7_applied_62 rfl ?_
        refine q_get C fX7 14 rfl (by decide) (by decide) lf_X7_46 rfl rfl dX7_applied_63 ?_
        refine q_callS C (sp_X7_isSame G M3 (a := 224) (b := 227) rfl (by decide) rfl (by decide)) vX7_isSame lk_X7_102 rfl rfl (Nat.le_of_ble_eq_true rfl) (by decide) dX7_applied_66 ?_
        have htn : gTn (apT A c l) := mgR_tn (hA.2.2.2 _) (hA.2.2.2 _)
        rw [df_rows (hM3.2 h53) hs3 htn (hA.2.2.2 l), show dfN (mgR (aT A ((aF A c).getD 0)) (aT A l) (aT A c)) (aT A l) = dfN (apT A c l) (aT A l) from rfl]
        refine q_if_eq0 C 76 dX7_applied_69 (by decide) (fun h69 => ?_) (fun h69 => ?_)
        · refine j_aload_n C dX7_applied_76 rfl ?_
          refine j_aload_n C dX7_applied_77 rfl ?_
          refine q_get C fX7 10 rfl (by decide) (by decide) lf_X7_37 rfl rfl dX7_applied_78 ?_
          refine j_iload_n C dX7_applied_81 rfl ?_
          refine j_iconst C (v := -1) dX7_applied_82 rfl ?_
          refine q_callVS C (sp_X7_made G M3 (a := 224) (s := none) hA hk3 rfl (by decide) (hM3.2 h53) htn hl (fun q h => by cases h)) vX7_made lk_X7_106 rfl (by decide) rfl rfl (Nat.le_of_ble_eq_true rfl) (by decide) dX7_applied_83 (fun M4 hM4 => ?_)
          exact q_iretS C CM rfl (by decide) (by decide) dX7_applied_86 (by first | (rw [ap1_0 h53 (of_decide_eq_true h69)]; rfl) | (rw [ap1_1 h53 (df_dec h69)]; rfl)) ⟨by first | (rw [ap1_0 h53 (of_decide_eq_true h69)]; exact hk3) | (rw [ap1_1 h53 (df_dec h69)]; exact hM4.1), by first | exact ke_trans hke (ke_kc hM4.2) | exact hke⟩
        · refine j_iload_n C dX7_applied_72 rfl ?_
          refine j_goto C 86 dX7_applied_73 ?_ (by decide)
          exact q_iretS C CM rfl (by decide) (by decide) dX7_applied_86 (by first | (rw [ap1_0 h53 (of_decide_eq_true h69)]; rfl) | (rw [ap1_1 h53 (df_dec h69)]; rfl)) ⟨by first | (rw [ap1_0 h53 (of_decide_eq_true h69)]; exact hk3) | (rw [ap1_1 h53 (df_dec h69)]; exact hM4.1), by first | exact ke_trans hke (ke_kc hM4.2) | exact hke⟩
      · refine j_iconst C (v := -1) dX7_applied_56 rfl ?_
        exact q_iretS C CM rfl (by decide) (by decide) dX7_applied_57 (by rw [ap1_2 h53]; rfl) ⟨by rw [ap1_2 h53]; exact hk3, hke⟩
    · refine j_aload_n C dX7_applied_8 rfl ?_
      refine q_get C fX7 14 rfl (by decide) (by decide) lf_X7_46 rfl rfl dX7_applied_9 ?_
      refine j_iload_n C dX7_applied_12 rfl ?_
      refine j_aload_n C dX7_applied_13 rfl ?_
      refine q_get C fX7 0 rfl (by decide) (by decide) lf_X7_11 rfl rfl dX7_applied_14 ?_
      refine j_iload_n C dX7_applied_17 rfl ?_
      refine q_aald157 C (by omega) dX7_applied_18 ?_
      refine j_iload_n C dX7_applied_19 rfl ?_
      refine q_iald C (gKd_row (show l < 60 by omega)) (by omega) (by decide) (by omega) dX7_applied_20 ?_
      refine q_iast C rfl (by decide) (by decide) (by omega) dX7_applied_21 ?_
      refine q_iinc C dX7_applied_22 rfl (by decide) rfl ?_
      refine j_goto C 2 dX7_applied_25 ?_ (by decide)
      exact q_cast (ih (by omega)) (gLe_c rfl (gLe_c rfl (gLe_c rfl (gLe_c rfl gLe_0)))) (by rw [sI_sI, sI_s, sI_n _ _ (show 158 + l ≠ 227 by omega), cpF_s])
  exact q_cast (K2 0 (by omega)) (gLe_c rfl (gLe_c rfl (gLe_c rfl (gLe_c rfl gLe_0)))) (by rw [cpF_0, sI_id])
