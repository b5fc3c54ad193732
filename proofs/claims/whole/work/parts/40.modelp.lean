theorem pf_1 {A : gSt0} {x : Int32} (h : pkF (aP A) x = none) : oPackedFrom A x = (1, 0, A) := by simp only [oPackedFrom, h]
theorem pf_2 {A : gSt0} {x : Int32} {k : Nat} (h : pkF (aP A) x = some k) (h2 : (aP A).2.2.2.2 k = none) : oPackedFrom A x = (1, 0, A) := by simp only [oPackedFrom, h, h2]
theorem pf_3 {A : gSt0} {x : Int32} {k j : Nat} (h : pkF (aP A) x = some k) (h2 : (aP A).2.2.2.2 k = some j) : oPackedFrom A x = (0, nI ((aP A).2.1 j), A) := by simp only [oPackedFrom, h, h2]
set_option maxHeartbeats 4000000 in
set_option maxRecDepth 100000 in
theorem sp_X7_packed (G : gG) (M : gMem) {A : gSt0} (hA : gAi A) (hR : gRM A M) : SpS G mX7_packed (gRm 4 0) [.ref (gb G + 156)] M (some (.int (nI (aP A).1))) (gPom (0, nI (aP A).1, A) M) := by
  refine Sp.of (by decide +kernel) (Nat.le_of_ble_eq_true rfl) (fun X C CM => ?_)
  have C : gC G X RX7 cX7_packed 1 (gRm 4 0) := C
  have hR1 := rm_k hA hR (km_sF M (j := 7) (nI 0) (by decide))
  refine j_aload_n C dX7_packed_0 rfl ?_
  refine q_callVS C (sp_X7_packsAll G M hA hR.1) vX7_packsAll lk_X7_204 rfl (by decide) rfl rfl (Nat.le_of_ble_eq_true rfl) (by decide) dX7_packed_1 (fun M2 hM2 => ?_)
  have hl := pk_lim hA
  refine j_aload_n C dX7_packed_4 rfl ?_
  refine q_get C fX7 20 rfl (by decide) (by decide) lf_X7_195 rfl rfl dX7_packed_5 ?_
  exact q_iretS C CM rfl (by decide) (by decide) dX7_packed_8 hM2.1.1 (pom_k rfl hA hR1 hM2.2)
set_option maxHeartbeats 4000000 in
set_option maxRecDepth 100000 in
theorem sp_X7_sum (G : gG) (M : gMem) {P : gPk} (hP : gPmm P M) (hpi : gPi P) (hn : P.1 ≤ 480) : SpR G mX7_sum (gRm 0 0) [.ref (gb G + 156)] M (some (.long (lI (sumN P.2.2.1 P.1)))) M := by
  refine Sp.of (by decide +kernel) (Nat.le_of_ble_eq_true rfl) (fun X C CM => ?_)
  have C : gC G X RX7 cX7_sum 4 (gRm 0 0) := C
  refine j_lconst C (v := 0) dX7_sum_0 rfl ?_
  refine j_lstore_n C dX7_sum_1 (by decide) rfl ?_
  refine j_iconst C (v := nI 0) dX7_sum_2 rfl ?_
  refine j_istore_n C dX7_sum_3 (by decide) rfl ?_
  have K4 : ∀ i, i ≤ P.1 → Q G X 0 0 4 [some (.ref (gb G + 156)), some (.long (lI (sumN P.2.2.1 i))), none, some (.int (nI i))] [] (M) := by
    refine g_up _ _ (fun i hi ih => ?_)
    refine j_iload_n C dX7_sum_4 rfl ?_
    refine j_aload_n C dX7_sum_5 rfl ?_
    refine q_get C fX7 20 rfl (by decide) (by decide) lf_X7_195 rfl rfl dX7_sum_6 ?_
    rw [hP.1]
    refine q_icmp_ge C 28 dX7_sum_9 (by decide) (by omega) (by omega) (fun h9 => ?_) (fun h9 => ?_)
    · refine j_lload_n C dX7_sum_28 rfl ?_
      exact q_lret C CM rfl (by decide) (by decide) dX7_sum_29 (by rw [show i = P.1 by omega]) rfl
    · refine j_lload_n C dX7_sum_12 rfl ?_
      refine j_aload_n C dX7_sum_13 rfl ?_
      refine q_get C fX7 17 rfl (by decide) (by decide) lf_X7_56 rfl rfl dX7_sum_14 ?_
      refine j_iload_n C dX7_sum_17 rfl ?_
      refine q_iald C rfl (by decide) (by decide) (by omega) dX7_sum_18 ?_
      rw [(hP.2 i h9).2.1]
      refine j_i2l C dX7_sum_19 ?_
      refine j_ladd C dX7_sum_20 ?_
      refine j_lstore_n C dX7_sum_21 (by decide) rfl ?_
      refine q_iinc C dX7_sum_22 rfl (by decide) rfl ?_
      refine j_goto C 4 dX7_sum_25 ?_ (by decide)
      exact q_cast (ih (by omega)) (gLe_c rfl (gLe_c (by rw [lI_4 (hpi i h9).2.1, lI_add]; rfl) (gLe_n (gLe_c rfl gLe_0)))) (rfl)
  exact q_cast (K4 0 (by omega)) (gLe_c rfl (gLe_c rfl (gLe_n (gLe_c rfl gLe_0)))) (rfl)
set_option maxHeartbeats 4000000 in
set_option maxRecDepth 100000 in
theorem sp_X7_packSize (G : gG) (M : gMem) {A : gSt0} (hA : gAi A) (hR : gRM A M) : SpS G mX7_packSize (gRm 4 0) [.ref (gb G + 156)] M (some (.long (lI (sumN (aP A).2.2.1 (aP A).1)))) (gPom (0, 0, A) M) := by
  refine Sp.of (by decide +kernel) (Nat.le_of_ble_eq_true rfl) (fun X C CM => ?_)
  have C : gC G X RX7 cX7_packSize 1 (gRm 4 0) := C
  have hR1 := rm_k hA hR (km_sF M (j := 7) (nI 0) (by decide))
  refine j_aload_n C dX7_packSize_0 rfl ?_
  refine q_callVS C (sp_X7_packsAll G M hA hR.1) vX7_packsAll lk_X7_204 rfl (by decide) rfl rfl (Nat.le_of_ble_eq_true rfl) (by decide) dX7_packSize_1 (fun M2 hM2 => ?_)
  have hl := pk_lim hA
  refine j_aload_n C dX7_packSize_4 rfl ?_
  refine q_callV C (sp_X7_sum G M2 hM2.1 hl.1 hl.2) vX7_sum lk_X7_207 rfl (by decide) rfl rfl (Nat.le_of_ble_eq_true rfl) (by decide) dX7_packSize_5 ?_
  exact q_lretS C CM rfl (by decide) (by decide) dX7_packSize_8 rfl (pom_k rfl hA hR1 hM2.2)
set_option maxHeartbeats 4000000 in
set_option maxRecDepth 100000 in
theorem sp_X7_depthOf (G : gG) (M : gMem) {A : gSt0} (hA : gAi A) (hR : gRM A M) (x : Int32) : SpS G mX7_depthOf (gRm 4 0) [.ref (gb G + 156), .int x] M (some (.int (oDepthOf A x).2.1)) (gPom (oDepthOf A x) M) := by
  refine Sp.of (by decide +kernel) (Nat.le_of_ble_eq_true rfl) (fun X C CM => ?_)
  have C : gC G X RX7 cX7_depthOf 3 (gRm 4 0) := C
  have hR1 := rm_k hA hR (km_sF M (j := 7) (nI 0) (by decide))
  refine j_aload_n C dX7_depthOf_0 rfl ?_
  refine q_callVS C (sp_X7_packsAll G M hA hR.1) vX7_packsAll lk_X7_204 rfl (by decide) rfl rfl (Nat.le_of_ble_eq_true rfl) (by decide) dX7_depthOf_1 (fun M2 hM2 => ?_)
  have hl := pk_lim hA
  refine j_aload_n C dX7_depthOf_4 rfl ?_
  refine j_iload_n C dX7_depthOf_5 rfl ?_
  refine q_callV C (sp_X7_packedAt G M2 hM2.1 hl.2 x) vX7_packedAt lk_X7_198 rfl (by decide) rfl rfl (Nat.le_of_ble_eq_true rfl) (by decide) dX7_depthOf_6 ?_
  refine j_istore_n C dX7_depthOf_9 (by decide) rfl ?_
  refine j_iload_n C dX7_depthOf_10 rfl ?_
  refine j_iconst C (v := -1) dX7_depthOf_11 rfl ?_
  refine q_icmp_neN C 23 dX7_depthOf_12 (by decide) (fun w hw => by have := pkF_lt hw; omega) (fun v12 h12 => ?_) (fun h12 => ?_)
  · rw [h12, show oI (some v12) = nI v12 from rfl]
    have hv := pkF_lt h12
    refine j_aload_n C dX7_depthOf_23 rfl ?_
    refine q_get C fX7 18 rfl (by decide) (by decide) lf_X7_59 rfl rfl dX7_depthOf_24 ?_
    refine j_iload_n C dX7_depthOf_27 rfl ?_
    skip
    refine q_iald C rfl (by decide) (by decide) (by omega) dX7_depthOf_28 ?_
    exact q_iretS C CM rfl (by decide) (by decide) dX7_depthOf_29 (by first | exact pom_v (show oDepthOf A x = (1, 0, A) from by simp only [oDepthOf, h12]) rfl | exact pom_v (show oDepthOf A x = (0, nI ((aP A).2.2.2.1 v12), A) from by simp only [oDepthOf, h12]) (hM2.1.2 v12 (pkF_lt h12)).2.2.1) (by first | exact pom_3 (show oDepthOf A x = (1, 0, A) from by simp only [oDepthOf, h12]) hA (rm_k hA hR1 hM2.2.1) (mod_trans (mod_sF M 7 _) hM2.2.1.2.2.2.2) | exact pom_k (show oDepthOf A x = (0, nI ((aP A).2.2.2.1 v12), A) from by simp only [oDepthOf, h12]) hA hR1 hM2.2)
  · refine j_aload_n C dX7_depthOf_15 rfl ?_
    refine j_iconst C (v := nI 1) dX7_depthOf_16 rfl ?_
    refine q_callV C (sp_X7_raises G M2 1) vX7_raises lk_X7_91 rfl (by decide) rfl rfl (Nat.le_of_ble_eq_true rfl) (by decide) dX7_depthOf_17 ?_
    refine j_goto C 29 dX7_depthOf_20 ?_ (by decide)
    exact q_iretS C CM rfl (by decide) (by decide) dX7_depthOf_29 (by first | exact pom_v (show oDepthOf A x = (1, 0, A) from by simp only [oDepthOf, h12]) rfl | exact pom_v (show oDepthOf A x = (0, nI ((aP A).2.2.2.1 v12), A) from by simp only [oDepthOf, h12]) (hM2.1.2 v12 (pkF_lt h12)).2.2.1) (by first | exact pom_3 (show oDepthOf A x = (1, 0, A) from by simp only [oDepthOf, h12]) hA (rm_k hA hR1 hM2.2.1) (mod_trans (mod_sF M 7 _) hM2.2.1.2.2.2.2) | exact pom_k (show oDepthOf A x = (0, nI ((aP A).2.2.2.1 v12), A) from by simp only [oDepthOf, h12]) hA hR1 hM2.2)
set_option maxHeartbeats 4000000 in
set_option maxRecDepth 100000 in
theorem sp_X7_packedFrom (G : gG) (M : gMem) {A : gSt0} (hA : gAi A) (hR : gRM A M) (x : Int32) : SpS G mX7_packedFrom (gRm 4 0) [.ref (gb G + 156), .int x] M (some (.int (oPackedFrom A x).2.1)) (gPom (oPackedFrom A x) M) := by
  refine Sp.of (by decide +kernel) (Nat.le_of_ble_eq_true rfl) (fun X C CM => ?_)
  have C : gC G X RX7 cX7_packedFrom 3 (gRm 4 0) := C
  have hR1 := rm_k hA hR (km_sF M (j := 7) (nI 0) (by decide))
  refine j_aload_n C dX7_packedFrom_0 rfl ?_
  refine q_callVS C (sp_X7_packsAll G M hA hR.1) vX7_packsAll lk_X7_204 rfl (by decide) rfl rfl (Nat.le_of_ble_eq_true rfl) (by decide) dX7_packedFrom_1 (fun M2 hM2 => ?_)
  have hl := pk_lim hA
  refine j_aload_n C dX7_packedFrom_4 rfl ?_
  refine j_iload_n C dX7_packedFrom_5 rfl ?_
  refine q_callV C (sp_X7_packedAt G M2 hM2.1 hl.2 x) vX7_packedAt lk_X7_198 rfl (by decide) rfl rfl (Nat.le_of_ble_eq_true rfl) (by decide) dX7_packedFrom_6 ?_
  refine j_istore_n C dX7_packedFrom_9 (by decide) rfl ?_
  refine j_iload_n C dX7_packedFrom_10 rfl ?_
  refine j_iconst C (v := -1) dX7_packedFrom_11 rfl ?_
  refine q_icmp_eqN C 25 dX7_packedFrom_12 (by decide) (fun w hw => by have := pkF_lt hw; omega) (fun h12 => ?_) (fun v12 h12 => ?_)
  · refine j_aload_n C dX7_packedFrom_25 rfl ?_
    refine j_iconst C (v := nI 1) dX7_packedFrom_26 rfl ?_
    refine q_callV C (sp_X7_raises G M2 1) vX7_raises lk_X7_91 rfl (by decide) rfl rfl (Nat.le_of_ble_eq_true rfl) (by decide) dX7_packedFrom_27 ?_
    refine j_goto C 44 dX7_packedFrom_30 ?_ (by decide)
    exact q_iretS C CM rfl (by decide) (by decide) dX7_packedFrom_44 (by first | exact pom_v (pf_1 h12) rfl | exact pom_v (pf_2 h12 h22) rfl | exact pom_v (pf_3 h12 h22) (hM2.1.2 v22 (by omega)).1) (by first | exact pom_3 (pf_1 h12) hA (rm_k hA hR1 hM2.2.1) (mod_trans (mod_sF M 7 _) hM2.2.1.2.2.2.2) | exact pom_3 (pf_2 h12 h22) hA (rm_k hA hR1 hM2.2.1) (mod_trans (mod_sF M 7 _) hM2.2.1.2.2.2.2) | exact pom_k (pf_3 h12 h22) hA hR1 hM2.2)
  · rw [h12, show oI (some v12) = nI v12 from rfl]
    have hv := pkF_lt h12
    refine j_aload_n C dX7_packedFrom_15 rfl ?_
    refine q_get C fX7 19 rfl (by decide) (by decide) lf_X7_62 rfl rfl dX7_packedFrom_16 ?_
    refine j_iload_n C dX7_packedFrom_19 rfl ?_
    refine q_iald C rfl (by decide) (by decide) (by omega) dX7_packedFrom_20 ?_
    rw [(hM2.1.2 v12 hv).2.2.2]
    refine j_iconst C (v := -1) dX7_packedFrom_21 rfl ?_
    refine q_icmp_neN C 33 dX7_packedFrom_22 (by decide) (fun w hw => by have := (hl.1 v12 hv).2.2.2 w hw; omega) (fun v22 h22 => ?_) (fun h22 => ?_)
    · refine j_aload_n C dX7_packedFrom_33 rfl ?_
      refine q_get C fX7 16 rfl (by decide) (by decide) lf_X7_53 rfl rfl dX7_packedFrom_34 ?_
      refine j_aload_n C dX7_packedFrom_37 rfl ?_
      refine q_get C fX7 19 rfl (by decide) (by decide) lf_X7_62 rfl rfl dX7_packedFrom_38 ?_
      refine j_iload_n C dX7_packedFrom_41 rfl ?_
      refine q_iald C rfl (by decide) (by decide) (by omega) dX7_packedFrom_42 ?_
      rw [(hM2.1.2 v12 hv).2.2.2, h22, show oI (some v22) = nI v22 from rfl]
      have hj := (hl.1 v12 hv).2.2.2 v22 h22
      refine q_iald C rfl (by decide) (by decide) (by omega) dX7_packedFrom_43 ?_
      exact q_iretS C CM rfl (by decide) (by decide) dX7_packedFrom_44 (by first | exact pom_v (pf_1 h12) rfl | exact pom_v (pf_2 h12 h22) rfl | exact pom_v (pf_3 h12 h22) (hM2.1.2 v22 (by omega)).1) (by first | exact pom_3 (pf_1 h12) hA (rm_k hA hR1 hM2.2.1) (mod_trans (mod_sF M 7 _) hM2.2.1.2.2.2.2) | exact pom_3 (pf_2 h12 h22) hA (rm_k hA hR1 hM2.2.1) (mod_trans (mod_sF M 7 _) hM2.2.1.2.2.2.2) | exact pom_k (pf_3 h12 h22) hA hR1 hM2.2)
    · refine j_aload_n C dX7_packedFrom_25 rfl ?_
      refine j_iconst C (v := nI 1) dX7_packedFrom_26 rfl ?_
      refine q_callV C (sp_X7_raises G M2 1) vX7_raises lk_X7_91 rfl (by decide) rfl rfl (Nat.le_of_ble_eq_true rfl) (by decide) dX7_packedFrom_27 ?_
      refine j_goto C 44 dX7_packedFrom_30 ?_ (by decide)
      exact q_iretS C CM rfl (by decide) (by decide) dX7_packedFrom_44 (by first | exact pom_v (pf_1 h12) rfl | exact pom_v (pf_2 h12 h22) rfl | exact pom_v (pf_3 h12 h22) (hM2.1.2 v22 (by omega)).1) (by first | exact pom_3 (pf_1 h12) hA (rm_k hA hR1 hM2.2.1) (mod_trans (mod_sF M 7 _) hM2.2.1.2.2.2.2) | exact pom_3 (pf_2 h12 h22) hA (rm_k hA hR1 hM2.2.1) (mod_trans (mod_sF M 7 _) hM2.2.1.2.2.2.2) | exact pom_k (pf_3 h12 h22) hA hR1 hM2.2)
