theorem ffX4 : ∀ j, j < 1 → defaultValue (tyX4 j) = vp_V [.null] j := fun j hj => match j, hj with
  | 0, _ => rfl
  | n + 1, h => absurd h (by omega)
theorem ffX0 : ∀ j, j < 4 → defaultValue (tyX0 j) = vp_V [.null, .null, .null, .null] j := fun j hj => match j, hj with
  | 0, _ => rfl
  | 1, _ => rfl
  | 2, _ => rfl
  | 3, _ => rfl
  | n + 4, h => absurd h (by omega)
theorem ffX1 : ∀ j, j < 8 → defaultValue (tyX1 j) = vp_V [.null, .null, .null, .null, .null, .null, .null, .int 0] j := fun j hj => match j, hj with
  | 0, _ => rfl
  | 1, _ => rfl
  | 2, _ => rfl
  | 3, _ => rfl
  | 4, _ => rfl
  | 5, _ => rfl
  | 6, _ => rfl
  | 7, _ => rfl
  | n + 8, h => absurd h (by omega)
theorem ffX5 : ∀ j, j < 5 → defaultValue (tyX5 j) = vp_V [.null, .null, .null, .null, .int 0] j := fun j hj => match j, hj with
  | 0, _ => rfl
  | 1, _ => rfl
  | 2, _ => rfl
  | 3, _ => rfl
  | 4, _ => rfl
  | n + 5, h => absurd h (by omega)
theorem ffX3 : ∀ j, j < 6 → defaultValue (tyX3 j) = vp_V [.null, .null, .null, .int 0, .int 0, .long 0] j := fun j hj => match j, hj with
  | 0, _ => rfl
  | 1, _ => rfl
  | 2, _ => rfl
  | 3, _ => rfl
  | 4, _ => rfl
  | 5, _ => rfl
  | n + 6, h => absurd h (by omega)
theorem ffX6 : ∀ j, j < 7 → defaultValue (tyX6 j) = vp_V [.null, .null, .null, .null, .null, .null, .int 0] j := fun j hj => match j, hj with
  | 0, _ => rfl
  | 1, _ => rfl
  | 2, _ => rfl
  | 3, _ => rfl
  | 4, _ => rfl
  | 5, _ => rfl
  | 6, _ => rfl
  | n + 7, h => absurd h (by omega)
set_option maxHeartbeats 4000000 in
set_option maxRecDepth 100000 in
theorem sp_X4_init (G : gG) (σ : gE) (M : gMem) {t : Nat} (ht : gTr t) (hs : σ t = .inr (5, [.null])) (hM : M.1 (t + 1) = ngF 8) : Sp G mX4_init (gRmq 0 1 8) true (t + 1) [.ref (gb G + t)] σ (gMkr G t (t + 2) σ M) := by
  refine Sp.of (by decide +kernel) (Nat.le_of_ble_eq_true rfl) (fun X C CM => ?_)
  have C : gC G X RX4 cX4_init 2 (gRmq 0 1 8) := C
  refine y_begin (M := M) hs ?_
  refine j_aload_n C dX4_init_0 rfl ?_
  refine j_objInit C lk_X4_3 iObj cObj (Nat.le_of_ble_eq_true rfl) (Nat.le_of_ble_eq_true rfl) (by decide) dX4_init_1 ?_
  refine j_aload_n C dX4_init_4 rfl ?_
  refine j_bipush C (v := nI 8) dX4_init_5 rfl ?_
  refine y_newi C (m := 8) ht.2.1 (by omega) (by decide) (by show _ ≤ _; simp only [gRmq]; omega) (by show _ ≤ _; simp only [gRmq]; omega) dX4_init_7 ?_
  refine y_sz (N' := t + 2) (k' := 1) (n' := 8) (by omega) (by omega) (by omega) ?_
  refine y_put C CM rfl (fs' := [.ref (gb G + (t + 1))]) fX4 0 (by omega) (by omega) (by decide) lf_X4_9 rfl (Or.inr ⟨rfl, rfl⟩) rfl rfl (Nat.le_of_ble_eq_true rfl) rfl dX4_init_9 ?_
  refine j_iconst C (v := nI 0) dX4_init_12 rfl ?_
  refine j_istore_n C dX4_init_13 (by decide) rfl ?_
  have K14 : ∀ i, i ≤ 8 → YQ G X (t + 2) 1 8 14 [some (.ref (gb G + t)), some (.int (nI i))] [] (t + 1) (va_up σ t (.inr (5, [.ref (gb G + (t + 1))]))) (sI M (t + 1) (ngF i)) := by
    refine g_up _ _ (fun i hi ih => ?_)
    refine j_iload_n C dX4_init_14 rfl ?_
    refine j_aload_n C dX4_init_15 rfl ?_
    refine y_get C fX4 0 (by omega) (by omega) (by decide) lf_X4_9 rfl rfl dX4_init_16 ?_
    refine y_alen C ht.2.1 (by omega) (by omega) dX4_init_19 ?_
    refine y_ge C 36 dX4_init_20 (by decide) (by omega) (by omega) (fun h => ?_) (fun h => ?_)
    · exact y_end C CM rfl rfl rfl (by rw [show i = 8 by omega, ← hM]; exact sI_id M (t + 1)) (by rw [mk6 G M ht.1, gFs_tr ht]) rfl (Nat.le_of_ble_eq_true rfl) (Nat.le_of_ble_eq_true rfl) dX4_init_36
    · skip
      refine j_aload_n C dX4_init_23 rfl ?_
      refine y_get C fX4 0 (by omega) (by omega) (by decide) lf_X4_9 rfl rfl dX4_init_24 ?_
      refine j_iload_n C dX4_init_27 rfl ?_
      refine j_iconst C (v := -1) dX4_init_28 rfl ?_
      refine y_iast C (f := ngF (i + 1)) ht.2.1 (by omega) (by omega) (by decide) h (by rw [sI_s]; exact ng_s i) dX4_init_29 ?_
      refine y_iinc C dX4_init_30 rfl (by decide) rfl ?_
      refine j_goto C 14 dX4_init_33 ?_ (by decide)
      exact y_cast (ih h) (gLe_c rfl (gLe_c rfl gLe_0)) rfl (sI_sI _ _ _ _)
  exact y_cast (K14 0 (by decide)) (gLe_c rfl (gLe_c rfl gLe_0)) rfl rfl
set_option maxHeartbeats 4000000 in
set_option maxRecDepth 100000 in
theorem sp_X0_init (G : gG) (σ : gE) {c : Nat} (hc : gCm c) (hs : σ c = .inr (2, [.null, .null, .null, .null])) : Sp G mX0_init (gRmq 1 6 34) true (c + 1) [.ref (gb G + c)] σ (gMkr G c (c + 7) σ mM0) := by
  refine Sp.of (by decide +kernel) (Nat.le_of_ble_eq_true rfl) (fun X C CM => ?_)
  have C : gC G X RX0 cX0_init 1 (gRmq 1 6 34) := C
  refine y_begin (M := mM0) hs ?_
  have T1 : gTr (c + 1) := by rcases hc with rfl | rfl <;> (unfold gTr; decide)
  have T2 : gTr (c + 3) := by rcases hc with rfl | rfl <;> (unfold gTr; decide)
  have R1 : mM0.1 (c + 1 + 1) = ngF 8 := by rcases hc with rfl | rfl <;> rfl
  have R2 : mM0.1 (c + 3 + 1) = ngF 8 := by rcases hc with rfl | rfl <;> rfl
  have R3 : mM0.1 (c + 5) = ngF 0 := by rcases hc with rfl | rfl <;> rfl
  have R4 : mM0.1 (c + 6) = ngF 0 := by rcases hc with rfl | rfl <;> rfl
  have K3 : gKd (c + 5) = (0, 8) := by rcases hc with rfl | rfl <;> rfl
  have K4 : gKd (c + 6) = (0, 8) := by rcases hc with rfl | rfl <;> rfl
  have E : mkW G mM0 c = .inr (2, [.ref (gb G + (c + 1)), .ref (gb G + (c + 3)), .ref (gb G + (c + 5)), .ref (gb G + (c + 6))]) := by rcases hc with rfl | rfl <;> rfl
  refine j_aload_n C dX0_init_0 rfl ?_
  refine j_objInit C lk_X0_3 iObj cObj (Nat.le_of_ble_eq_true rfl) (Nat.le_of_ble_eq_true rfl) (by decide) dX0_init_1 ?_
  refine j_aload_n C dX0_init_4 rfl ?_
  refine y_sub C fX4 lc_X0_9 nX4 zX4 ffX4 (fun s h => sp_X4_init G s mM0 T1 h R1) rfl rfl kX4_init iX4_init lk_X0_11 (by omega) (Nat.le_of_ble_eq_true rfl) ⟨(Nat.le_of_ble_eq_true rfl), (Nat.le_of_ble_eq_true rfl)⟩ (by show _ ≤ _; simp only [gRmq]; omega) (by show _ ≤ _; simp only [gRmq]; omega) dX0_init_5 dX0_init_8 dX0_init_9 ?_
  refine y_sz (N' := c + 3) (k' := 2) (n' := 9) (by omega) (by simp only [gRmq]; omega) (by simp only [gRmq]; omega) ?_
  refine y_put C CM rfl (fs' := [.ref (gb G + (c + 1)), .null, .null, .null]) fX0 0 (by omega) (by omega) (by decide) lf_X0_12 rfl (Or.inr ⟨rfl, rfl⟩) rfl rfl (Nat.le_of_ble_eq_true rfl) rfl dX0_init_12 ?_
  refine j_aload_n C dX0_init_15 rfl ?_
  refine y_sub C fX4 lc_X0_9 nX4 zX4 ffX4 (fun s h => sp_X4_init G s mM0 T2 h R2) rfl rfl kX4_init iX4_init lk_X0_11 (by omega) (Nat.le_of_ble_eq_true rfl) ⟨(Nat.le_of_ble_eq_true rfl), (Nat.le_of_ble_eq_true rfl)⟩ (by show _ ≤ _; simp only [gRmq]; omega) (by show _ ≤ _; simp only [gRmq]; omega) dX0_init_16 dX0_init_19 dX0_init_20 ?_
  refine y_sz (N' := c + 5) (k' := 4) (n' := 18) (by omega) (by simp only [gRmq]; omega) (by simp only [gRmq]; omega) ?_
  refine y_put C CM rfl (fs' := [.ref (gb G + (c + 1)), .ref (gb G + (c + 3)), .null, .null]) fX0 1 (by omega) (by omega) (by decide) lf_X0_18 rfl (Or.inr ⟨rfl, rfl⟩) rfl rfl (Nat.le_of_ble_eq_true rfl) rfl dX0_init_23 ?_
  refine j_aload_n C dX0_init_26 rfl ?_
  refine j_bipush C (v := nI 8) dX0_init_27 rfl ?_
  refine y_newz C (m := 8) R3 K3 (by omega) (by decide) (by show _ ≤ _; simp only [gRmq]; omega) (by show _ ≤ _; simp only [gRmq]; omega) dX0_init_29 ?_
  refine y_sz (N' := c + 6) (k' := 5) (n' := 26) (by omega) (by omega) (by omega) ?_
  refine y_put C CM rfl (fs' := [.ref (gb G + (c + 1)), .ref (gb G + (c + 3)), .ref (gb G + (c + 5)), .null]) fX0 2 (by omega) (by omega) (by decide) lf_X0_21 rfl (Or.inr ⟨rfl, rfl⟩) rfl rfl (Nat.le_of_ble_eq_true rfl) rfl dX0_init_31 ?_
  refine j_aload_n C dX0_init_34 rfl ?_
  refine j_bipush C (v := nI 8) dX0_init_35 rfl ?_
  refine y_newz C (m := 8) R4 K4 (by omega) (by decide) (by show _ ≤ _; simp only [gRmq]; omega) (by show _ ≤ _; simp only [gRmq]; omega) dX0_init_37 ?_
  refine y_sz (N' := c + 7) (k' := 6) (n' := 34) (by omega) (by omega) (by omega) ?_
  refine y_put C CM rfl (fs' := [.ref (gb G + (c + 1)), .ref (gb G + (c + 3)), .ref (gb G + (c + 5)), .ref (gb G + (c + 6))]) fX0 3 (by omega) (by omega) (by decide) lf_X0_25 rfl (Or.inr ⟨rfl, rfl⟩) rfl rfl (Nat.le_of_ble_eq_true rfl) rfl dX0_init_39 ?_
  exact y_end C CM rfl rfl rfl rfl E rfl (Nat.le_of_ble_eq_true rfl) (Nat.le_of_ble_eq_true rfl) dX0_init_42
set_option maxHeartbeats 4000000 in
set_option maxRecDepth 100000 in
theorem sp_X5_init (G : gG) (σ : gE) (hs : σ 130 = .inr (6, [.null, .null, .null, .null, .int 0])) : Sp G mX5_init (gRmq 2 17 93) true 131 [.ref (gb G + 130)] σ (gMkr G 130 148 σ mM0) := by
  refine Sp.of (by decide +kernel) (Nat.le_of_ble_eq_true rfl) (fun X C CM => ?_)
  have C : gC G X RX5 cX5_init 1 (gRmq 2 17 93) := C
  refine y_begin (M := mM0) hs ?_
  refine j_aload_n C dX5_init_0 rfl ?_
  refine j_objInit C lk_X5_3 iObj cObj (Nat.le_of_ble_eq_true rfl) (Nat.le_of_ble_eq_true rfl) (by decide) dX5_init_1 ?_
  refine j_aload_n C dX5_init_4 rfl ?_
  refine y_sub C fX0 lc_X5_9 nX0 zX0 ffX0 (fun s h => sp_X0_init G s (Or.inl rfl) h) rfl rfl kX0_init iX0_init lk_X5_11 (by omega) (Nat.le_of_ble_eq_true rfl) ⟨(Nat.le_of_ble_eq_true rfl), (Nat.le_of_ble_eq_true rfl)⟩ (by show _ ≤ _; simp only [gRmq]; omega) (by show _ ≤ _; simp only [gRmq]; omega) dX5_init_5 dX5_init_8 dX5_init_9 ?_
  refine y_sz (N' := 138) (k' := 7) (n' := 38) (by omega) (by simp only [gRmq]; omega) (by simp only [gRmq]; omega) ?_
  refine y_put C CM rfl (fs' := [.ref (gb G + 131), .null, .null, .null, .int 0]) fX5 0 (by omega) (by omega) (by decide) lf_X5_12 rfl (Or.inr ⟨rfl, rfl⟩) rfl rfl (Nat.le_of_ble_eq_true rfl) rfl dX5_init_12 ?_
  refine j_aload_n C dX5_init_15 rfl ?_
  refine y_sub C fX0 lc_X5_9 nX0 zX0 ffX0 (fun s h => sp_X0_init G s (Or.inr rfl) h) rfl rfl kX0_init iX0_init lk_X5_11 (by omega) (Nat.le_of_ble_eq_true rfl) ⟨(Nat.le_of_ble_eq_true rfl), (Nat.le_of_ble_eq_true rfl)⟩ (by show _ ≤ _; simp only [gRmq]; omega) (by show _ ≤ _; simp only [gRmq]; omega) dX5_init_16 dX5_init_19 dX5_init_20 ?_
  refine y_sz (N' := 145) (k' := 14) (n' := 76) (by omega) (by simp only [gRmq]; omega) (by simp only [gRmq]; omega) ?_
  refine y_put C CM rfl (fs' := [.ref (gb G + 131), .ref (gb G + 138), .null, .null, .int 0]) fX5 1 (by omega) (by omega) (by decide) lf_X5_18 rfl (Or.inr ⟨rfl, rfl⟩) rfl rfl (Nat.le_of_ble_eq_true rfl) rfl dX5_init_23 ?_
  refine j_aload_n C dX5_init_26 rfl ?_
  refine y_sub C fX4 lc_X5_21 nX4 zX4 ffX4 (fun s h => sp_X4_init G s mM0 (t := 145) (by unfold gTr; decide) h rfl) rfl rfl kX4_init iX4_init lk_X5_23 (by omega) (Nat.le_of_ble_eq_true rfl) ⟨(Nat.le_of_ble_eq_true rfl), (Nat.le_of_ble_eq_true rfl)⟩ (by show _ ≤ _; simp only [gRmq]; omega) (by show _ ≤ _; simp only [gRmq]; omega) dX5_init_27 dX5_init_30 dX5_init_31 ?_
  refine y_sz (N' := 147) (k' := 16) (n' := 85) (by omega) (by simp only [gRmq]; omega) (by simp only [gRmq]; omega) ?_
  refine y_put C CM rfl (fs' := [.ref (gb G + 131), .ref (gb G + 138), .ref (gb G + 145), .null, .int 0]) fX5 2 (by omega) (by omega) (by decide) lf_X5_24 rfl (Or.inr ⟨rfl, rfl⟩) rfl rfl (Nat.le_of_ble_eq_true rfl) rfl dX5_init_34 ?_
  refine j_aload_n C dX5_init_37 rfl ?_
  refine j_bipush C (v := nI 8) dX5_init_38 rfl ?_
  refine y_newz C (m := 8) rfl rfl (by omega) (by decide) (by show _ ≤ _; simp only [gRmq]; omega) (by show _ ≤ _; simp only [gRmq]; omega) dX5_init_40 ?_
  refine y_sz (N' := 148) (k' := 17) (n' := 93) (by omega) (by omega) (by omega) ?_
  refine y_put C CM rfl (fs' := [.ref (gb G + 131), .ref (gb G + 138), .ref (gb G + 145), .ref (gb G + 147), .int 0]) fX5 3 (by omega) (by omega) (by decide) lf_X5_28 rfl (Or.inr ⟨rfl, rfl⟩) rfl rfl (Nat.le_of_ble_eq_true rfl) rfl dX5_init_42 ?_
  exact y_end C CM rfl rfl rfl rfl rfl rfl (Nat.le_of_ble_eq_true rfl) (Nat.le_of_ble_eq_true rfl) dX5_init_45
set_option maxHeartbeats 4000000 in
set_option maxRecDepth 100000 in
theorem sp_X3_init (G : gG) (σ : gE) (hs : σ 148 = .inr (4, [.null, .null, .null, .int 0, .int 0, .long 0])) : Sp G mX3_init (gRmq 0 3 1440) true 149 [.ref (gb G + 148)] σ (gMkr G 148 152 σ mM0) := by
  refine Sp.of (by decide +kernel) (Nat.le_of_ble_eq_true rfl) (fun X C CM => ?_)
  have C : gC G X RX3 cX3_init 1 (gRmq 0 3 1440) := C
  refine y_begin (M := mM0) hs ?_
  refine j_aload_n C dX3_init_0 rfl ?_
  refine j_objInit C lk_X3_3 iObj cObj (Nat.le_of_ble_eq_true rfl) (Nat.le_of_ble_eq_true rfl) (by decide) dX3_init_1 ?_
  refine j_aload_n C dX3_init_4 rfl ?_
  refine j_sipush C (v := nI 480) dX3_init_5 rfl ?_
  refine y_newz C (m := 480) rfl rfl (by omega) (by decide) (by show _ ≤ _; simp only [gRmq]; omega) (by show _ ≤ _; simp only [gRmq]; omega) dX3_init_8 ?_
  refine y_sz (N' := 150) (k' := 1) (n' := 480) (by omega) (by omega) (by omega) ?_
  refine y_put C CM rfl (fs' := [.ref (gb G + 149), .null, .null, .int 0, .int 0, .long 0]) fX3 0 (by omega) (by omega) (by decide) lf_X3_9 rfl (Or.inr ⟨rfl, rfl⟩) rfl rfl (Nat.le_of_ble_eq_true rfl) rfl dX3_init_10 ?_
  refine j_aload_n C dX3_init_13 rfl ?_
  refine j_sipush C (v := nI 480) dX3_init_14 rfl ?_
  refine y_newz C (m := 480) rfl rfl (by omega) (by decide) (by show _ ≤ _; simp only [gRmq]; omega) (by show _ ≤ _; simp only [gRmq]; omega) dX3_init_17 ?_
  refine y_sz (N' := 151) (k' := 2) (n' := 960) (by omega) (by omega) (by omega) ?_
  refine y_put C CM rfl (fs' := [.ref (gb G + 149), .ref (gb G + 150), .null, .int 0, .int 0, .long 0]) fX3 1 (by omega) (by omega) (by decide) lf_X3_15 rfl (Or.inr ⟨rfl, rfl⟩) rfl rfl (Nat.le_of_ble_eq_true rfl) rfl dX3_init_19 ?_
  refine j_aload_n C dX3_init_22 rfl ?_
  refine j_sipush C (v := nI 480) dX3_init_23 rfl ?_
  refine y_newz C (m := 480) rfl rfl (by omega) (by decide) (by show _ ≤ _; simp only [gRmq]; omega) (by show _ ≤ _; simp only [gRmq]; omega) dX3_init_26 ?_
  refine y_sz (N' := 152) (k' := 3) (n' := 1440) (by omega) (by omega) (by omega) ?_
  refine y_put C CM rfl (fs' := [.ref (gb G + 149), .ref (gb G + 150), .ref (gb G + 151), .int 0, .int 0, .long 0]) fX3 2 (by omega) (by omega) (by decide) lf_X3_18 rfl (Or.inr ⟨rfl, rfl⟩) rfl rfl (Nat.le_of_ble_eq_true rfl) rfl dX3_init_28 ?_
  exact y_end C CM rfl rfl rfl rfl rfl rfl (Nat.le_of_ble_eq_true rfl) (Nat.le_of_ble_eq_true rfl) dX3_init_31
set_option maxHeartbeats 4000000 in
set_option maxRecDepth 100000 in
theorem sp_X1_init (G : gG) (σ : gE) (hs : σ 1 = .inr (3, [.null, .null, .null, .null, .null, .null, .null, .int 0])) : Sp G mX1_init (gRmq 1 128 909) true 2 [.ref (gb G + 1)] σ (gMkr G 1 130 σ mM0) := by
  refine Sp.of (by decide +kernel) (Nat.le_of_ble_eq_true rfl) (fun X C CM => ?_)
  have C : gC G X RX1 cX1_init 2 (gRmq 1 128 909) := C
  refine y_begin (M := mM0) hs ?_
  refine j_aload_n C dX1_init_0 rfl ?_
  refine j_objInit C lk_X1_3 iObj cObj (Nat.le_of_ble_eq_true rfl) (Nat.le_of_ble_eq_true rfl) (by decide) dX1_init_1 ?_
  refine j_aload_n C dX1_init_4 rfl ?_
  refine j_bipush C (v := nI 60) dX1_init_5 rfl ?_
  refine y_anew C lc_X1_9 (by show _ ≤ _; simp only [gRmq]; omega) (by show _ ≤ _; simp only [gRmq]; omega) dX1_init_7 ?_
  refine y_put C CM rfl (fs' := [.ref (gb G + 2), .null, .null, .null, .null, .null, .null, .int 0]) fX1 0 (by omega) (by omega) (by decide) lf_X1_11 rfl (Or.inr ⟨rfl, rfl⟩) rfl rfl (Nat.le_of_ble_eq_true rfl) rfl dX1_init_10 ?_
  refine j_aload_n C dX1_init_13 rfl ?_
  refine y_sub C fX4 lc_X1_9 nX4 zX4 ffX4 (fun s h => sp_X4_init G s mM0 (t := 3) (by unfold gTr; decide) h rfl) rfl rfl kX4_init iX4_init lk_X1_17 (by omega) (Nat.le_of_ble_eq_true rfl) ⟨(Nat.le_of_ble_eq_true rfl), (Nat.le_of_ble_eq_true rfl)⟩ (by show _ ≤ _; simp only [gRmq]; omega) (by show _ ≤ _; simp only [gRmq]; omega) dX1_init_14 dX1_init_17 dX1_init_18 ?_
  refine y_sz (N' := 5) (k' := 3) (n' := 69) (by omega) (by simp only [gRmq]; omega) (by simp only [gRmq]; omega) ?_
  refine y_put C CM rfl (fs' := [.ref (gb G + 2), .ref (gb G + 3), .null, .null, .null, .null, .null, .int 0]) fX1 1 (by omega) (by omega) (by decide) lf_X1_18 rfl (Or.inr ⟨rfl, rfl⟩) rfl rfl (Nat.le_of_ble_eq_true rfl) rfl dX1_init_21 ?_
  refine j_aload_n C dX1_init_24 rfl ?_
  refine j_bipush C (v := nI 60) dX1_init_25 rfl ?_
  refine y_newi C (m := 60) rfl (by omega) (by decide) (by show _ ≤ _; simp only [gRmq]; omega) (by show _ ≤ _; simp only [gRmq]; omega) dX1_init_27 ?_
  refine y_sz (N' := 6) (k' := 4) (n' := 129) (by omega) (by omega) (by omega) ?_
  refine y_put C CM rfl (fs' := [.ref (gb G + 2), .ref (gb G + 3), .ref (gb G + 5), .null, .null, .null, .null, .int 0]) fX1 2 (by omega) (by omega) (by decide) lf_X1_22 rfl (Or.inr ⟨rfl, rfl⟩) rfl rfl (Nat.le_of_ble_eq_true rfl) rfl dX1_init_29 ?_
  refine j_aload_n C dX1_init_32 rfl ?_
  refine j_bipush C (v := nI 60) dX1_init_33 rfl ?_
  refine y_newi C (m := 60) rfl (by omega) (by decide) (by show _ ≤ _; simp only [gRmq]; omega) (by show _ ≤ _; simp only [gRmq]; omega) dX1_init_35 ?_
  refine y_sz (N' := 7) (k' := 5) (n' := 189) (by omega) (by omega) (by omega) ?_
  refine y_put C CM rfl (fs' := [.ref (gb G + 2), .ref (gb G + 3), .ref (gb G + 5), .ref (gb G + 6), .null, .null, .null, .int 0]) fX1 3 (by omega) (by omega) (by decide) lf_X1_26 rfl (Or.inr ⟨rfl, rfl⟩) rfl rfl (Nat.le_of_ble_eq_true rfl) rfl dX1_init_37 ?_
  refine j_aload_n C dX1_init_40 rfl ?_
  refine j_bipush C (v := nI 60) dX1_init_41 rfl ?_
  refine y_newz C (m := 60) rfl rfl (by omega) (by decide) (by show _ ≤ _; simp only [gRmq]; omega) (by show _ ≤ _; simp only [gRmq]; omega) dX1_init_43 ?_
  refine y_sz (N' := 8) (k' := 6) (n' := 249) (by omega) (by omega) (by omega) ?_
  refine y_put C CM rfl (fs' := [.ref (gb G + 2), .ref (gb G + 3), .ref (gb G + 5), .ref (gb G + 6), .ref (gb G + 7), .null, .null, .int 0]) fX1 4 (by omega) (by omega) (by decide) lf_X1_29 rfl (Or.inr ⟨rfl, rfl⟩) rfl rfl (Nat.le_of_ble_eq_true rfl) rfl dX1_init_45 ?_
  refine j_aload_n C dX1_init_48 rfl ?_
  refine j_bipush C (v := nI 60) dX1_init_49 rfl ?_
  refine y_newl C (m := 60) rfl (by omega) (by decide) (by show _ ≤ _; simp only [gRmq]; omega) (by show _ ≤ _; simp only [gRmq]; omega) dX1_init_51 ?_
  refine y_sz (N' := 9) (k' := 7) (n' := 309) (by omega) (by omega) (by omega) ?_
  refine y_put C CM rfl (fs' := [.ref (gb G + 2), .ref (gb G + 3), .ref (gb G + 5), .ref (gb G + 6), .ref (gb G + 7), .ref (gb G + 8), .null, .int 0]) fX1 5 (by omega) (by omega) (by decide) lf_X1_32 rfl (Or.inr ⟨rfl, rfl⟩) rfl rfl (Nat.le_of_ble_eq_true rfl) rfl dX1_init_53 ?_
  refine j_aload_n C dX1_init_56 rfl ?_
  refine j_bipush C (v := nI 60) dX1_init_57 rfl ?_
  refine y_newz C (m := 60) rfl rfl (by omega) (by decide) (by show _ ≤ _; simp only [gRmq]; omega) (by show _ ≤ _; simp only [gRmq]; omega) dX1_init_59 ?_
  refine y_sz (N' := 10) (k' := 8) (n' := 369) (by omega) (by omega) (by omega) ?_
  refine y_put C CM rfl (fs' := [.ref (gb G + 2), .ref (gb G + 3), .ref (gb G + 5), .ref (gb G + 6), .ref (gb G + 7), .ref (gb G + 8), .ref (gb G + 9), .int 0]) fX1 6 (by omega) (by omega) (by decide) lf_X1_36 rfl (Or.inr ⟨rfl, rfl⟩) rfl rfl (Nat.le_of_ble_eq_true rfl) rfl dX1_init_61 ?_
  refine j_iconst C (v := nI 0) dX1_init_64 rfl ?_
  refine j_istore_n C dX1_init_65 (by decide) rfl ?_
  have K66 : ∀ i, i ≤ 60 → YQ G X (10 + 2 * i) (8 + 2 * i) (369 + 9 * i) 66 [some (.ref (gb G + 1)), some (.int (nI i))] [] 3 (va_up (va_up σ 2 (arT G (i))) 1 (.inr (3, [.ref (gb G + 2), .ref (gb G + 3), .ref (gb G + 5), .ref (gb G + 6), .ref (gb G + 7), .ref (gb G + 8), .ref (gb G + 9), .int 0]))) (mI i) := by
    refine g_up _ _ (fun i hi ih => ?_)
    refine j_iload_n C dX1_init_66 rfl ?_
    refine j_bipush C (v := nI 60) dX1_init_67 rfl ?_
    refine y_ge C 105 dX1_init_69 (by decide) (by omega) (by omega) (fun h => ?_) (fun h => ?_)
    · obtain rfl : i = 60 := by omega
      refine y_sz (N' := 130) (k' := 128) (n' := 909) (by omega) (by omega) (by omega) ?_
      refine j_aload_n C dX1_init_105 rfl ?_
      refine y_get C fX1 5 (by omega) (by omega) (by decide) lf_X1_32 rfl rfl dX1_init_106 ?_
      refine j_iconst C (v := nI 0) dX1_init_109 rfl ?_
      refine j_lconst C (v := 1) dX1_init_110 rfl ?_
      refine y_last C (r := 8) (m := 60) (a := 0) rfl (by omega) (by omega) (by decide) (by decide) dX1_init_111 ?_
      rw [mI_e]
      refine j_aload_n C dX1_init_112 rfl ?_
      refine j_iconst C (v := nI 1) dX1_init_113 rfl ?_
      refine y_put C CM rfl (fs' := [.ref (gb G + 2), .ref (gb G + 3), .ref (gb G + 5), .ref (gb G + 6), .ref (gb G + 7), .ref (gb G + 8), .ref (gb G + 9), .int (nI 1)]) fX1 7 (by omega) (by omega) (by decide) lf_X1_39 rfl (Or.inl rfl) rfl rfl (Nat.le_of_ble_eq_true rfl) rfl dX1_init_114 ?_
      rw [up_cm _ (o := 2) (q := 1) _ _ (by decide)]
      refine y_cl (o := 2) (M := mM0) rfl ?_
      exact y_end C CM rfl rfl rfl rfl rfl rfl (Nat.le_of_ble_eq_true rfl) (Nat.le_of_ble_eq_true rfl) dX1_init_117
    · skip
      refine j_aload_n C dX1_init_72 rfl ?_
      refine y_get C fX1 0 (by omega) (by omega) (by decide) lf_X1_11 rfl rfl dX1_init_73 ?_
      refine j_iload_n C dX1_init_76 rfl ?_
      refine y_sub C fX4 lc_X1_9 nX4 zX4 ffX4 (fun s h2 => sp_X4_init G s (mI i) (gTr_c h) h2 (mI_t h)) rfl rfl kX4_init iX4_init lk_X1_17 (by omega) (Nat.le_of_ble_eq_true rfl) ⟨(Nat.le_of_ble_eq_true rfl), (Nat.le_of_ble_eq_true rfl)⟩ (by show _ ≤ _; simp only [gRmq]; omega) (by show _ ≤ _; simp only [gRmq]; omega) dX1_init_77 dX1_init_80 dX1_init_81 ?_
      refine y_sz (N' := 10 + 2 * (i + 1)) (k' := 8 + 2 * (i + 1)) (n' := 369 + 9 * (i + 1)) (by omega) (by simp only [gRmq]; omega) (by simp only [gRmq]; omega) ?_
      refine y_aast C h (by rw [mk6 G _ (gTr_c h).1, gFs_tr (gTr_c h)]) (by omega) dX1_init_84 ?_
      refine j_aload_n C dX1_init_85 rfl ?_
      refine y_get C fX1 2 (by omega) (by omega) (by decide) lf_X1_22 rfl rfl dX1_init_86 ?_
      refine j_iload_n C dX1_init_89 rfl ?_
      refine j_iconst C (v := -1) dX1_init_90 rfl ?_
      refine y_iast C (r := 5) (m := 60) (f := ngF (i + 1)) rfl (by omega) (by omega) (by decide) h (ng_s i) dX1_init_91 ?_
      refine j_aload_n C dX1_init_92 rfl ?_
      refine y_get C fX1 3 (by omega) (by omega) (by decide) lf_X1_26 rfl rfl dX1_init_93 ?_
      refine j_iload_n C dX1_init_96 rfl ?_
      refine j_iconst C (v := -1) dX1_init_97 rfl ?_
      refine y_iast C (r := 6) (m := 60) (f := ngF (i + 1)) rfl (by omega) (by omega) (by decide) h (ng_s i) dX1_init_98 ?_
      refine y_iinc C dX1_init_99 rfl (by decide) rfl ?_
      refine j_goto C 66 dX1_init_102 ?_ (by decide)
      exact y_cast (ih h) (gLe_c rfl (gLe_c rfl gLe_0)) rfl (mI_s i)
  exact y_cast (K66 0 (by decide)) (gLe_c rfl (gLe_c rfl gLe_0)) rfl rfl
set_option maxHeartbeats 4000000 in
set_option maxRecDepth 100000 in
theorem sp_X6_init (G : gG) (σ : gE) (hs : σ 0 = .inr (7, [.null, .null, .null, .null, .null, .null, .int 0])) : Sp G mX6_init (gRmq 3 155 2535) true 1 [.ref (gb G + 0)] σ (gMkr G 0 156 σ mM0) := by
  refine Sp.of (by decide +kernel) (Nat.le_of_ble_eq_true rfl) (fun X C CM => ?_)
  have C : gC G X RX6 cX6_init 2 (gRmq 3 155 2535) := C
  refine y_begin (M := mM0) hs ?_
  refine j_aload_n C dX6_init_0 rfl ?_
  refine j_objInit C lk_X6_1 iObj cObj (Nat.le_of_ble_eq_true rfl) (Nat.le_of_ble_eq_true rfl) (by decide) dX6_init_1 ?_
  refine j_aload_n C dX6_init_4 rfl ?_
  refine y_sub C fX1 lc_X6_7 nX1 zX1 ffX1 (fun s h => sp_X1_init G s h) rfl rfl kX1_init iX1_init lk_X6_9 (by omega) (Nat.le_of_ble_eq_true rfl) ⟨(Nat.le_of_ble_eq_true rfl), (Nat.le_of_ble_eq_true rfl)⟩ (by show _ ≤ _; simp only [gRmq]; omega) (by show _ ≤ _; simp only [gRmq]; omega) dX6_init_5 dX6_init_8 dX6_init_9 ?_
  refine y_sz (N' := 130) (k' := 129) (n' := 917) (by omega) (by simp only [gRmq]; omega) (by simp only [gRmq]; omega) ?_
  refine y_put C CM rfl (fs' := [.ref (gb G + 1), .null, .null, .null, .null, .null, .int 0]) fX6 0 (by omega) (by omega) (by decide) lf_X6_10 rfl (Or.inr ⟨rfl, rfl⟩) rfl rfl (Nat.le_of_ble_eq_true rfl) rfl dX6_init_12 ?_
  refine j_aload_n C dX6_init_15 rfl ?_
  refine y_sub C fX5 lc_X6_16 nX5 zX5 ffX5 (fun s h => sp_X5_init G s h) rfl rfl kX5_init iX5_init lk_X6_18 (by omega) (Nat.le_of_ble_eq_true rfl) ⟨(Nat.le_of_ble_eq_true rfl), (Nat.le_of_ble_eq_true rfl)⟩ (by show _ ≤ _; simp only [gRmq]; omega) (by show _ ≤ _; simp only [gRmq]; omega) dX6_init_16 dX6_init_19 dX6_init_20 ?_
  refine y_sz (N' := 148) (k' := 147) (n' := 1015) (by omega) (by simp only [gRmq]; omega) (by simp only [gRmq]; omega) ?_
  refine y_put C CM rfl (fs' := [.ref (gb G + 1), .ref (gb G + 130), .null, .null, .null, .null, .int 0]) fX6 1 (by omega) (by omega) (by decide) lf_X6_19 rfl (Or.inr ⟨rfl, rfl⟩) rfl rfl (Nat.le_of_ble_eq_true rfl) rfl dX6_init_23 ?_
  refine j_aload_n C dX6_init_26 rfl ?_
  refine y_sub C fX3 lc_X6_23 nX3 zX3 ffX3 (fun s h => sp_X3_init G s h) rfl rfl kX3_init iX3_init lk_X6_25 (by omega) (Nat.le_of_ble_eq_true rfl) ⟨(Nat.le_of_ble_eq_true rfl), (Nat.le_of_ble_eq_true rfl)⟩ (by show _ ≤ _; simp only [gRmq]; omega) (by show _ ≤ _; simp only [gRmq]; omega) dX6_init_27 dX6_init_30 dX6_init_31 ?_
  refine y_sz (N' := 152) (k' := 151) (n' := 2461) (by omega) (by simp only [gRmq]; omega) (by simp only [gRmq]; omega) ?_
  refine y_put C CM rfl (fs' := [.ref (gb G + 1), .ref (gb G + 130), .ref (gb G + 148), .null, .null, .null, .int 0]) fX6 2 (by omega) (by omega) (by decide) lf_X6_26 rfl (Or.inr ⟨rfl, rfl⟩) rfl rfl (Nat.le_of_ble_eq_true rfl) rfl dX6_init_34 ?_
  refine j_aload_n C dX6_init_37 rfl ?_
  refine y_sub C fX4 lc_X6_30 nX4 zX4 ffX4 (fun s h => sp_X4_init G s mM0 (t := 152) (by unfold gTr; decide) h rfl) rfl rfl kX4_init iX4_init lk_X6_32 (by omega) (Nat.le_of_ble_eq_true rfl) ⟨(Nat.le_of_ble_eq_true rfl), (Nat.le_of_ble_eq_true rfl)⟩ (by show _ ≤ _; simp only [gRmq]; omega) (by show _ ≤ _; simp only [gRmq]; omega) dX6_init_38 dX6_init_41 dX6_init_42 ?_
  refine y_sz (N' := 154) (k' := 153) (n' := 2470) (by omega) (by simp only [gRmq]; omega) (by simp only [gRmq]; omega) ?_
  refine y_put C CM rfl (fs' := [.ref (gb G + 1), .ref (gb G + 130), .ref (gb G + 148), .ref (gb G + 152), .null, .null, .int 0]) fX6 3 (by omega) (by omega) (by decide) lf_X6_33 rfl (Or.inr ⟨rfl, rfl⟩) rfl rfl (Nat.le_of_ble_eq_true rfl) rfl dX6_init_45 ?_
  refine j_aload_n C dX6_init_48 rfl ?_
  refine j_iconst C (v := nI 5) dX6_init_49 rfl ?_
  refine y_newi C (m := 5) rfl (by omega) (by decide) (by show _ ≤ _; simp only [gRmq]; omega) (by show _ ≤ _; simp only [gRmq]; omega) dX6_init_50 ?_
  refine y_sz (N' := 155) (k' := 154) (n' := 2475) (by omega) (by omega) (by omega) ?_
  refine y_put C CM rfl (fs' := [.ref (gb G + 1), .ref (gb G + 130), .ref (gb G + 148), .ref (gb G + 152), .ref (gb G + 154), .null, .int 0]) fX6 4 (by omega) (by omega) (by decide) lf_X6_37 rfl (Or.inr ⟨rfl, rfl⟩) rfl rfl (Nat.le_of_ble_eq_true rfl) rfl dX6_init_52 ?_
  refine j_aload_n C dX6_init_55 rfl ?_
  refine j_bipush C (v := nI 60) dX6_init_56 rfl ?_
  refine y_newz C (m := 60) rfl rfl (by omega) (by decide) (by show _ ≤ _; simp only [gRmq]; omega) (by show _ ≤ _; simp only [gRmq]; omega) dX6_init_58 ?_
  refine y_sz (N' := 156) (k' := 155) (n' := 2535) (by omega) (by omega) (by omega) ?_
  refine y_put C CM rfl (fs' := [.ref (gb G + 1), .ref (gb G + 130), .ref (gb G + 148), .ref (gb G + 152), .ref (gb G + 154), .ref (gb G + 155), .int 0]) fX6 5 (by omega) (by omega) (by decide) lf_X6_41 rfl (Or.inr ⟨rfl, rfl⟩) rfl rfl (Nat.le_of_ble_eq_true rfl) rfl dX6_init_60 ?_
  refine j_iconst C (v := nI 1) dX6_init_63 rfl ?_
  refine j_istore_n C dX6_init_64 (by decide) rfl ?_
  have K65 : ∀ i, i ≤ 5 → 1 ≤ i → YQ G X 156 155 2535 65 [some (.ref (gb G + 0)), some (.int (nI i))] [] 1 (va_up σ 0 (.inr (7, [.ref (gb G + 1), .ref (gb G + 130), .ref (gb G + 148), .ref (gb G + 152), .ref (gb G + 154), .ref (gb G + 155), .int 0]))) (sI mM0 154 (hdF i)) := by
    refine g_up _ _ (fun i hi ih h1 => ?_)
    refine j_iload_n C dX6_init_65 rfl ?_
    refine j_aload_n C dX6_init_66 rfl ?_
    refine y_get C fX6 4 (by omega) (by omega) (by decide) lf_X6_37 rfl rfl dX6_init_67 ?_
    refine y_alen C (r := 154) (m := 5) rfl (by omega) (by omega) dX6_init_70 ?_
    refine y_ge C 87 dX6_init_71 (by decide) (by omega) (by omega) (fun h => ?_) (fun h => ?_)
    · obtain rfl : i = 5 := by omega
      refine j_aload_n C dX6_init_87 rfl ?_
      refine y_get C fX6 4 (by omega) (by omega) (by decide) lf_X6_37 rfl rfl dX6_init_88 ?_
      refine j_iconst C (v := nI 0) dX6_init_91 rfl ?_
      refine j_iconst C (v := nI 0) dX6_init_92 rfl ?_
      refine y_iast C (r := 154) (m := 5) (f := hdF 5) rfl (by omega) (by omega) (by decide) (by decide) (by rw [sI_s, nI_0]; exact hd_0 5) dX6_init_93 ?_
      rw [sI_sI, show sI mM0 154 (hdF 5) = mM0 from sI_id mM0 154]
      refine j_aload_n C dX6_init_94 rfl ?_
      refine j_iconst C (v := nI 0) dX6_init_95 rfl ?_
      refine y_put C CM rfl (fs' := [.ref (gb G + 1), .ref (gb G + 130), .ref (gb G + 148), .ref (gb G + 152), .ref (gb G + 154), .ref (gb G + 155), .int (nI 0)]) fX6 6 (by omega) (by omega) (by decide) lf_X6_44 rfl (Or.inl rfl) rfl rfl (Nat.le_of_ble_eq_true rfl) rfl dX6_init_96 ?_
      exact y_end C CM rfl rfl rfl rfl rfl rfl (Nat.le_of_ble_eq_true rfl) (Nat.le_of_ble_eq_true rfl) dX6_init_99
    · skip
      refine j_aload_n C dX6_init_74 rfl ?_
      refine y_get C fX6 4 (by omega) (by omega) (by decide) lf_X6_37 rfl rfl dX6_init_75 ?_
      refine j_iload_n C dX6_init_78 rfl ?_
      refine j_iconst C (v := -1) dX6_init_79 rfl ?_
      refine y_iast C (r := 154) (m := 5) (f := hdF (i + 1)) rfl (by omega) (by omega) (by decide) h (by rw [sI_s]; exact hd_s h1) dX6_init_80 ?_
      refine y_iinc C dX6_init_81 rfl (by decide) rfl ?_
      refine j_goto C 65 dX6_init_84 ?_ (by decide)
      exact y_cast (ih h (by omega)) (gLe_c rfl (gLe_c rfl gLe_0)) rfl (sI_sI _ _ _ _)
  exact y_cast (K65 1 (by decide) (by decide)) (gLe_c rfl (gLe_c rfl gLe_0)) rfl (by rw [hd_1, ng_0])
