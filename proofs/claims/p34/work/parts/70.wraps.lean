set_option maxHeartbeats 4000000 in
set_option maxRecDepth 100000 in
theorem sp_L_writes (G : gG) (M : gMem) {A : gSt0} (hO : gOk A) (hC : gRC A M) (x y : Int32) : SpS G mL_writes (gRm 7 4) [.ref (gb G + 0), .int x, .int y] M (some (.int (wI (oWrite A x y)))) (gRC (oWrite A x y).2.2) := by
  refine Sp.of (by decide +kernel) (Nat.le_of_ble_eq_true rfl) (fun X C CM => ?_)
  have C : gC G X RL cL_writes 4 (gRm 7 4) := C
  refine j_aload_n C dL_writes_0 rfl ?_
  refine j_iload_n C dL_writes_1 rfl ?_
  refine j_iload_n C dL_writes_2 rfl ?_
  refine j_callV C (sp_X6_write G M hO.1 hO.2 hC x y) vX6_write.1 vX6_write.2.1 vX6_write.2.2.1 vX6_write.2.2.2.1 lk_L_7 (mk6 G M (o := 0) rfl) (by decide) vX6_write.2.2.2.2 rfl rfl (Nat.le_of_ble_eq_true rfl) ⟨⟨(Nat.le_of_ble_eq_true rfl), (Nat.le_of_ble_eq_true rfl)⟩, (Nat.le_of_ble_eq_true rfl), (Nat.le_of_ble_eq_true rfl)⟩ dL_writes_3 (fun v N1 σ1 h => ?_) (fun E N1 σ1 h => ?_)
  · obtain ⟨rfl, M1, hp, rfl⟩ := h
    obtain ⟨e0, rfl, hC1, -⟩ := post_in hp
    exact q_iretS C CM rfl (Nat.le_of_ble_eq_true rfl) (Nat.le_of_ble_eq_true rfl) dL_writes_6 (wI_0 e0) hC1
  · obtain ⟨rfl, M1, hp, rfl⟩ := h
    obtain ⟨j, hj, hE, hC1, -⟩ := post_ex hp
    rcases j with _ | _ | j
    · cases hE
      refine j_catch C CM [] ⟨0, 6, 7, 13⟩ [⟨0, 6, 12, 15⟩] rfl (fun z hz => absurd hz List.not_mem_nil) rfl (by decide) lc_L_13 (by decide +kernel) (fun q => ?_)
      show Q G X _ _ 7 _ _ _
      refine j_astore_n C dL_writes_7 (by decide) rfl ?_
      refine j_sipush C (v := (-1001)) dL_writes_8 rfl ?_
      exact q_iretS C CM rfl (Nat.le_of_ble_eq_true rfl) (Nat.le_of_ble_eq_true rfl) dL_writes_11 (wI_s hj (by decide)) hC1
    · cases hE
      refine j_catch C CM [⟨0, 6, 7, 13⟩] ⟨0, 6, 12, 15⟩ [] rfl (List.forall_mem_cons.mpr ⟨Or.inr ⟨by decide, "java/lang/IndexOutOfBoundsException", lc_L_13, by decide +kernel⟩, fun z hz => absurd hz List.not_mem_nil⟩) rfl (by decide) lc_L_15 (by decide +kernel) (fun q => ?_)
      show Q G X _ _ 12 _ _ _
      refine j_astore_n C dL_writes_12 (by decide) rfl ?_
      refine j_sipush C (v := (-1002)) dL_writes_13 rfl ?_
      exact q_iretS C CM rfl (Nat.le_of_ble_eq_true rfl) (Nat.le_of_ble_eq_true rfl) dL_writes_16 (wI_s hj (by decide)) hC1
    · cases hE
set_option maxHeartbeats 4000000 in
set_option maxRecDepth 100000 in
theorem sp_L_erases (G : gG) (M : gMem) {A : gSt0} (hO : gOk A) (hC : gRC A M) (x : Int32) : SpS G mL_erases (gRm 7 4) [.ref (gb G + 0), .int x] M (some (.int (wI (oErase A x)))) (gRC (oErase A x).2.2) := by
  refine Sp.of (by decide +kernel) (Nat.le_of_ble_eq_true rfl) (fun X C CM => ?_)
  have C : gC G X RL cL_erases 3 (gRm 7 4) := C
  refine j_aload_n C dL_erases_0 rfl ?_
  refine j_iload_n C dL_erases_1 rfl ?_
  refine j_callV C (sp_X6_erase G M hO.1 hO.2 hC x) vX6_erase.1 vX6_erase.2.1 vX6_erase.2.2.1 vX6_erase.2.2.2.1 lk_L_17 (mk6 G M (o := 0) rfl) (by decide) vX6_erase.2.2.2.2 rfl rfl (Nat.le_of_ble_eq_true rfl) ⟨⟨(Nat.le_of_ble_eq_true rfl), (Nat.le_of_ble_eq_true rfl)⟩, (Nat.le_of_ble_eq_true rfl), (Nat.le_of_ble_eq_true rfl)⟩ dL_erases_2 (fun v N1 σ1 h => ?_) (fun E N1 σ1 h => ?_)
  · obtain ⟨rfl, M1, hp, rfl⟩ := h
    obtain ⟨e0, rfl, hC1, -⟩ := post_in hp
    exact q_iretS C CM rfl (Nat.le_of_ble_eq_true rfl) (Nat.le_of_ble_eq_true rfl) dL_erases_5 (wI_0 e0) hC1
  · obtain ⟨rfl, M1, hp, rfl⟩ := h
    obtain ⟨j, hj, hE, hC1, -⟩ := post_ex hp
    rcases j with _ | _ | j
    · cases hE
      refine j_catch C CM [] ⟨0, 5, 6, 13⟩ [⟨0, 5, 11, 21⟩] rfl (fun z hz => absurd hz List.not_mem_nil) rfl (by decide) lc_L_13 (by decide +kernel) (fun q => ?_)
      show Q G X _ _ 6 _ _ _
      refine j_astore_n C dL_erases_6 (by decide) rfl ?_
      refine j_sipush C (v := (-1001)) dL_erases_7 rfl ?_
      exact q_iretS C CM rfl (Nat.le_of_ble_eq_true rfl) (Nat.le_of_ble_eq_true rfl) dL_erases_10 (wI_s hj (by decide)) hC1
    · cases hE
      refine j_catch C CM [⟨0, 5, 6, 13⟩] ⟨0, 5, 11, 21⟩ [] rfl (List.forall_mem_cons.mpr ⟨Or.inr ⟨by decide, "java/lang/IndexOutOfBoundsException", lc_L_13, by decide +kernel⟩, fun z hz => absurd hz List.not_mem_nil⟩) rfl (by decide) lc_L_21 (by decide +kernel) (fun q => ?_)
      show Q G X _ _ 11 _ _ _
      refine j_astore_n C dL_erases_11 (by decide) rfl ?_
      refine j_sipush C (v := (-1002)) dL_erases_12 rfl ?_
      exact q_iretS C CM rfl (Nat.le_of_ble_eq_true rfl) (Nat.le_of_ble_eq_true rfl) dL_erases_15 (wI_s hj (by decide)) hC1
    · cases hE
set_option maxHeartbeats 4000000 in
set_option maxRecDepth 100000 in
theorem sp_L_moves (G : gG) (M : gMem) {A : gSt0} (hO : gOk A) (hC : gRC A M) (x y : Int32) : SpS G mL_moves (gRm 7 4) [.ref (gb G + 0), .int x, .int y] M (some (.int (wI (oMove A x y)))) (gRC (oMove A x y).2.2) := by
  refine Sp.of (by decide +kernel) (Nat.le_of_ble_eq_true rfl) (fun X C CM => ?_)
  have C : gC G X RL cL_moves 4 (gRm 7 4) := C
  refine j_aload_n C dL_moves_0 rfl ?_
  refine j_iload_n C dL_moves_1 rfl ?_
  refine j_iload_n C dL_moves_2 rfl ?_
  refine j_callV C (sp_X6_move G M hO.1 hO.2 hC x y) vX6_move.1 vX6_move.2.1 vX6_move.2.2.1 vX6_move.2.2.2.1 lk_L_23 (mk6 G M (o := 0) rfl) (by decide) vX6_move.2.2.2.2 rfl rfl (Nat.le_of_ble_eq_true rfl) ⟨⟨(Nat.le_of_ble_eq_true rfl), (Nat.le_of_ble_eq_true rfl)⟩, (Nat.le_of_ble_eq_true rfl), (Nat.le_of_ble_eq_true rfl)⟩ dL_moves_3 (fun v N1 σ1 h => ?_) (fun E N1 σ1 h => ?_)
  · obtain ⟨rfl, M1, hp, rfl⟩ := h
    obtain ⟨e0, rfl, hC1, -⟩ := post_in hp
    exact q_iretS C CM rfl (Nat.le_of_ble_eq_true rfl) (Nat.le_of_ble_eq_true rfl) dL_moves_6 (wI_0 e0) hC1
  · obtain ⟨rfl, M1, hp, rfl⟩ := h
    obtain ⟨j, hj, hE, hC1, -⟩ := post_ex hp
    rcases j with _ | _ | _ | j
    · cases hE
      refine j_catch C CM [] ⟨0, 6, 7, 13⟩ [⟨0, 6, 12, 21⟩, ⟨0, 6, 17, 26⟩] rfl (fun z hz => absurd hz List.not_mem_nil) rfl (by decide) lc_L_13 (by decide +kernel) (fun q => ?_)
      show Q G X _ _ 7 _ _ _
      refine j_astore_n C dL_moves_7 (by decide) rfl ?_
      refine j_sipush C (v := (-1001)) dL_moves_8 rfl ?_
      exact q_iretS C CM rfl (Nat.le_of_ble_eq_true rfl) (Nat.le_of_ble_eq_true rfl) dL_moves_11 (wI_s hj (by decide)) hC1
    · cases hE
      refine j_catch C CM [⟨0, 6, 7, 13⟩] ⟨0, 6, 12, 21⟩ [⟨0, 6, 17, 26⟩] rfl (List.forall_mem_cons.mpr ⟨Or.inr ⟨by decide, "java/lang/IndexOutOfBoundsException", lc_L_13, by decide +kernel⟩, fun z hz => absurd hz List.not_mem_nil⟩) rfl (by decide) lc_L_21 (by decide +kernel) (fun q => ?_)
      show Q G X _ _ 12 _ _ _
      refine j_astore_n C dL_moves_12 (by decide) rfl ?_
      refine j_sipush C (v := (-1002)) dL_moves_13 rfl ?_
      exact q_iretS C CM rfl (Nat.le_of_ble_eq_true rfl) (Nat.le_of_ble_eq_true rfl) dL_moves_16 (wI_s hj (by decide)) hC1
    · cases hE
      refine j_catch C CM [⟨0, 6, 7, 13⟩, ⟨0, 6, 12, 21⟩] ⟨0, 6, 17, 26⟩ [] rfl (List.forall_mem_cons.mpr ⟨Or.inr ⟨by decide, "java/lang/IndexOutOfBoundsException", lc_L_13, by decide +kernel⟩, List.forall_mem_cons.mpr ⟨Or.inr ⟨by decide, "java/util/NoSuchElementException", lc_L_21, by decide +kernel⟩, fun z hz => absurd hz List.not_mem_nil⟩⟩) rfl (by decide) lc_L_26 (by decide +kernel) (fun q => ?_)
      show Q G X _ _ 17 _ _ _
      refine j_astore_n C dL_moves_17 (by decide) rfl ?_
      refine j_sipush C (v := (-1003)) dL_moves_18 rfl ?_
      exact q_iretS C CM rfl (Nat.le_of_ble_eq_true rfl) (Nat.le_of_ble_eq_true rfl) dL_moves_21 (wI_s hj (by decide)) hC1
    · cases hE
set_option maxHeartbeats 4000000 in
set_option maxRecDepth 100000 in
theorem sp_L_lies (G : gG) (M : gMem) {A : gSt0} (hO : gOk A) (hC : gRC A M) (x : Int32) : SpS G mL_lies (gRm 7 4) [.ref (gb G + 0), .int x] M (some (.int (wI (oContent A x)))) (gRC (oContent A x).2.2) := by
  refine Sp.of (by decide +kernel) (Nat.le_of_ble_eq_true rfl) (fun X C CM => ?_)
  have C : gC G X RL cL_lies 3 (gRm 7 4) := C
  refine j_aload_n C dL_lies_0 rfl ?_
  refine j_iload_n C dL_lies_1 rfl ?_
  refine j_callV C (sp_X6_content G M hO.1 hO.2 hC x) vX6_content.1 vX6_content.2.1 vX6_content.2.2.1 vX6_content.2.2.2.1 lk_L_28 (mk6 G M (o := 0) rfl) (by decide) vX6_content.2.2.2.2 rfl rfl (Nat.le_of_ble_eq_true rfl) ⟨⟨(Nat.le_of_ble_eq_true rfl), (Nat.le_of_ble_eq_true rfl)⟩, (Nat.le_of_ble_eq_true rfl), (Nat.le_of_ble_eq_true rfl)⟩ dL_lies_2 (fun v N1 σ1 h => ?_) (fun E N1 σ1 h => ?_)
  · obtain ⟨rfl, M1, hp, rfl⟩ := h
    obtain ⟨e0, rfl, hC1, -⟩ := post_in hp
    exact q_iretS C CM rfl (Nat.le_of_ble_eq_true rfl) (Nat.le_of_ble_eq_true rfl) dL_lies_5 (wI_0 e0) hC1
  · obtain ⟨rfl, M1, hp, rfl⟩ := h
    obtain ⟨j, hj, hE, hC1, -⟩ := post_ex hp
    rcases j with _ | _ | j
    · cases hE
      refine j_catch C CM [] ⟨0, 5, 6, 13⟩ [⟨0, 5, 11, 21⟩] rfl (fun z hz => absurd hz List.not_mem_nil) rfl (by decide) lc_L_13 (by decide +kernel) (fun q => ?_)
      show Q G X _ _ 6 _ _ _
      refine j_astore_n C dL_lies_6 (by decide) rfl ?_
      refine j_sipush C (v := (-1001)) dL_lies_7 rfl ?_
      exact q_iretS C CM rfl (Nat.le_of_ble_eq_true rfl) (Nat.le_of_ble_eq_true rfl) dL_lies_10 (wI_s hj (by decide)) hC1
    · cases hE
      refine j_catch C CM [⟨0, 5, 6, 13⟩] ⟨0, 5, 11, 21⟩ [] rfl (List.forall_mem_cons.mpr ⟨Or.inr ⟨by decide, "java/lang/IndexOutOfBoundsException", lc_L_13, by decide +kernel⟩, fun z hz => absurd hz List.not_mem_nil⟩) rfl (by decide) lc_L_21 (by decide +kernel) (fun q => ?_)
      show Q G X _ _ 11 _ _ _
      refine j_astore_n C dL_lies_11 (by decide) rfl ?_
      refine j_sipush C (v := (-1002)) dL_lies_12 rfl ?_
      exact q_iretS C CM rfl (Nat.le_of_ble_eq_true rfl) (Nat.le_of_ble_eq_true rfl) dL_lies_15 (wI_s hj (by decide)) hC1
    · cases hE
set_option maxHeartbeats 4000000 in
set_option maxRecDepth 100000 in
theorem sp_L_commits (G : gG) (M : gMem) {A : gSt0} (hO : gOk A) (hC : gRC A M)  : SpS G mL_commits (gRm 7 4) [.ref (gb G + 0)] M (some (.int (wI (oCommit A)))) (gRC (oCommit A).2.2) := by
  refine Sp.of (by decide +kernel) (Nat.le_of_ble_eq_true rfl) (fun X C CM => ?_)
  have C : gC G X RL cL_commits 2 (gRm 7 4) := C
  refine j_aload_n C dL_commits_0 rfl ?_
  refine j_callV C (sp_X6_commit G M hO.1 hO.2 hC ) vX6_commit.1 vX6_commit.2.1 vX6_commit.2.2.1 vX6_commit.2.2.2.1 lk_L_31 (mk6 G M (o := 0) rfl) (by decide) vX6_commit.2.2.2.2 rfl rfl (Nat.le_of_ble_eq_true rfl) ⟨⟨(Nat.le_of_ble_eq_true rfl), (Nat.le_of_ble_eq_true rfl)⟩, (Nat.le_of_ble_eq_true rfl), (Nat.le_of_ble_eq_true rfl)⟩ dL_commits_1 (fun v N1 σ1 h => ?_) (fun E N1 σ1 h => ?_)
  · obtain ⟨rfl, M1, hp, rfl⟩ := h
    obtain ⟨e0, rfl, hC1, -⟩ := post_in hp
    exact q_iretS C CM rfl (Nat.le_of_ble_eq_true rfl) (Nat.le_of_ble_eq_true rfl) dL_commits_4 (wI_0 e0) hC1
  · obtain ⟨rfl, M1, hp, rfl⟩ := h
    obtain ⟨j, hj, hE, hC1, -⟩ := post_ex hp
    rcases j with _ | j
    · cases hE
      refine j_catch C CM [] ⟨0, 4, 5, 26⟩ [] rfl (fun z hz => absurd hz List.not_mem_nil) rfl (by decide) lc_L_26 (by decide +kernel) (fun q => ?_)
      show Q G X _ _ 5 _ _ _
      refine j_astore_n C dL_commits_5 (by decide) rfl ?_
      refine j_sipush C (v := (-1001)) dL_commits_6 rfl ?_
      exact q_iretS C CM rfl (Nat.le_of_ble_eq_true rfl) (Nat.le_of_ble_eq_true rfl) dL_commits_9 (wI_s hj (by decide)) hC1
    · cases hE
set_option maxHeartbeats 4000000 in
set_option maxRecDepth 100000 in
theorem sp_L_branches (G : gG) (M : gMem) {A : gSt0} (hO : gOk A) (hC : gRC A M) (x : Int32) : SpS G mL_branches (gRm 7 4) [.ref (gb G + 0), .int x] M (some (.int (wI (oBranch A x)))) (gRC (oBranch A x).2.2) := by
  refine Sp.of (by decide +kernel) (Nat.le_of_ble_eq_true rfl) (fun X C CM => ?_)
  have C : gC G X RL cL_branches 3 (gRm 7 4) := C
  refine j_aload_n C dL_branches_0 rfl ?_
  refine j_iload_n C dL_branches_1 rfl ?_
  refine j_callV C (sp_X6_branch G M hO.1 hO.2 hC x) vX6_branch.1 vX6_branch.2.1 vX6_branch.2.2.1 vX6_branch.2.2.2.1 lk_L_35 (mk6 G M (o := 0) rfl) (by decide) vX6_branch.2.2.2.2 rfl rfl (Nat.le_of_ble_eq_true rfl) ⟨⟨(Nat.le_of_ble_eq_true rfl), (Nat.le_of_ble_eq_true rfl)⟩, (Nat.le_of_ble_eq_true rfl), (Nat.le_of_ble_eq_true rfl)⟩ dL_branches_2 (fun v N1 σ1 h => ?_) (fun E N1 σ1 h => ?_)
  · obtain ⟨rfl, M1, hp, rfl⟩ := h
    obtain ⟨e0, rfl, hC1, -⟩ := post_in hp
    exact q_iretS C CM rfl (Nat.le_of_ble_eq_true rfl) (Nat.le_of_ble_eq_true rfl) dL_branches_5 (wI_0 e0) hC1
  · obtain ⟨rfl, M1, hp, rfl⟩ := h
    obtain ⟨j, hj, hE, hC1, -⟩ := post_ex hp
    rcases j with _ | _ | j
    · cases hE
      refine j_catch C CM [] ⟨0, 5, 6, 13⟩ [⟨0, 5, 11, 26⟩] rfl (fun z hz => absurd hz List.not_mem_nil) rfl (by decide) lc_L_13 (by decide +kernel) (fun q => ?_)
      show Q G X _ _ 6 _ _ _
      refine j_astore_n C dL_branches_6 (by decide) rfl ?_
      refine j_sipush C (v := (-1001)) dL_branches_7 rfl ?_
      exact q_iretS C CM rfl (Nat.le_of_ble_eq_true rfl) (Nat.le_of_ble_eq_true rfl) dL_branches_10 (wI_s hj (by decide)) hC1
    · cases hE
      refine j_catch C CM [⟨0, 5, 6, 13⟩] ⟨0, 5, 11, 26⟩ [] rfl (List.forall_mem_cons.mpr ⟨Or.inr ⟨by decide, "java/lang/IndexOutOfBoundsException", lc_L_13, by decide +kernel⟩, fun z hz => absurd hz List.not_mem_nil⟩) rfl (by decide) lc_L_26 (by decide +kernel) (fun q => ?_)
      show Q G X _ _ 11 _ _ _
      refine j_astore_n C dL_branches_11 (by decide) rfl ?_
      refine j_sipush C (v := (-1002)) dL_branches_12 rfl ?_
      exact q_iretS C CM rfl (Nat.le_of_ble_eq_true rfl) (Nat.le_of_ble_eq_true rfl) dL_branches_15 (wI_s hj (by decide)) hC1
    · cases hE
set_option maxHeartbeats 4000000 in
set_option maxRecDepth 100000 in
theorem sp_L_goes (G : gG) (M : gMem) {A : gSt0} (hO : gOk A) (hC : gRC A M) (x : Int32) : SpS G mL_goes (gRm 7 4) [.ref (gb G + 0), .int x] M (some (.int (wI (oCheckOut A x)))) (gRC (oCheckOut A x).2.2) := by
  refine Sp.of (by decide +kernel) (Nat.le_of_ble_eq_true rfl) (fun X C CM => ?_)
  have C : gC G X RL cL_goes 3 (gRm 7 4) := C
  refine j_aload_n C dL_goes_0 rfl ?_
  refine j_iload_n C dL_goes_1 rfl ?_
  refine j_callV C (sp_X6_checkOut G M hO.1 hO.2 hC x) vX6_checkOut.1 vX6_checkOut.2.1 vX6_checkOut.2.2.1 vX6_checkOut.2.2.2.1 lk_L_38 (mk6 G M (o := 0) rfl) (by decide) vX6_checkOut.2.2.2.2 rfl rfl (Nat.le_of_ble_eq_true rfl) ⟨⟨(Nat.le_of_ble_eq_true rfl), (Nat.le_of_ble_eq_true rfl)⟩, (Nat.le_of_ble_eq_true rfl), (Nat.le_of_ble_eq_true rfl)⟩ dL_goes_2 (fun v N1 σ1 h => ?_) (fun E N1 σ1 h => ?_)
  · obtain ⟨rfl, M1, hp, rfl⟩ := h
    obtain ⟨e0, rfl, hC1, -⟩ := post_in hp
    exact q_iretS C CM rfl (Nat.le_of_ble_eq_true rfl) (Nat.le_of_ble_eq_true rfl) dL_goes_5 (wI_0 e0) hC1
  · obtain ⟨rfl, M1, hp, rfl⟩ := h
    obtain ⟨j, hj, hE, hC1, -⟩ := post_ex hp
    rcases j with _ | _ | _ | j
    · cases hE
      refine j_catch C CM [] ⟨0, 5, 6, 13⟩ [⟨0, 5, 11, 21⟩, ⟨0, 5, 16, 26⟩] rfl (fun z hz => absurd hz List.not_mem_nil) rfl (by decide) lc_L_13 (by decide +kernel) (fun q => ?_)
      show Q G X _ _ 6 _ _ _
      refine j_astore_n C dL_goes_6 (by decide) rfl ?_
      refine j_sipush C (v := (-1001)) dL_goes_7 rfl ?_
      exact q_iretS C CM rfl (Nat.le_of_ble_eq_true rfl) (Nat.le_of_ble_eq_true rfl) dL_goes_10 (wI_s hj (by decide)) hC1
    · cases hE
      refine j_catch C CM [⟨0, 5, 6, 13⟩] ⟨0, 5, 11, 21⟩ [⟨0, 5, 16, 26⟩] rfl (List.forall_mem_cons.mpr ⟨Or.inr ⟨by decide, "java/lang/IndexOutOfBoundsException", lc_L_13, by decide +kernel⟩, fun z hz => absurd hz List.not_mem_nil⟩) rfl (by decide) lc_L_21 (by decide +kernel) (fun q => ?_)
      show Q G X _ _ 11 _ _ _
      refine j_astore_n C dL_goes_11 (by decide) rfl ?_
      refine j_sipush C (v := (-1002)) dL_goes_12 rfl ?_
      exact q_iretS C CM rfl (Nat.le_of_ble_eq_true rfl) (Nat.le_of_ble_eq_true rfl) dL_goes_15 (wI_s hj (by decide)) hC1
    · cases hE
      refine j_catch C CM [⟨0, 5, 6, 13⟩, ⟨0, 5, 11, 21⟩] ⟨0, 5, 16, 26⟩ [] rfl (List.forall_mem_cons.mpr ⟨Or.inr ⟨by decide, "java/lang/IndexOutOfBoundsException", lc_L_13, by decide +kernel⟩, List.forall_mem_cons.mpr ⟨Or.inr ⟨by decide, "java/util/NoSuchElementException", lc_L_21, by decide +kernel⟩, fun z hz => absurd hz List.not_mem_nil⟩⟩) rfl (by decide) lc_L_26 (by decide +kernel) (fun q => ?_)
      show Q G X _ _ 16 _ _ _
      refine j_astore_n C dL_goes_16 (by decide) rfl ?_
      refine j_sipush C (v := (-1003)) dL_goes_17 rfl ?_
      exact q_iretS C CM rfl (Nat.le_of_ble_eq_true rfl) (Nat.le_of_ble_eq_true rfl) dL_goes_20 (wI_s hj (by decide)) hC1
    · cases hE
set_option maxHeartbeats 4000000 in
set_option maxRecDepth 100000 in
theorem sp_L_resets (G : gG) (M : gMem) {A : gSt0} (hO : gOk A) (hC : gRC A M) (x : Int32) : SpS G mL_resets (gRm 7 4) [.ref (gb G + 0), .int x] M (some (.int (wI (oReset A x)))) (gRC (oReset A x).2.2) := by
  refine Sp.of (by decide +kernel) (Nat.le_of_ble_eq_true rfl) (fun X C CM => ?_)
  have C : gC G X RL cL_resets 3 (gRm 7 4) := C
  refine j_aload_n C dL_resets_0 rfl ?_
  refine j_iload_n C dL_resets_1 rfl ?_
  refine j_callV C (sp_X6_reset G M hO.1 hO.2 hC x) vX6_reset.1 vX6_reset.2.1 vX6_reset.2.2.1 vX6_reset.2.2.2.1 lk_L_41 (mk6 G M (o := 0) rfl) (by decide) vX6_reset.2.2.2.2 rfl rfl (Nat.le_of_ble_eq_true rfl) ⟨⟨(Nat.le_of_ble_eq_true rfl), (Nat.le_of_ble_eq_true rfl)⟩, (Nat.le_of_ble_eq_true rfl), (Nat.le_of_ble_eq_true rfl)⟩ dL_resets_2 (fun v N1 σ1 h => ?_) (fun E N1 σ1 h => ?_)
  · obtain ⟨rfl, M1, hp, rfl⟩ := h
    obtain ⟨e0, rfl, hC1, -⟩ := post_in hp
    exact q_iretS C CM rfl (Nat.le_of_ble_eq_true rfl) (Nat.le_of_ble_eq_true rfl) dL_resets_5 (wI_0 e0) hC1
  · obtain ⟨rfl, M1, hp, rfl⟩ := h
    obtain ⟨j, hj, hE, hC1, -⟩ := post_ex hp
    rcases j with _ | j
    · cases hE
      refine j_catch C CM [] ⟨0, 5, 6, 13⟩ [] rfl (fun z hz => absurd hz List.not_mem_nil) rfl (by decide) lc_L_13 (by decide +kernel) (fun q => ?_)
      show Q G X _ _ 6 _ _ _
      refine j_astore_n C dL_resets_6 (by decide) rfl ?_
      refine j_sipush C (v := (-1001)) dL_resets_7 rfl ?_
      exact q_iretS C CM rfl (Nat.le_of_ble_eq_true rfl) (Nat.le_of_ble_eq_true rfl) dL_resets_10 (wI_s hj (by decide)) hC1
    · cases hE
set_option maxHeartbeats 4000000 in
set_option maxRecDepth 100000 in
theorem sp_L_merges (G : gG) (M : gMem) {A : gSt0} (hO : gOk A) (hC : gRC A M) (x : Int32) : SpS G mL_merges (gRm 7 4) [.ref (gb G + 0), .int x] M (some (.int (wI (oMerge A x)))) (gRC (oMerge A x).2.2) := by
  refine Sp.of (by decide +kernel) (Nat.le_of_ble_eq_true rfl) (fun X C CM => ?_)
  have C : gC G X RL cL_merges 3 (gRm 7 4) := C
  refine j_aload_n C dL_merges_0 rfl ?_
  refine j_iload_n C dL_merges_1 rfl ?_
  refine j_callV C (sp_X6_merge G M hO.1 hO.2 hC x) vX6_merge.1 vX6_merge.2.1 vX6_merge.2.2.1 vX6_merge.2.2.2.1 lk_L_44 (mk6 G M (o := 0) rfl) (by decide) vX6_merge.2.2.2.2 rfl rfl (Nat.le_of_ble_eq_true rfl) ⟨⟨(Nat.le_of_ble_eq_true rfl), (Nat.le_of_ble_eq_true rfl)⟩, (Nat.le_of_ble_eq_true rfl), (Nat.le_of_ble_eq_true rfl)⟩ dL_merges_2 (fun v N1 σ1 h => ?_) (fun E N1 σ1 h => ?_)
  · obtain ⟨rfl, M1, hp, rfl⟩ := h
    obtain ⟨e0, rfl, hC1, -⟩ := post_in hp
    exact q_iretS C CM rfl (Nat.le_of_ble_eq_true rfl) (Nat.le_of_ble_eq_true rfl) dL_merges_5 (wI_0 e0) hC1
  · obtain ⟨rfl, M1, hp, rfl⟩ := h
    obtain ⟨j, hj, hE, hC1, -⟩ := post_ex hp
    rcases j with _ | _ | _ | _ | j
    · cases hE
      refine j_catch C CM [] ⟨0, 5, 6, 13⟩ [⟨0, 5, 11, 21⟩, ⟨0, 5, 16, 26⟩, ⟨0, 5, 21, 47⟩] rfl (fun z hz => absurd hz List.not_mem_nil) rfl (by decide) lc_L_13 (by decide +kernel) (fun q => ?_)
      show Q G X _ _ 6 _ _ _
      refine j_astore_n C dL_merges_6 (by decide) rfl ?_
      refine j_sipush C (v := (-1001)) dL_merges_7 rfl ?_
      exact q_iretS C CM rfl (Nat.le_of_ble_eq_true rfl) (Nat.le_of_ble_eq_true rfl) dL_merges_10 (wI_s hj (by decide)) hC1
    · cases hE
      refine j_catch C CM [⟨0, 5, 6, 13⟩] ⟨0, 5, 11, 21⟩ [⟨0, 5, 16, 26⟩, ⟨0, 5, 21, 47⟩] rfl (List.forall_mem_cons.mpr ⟨Or.inr ⟨by decide, "java/lang/IndexOutOfBoundsException", lc_L_13, by decide +kernel⟩, fun z hz => absurd hz List.not_mem_nil⟩) rfl (by decide) lc_L_21 (by decide +kernel) (fun q => ?_)
      show Q G X _ _ 11 _ _ _
      refine j_astore_n C dL_merges_11 (by decide) rfl ?_
      refine j_sipush C (v := (-1002)) dL_merges_12 rfl ?_
      exact q_iretS C CM rfl (Nat.le_of_ble_eq_true rfl) (Nat.le_of_ble_eq_true rfl) dL_merges_15 (wI_s hj (by decide)) hC1
    · cases hE
      refine j_catch C CM [⟨0, 5, 6, 13⟩, ⟨0, 5, 11, 21⟩] ⟨0, 5, 16, 26⟩ [⟨0, 5, 21, 47⟩] rfl (List.forall_mem_cons.mpr ⟨Or.inr ⟨by decide, "java/lang/IndexOutOfBoundsException", lc_L_13, by decide +kernel⟩, List.forall_mem_cons.mpr ⟨Or.inr ⟨by decide, "java/util/NoSuchElementException", lc_L_21, by decide +kernel⟩, fun z hz => absurd hz List.not_mem_nil⟩⟩) rfl (by decide) lc_L_26 (by decide +kernel) (fun q => ?_)
      show Q G X _ _ 16 _ _ _
      refine j_astore_n C dL_merges_16 (by decide) rfl ?_
      refine j_sipush C (v := (-1003)) dL_merges_17 rfl ?_
      exact q_iretS C CM rfl (Nat.le_of_ble_eq_true rfl) (Nat.le_of_ble_eq_true rfl) dL_merges_20 (wI_s hj (by decide)) hC1
    · cases hE
      refine j_catch C CM [⟨0, 5, 6, 13⟩, ⟨0, 5, 11, 21⟩, ⟨0, 5, 16, 26⟩] ⟨0, 5, 21, 47⟩ [] rfl (List.forall_mem_cons.mpr ⟨Or.inr ⟨by decide, "java/lang/IndexOutOfBoundsException", lc_L_13, by decide +kernel⟩, List.forall_mem_cons.mpr ⟨Or.inr ⟨by decide, "java/util/NoSuchElementException", lc_L_21, by decide +kernel⟩, List.forall_mem_cons.mpr ⟨Or.inr ⟨by decide, "java/lang/IllegalStateException", lc_L_26, by decide +kernel⟩, fun z hz => absurd hz List.not_mem_nil⟩⟩⟩) rfl (by decide) lc_L_47 (by decide +kernel) (fun q => ?_)
      show Q G X _ _ 21 _ _ _
      refine j_astore_n C dL_merges_21 (by decide) rfl ?_
      refine j_sipush C (v := (-1004)) dL_merges_22 rfl ?_
      exact q_iretS C CM rfl (Nat.le_of_ble_eq_true rfl) (Nat.le_of_ble_eq_true rfl) dL_merges_25 (wI_s hj (by decide)) hC1
    · cases hE
set_option maxHeartbeats 4000000 in
set_option maxRecDepth 100000 in
theorem sp_L_puts (G : gG) (M : gMem) {A : gSt0} (hO : gOk A) (hC : gRC A M) (x : Int32) : SpS G mL_puts (gRm 7 4) [.ref (gb G + 0), .int x] M (some (.int (wI (oPutOnto A x)))) (gRC (oPutOnto A x).2.2) := by
  refine Sp.of (by decide +kernel) (Nat.le_of_ble_eq_true rfl) (fun X C CM => ?_)
  have C : gC G X RL cL_puts 3 (gRm 7 4) := C
  refine j_aload_n C dL_puts_0 rfl ?_
  refine j_iload_n C dL_puts_1 rfl ?_
  refine j_callV C (sp_X6_putOnto G M hO.1 hO.2 hC x) vX6_putOnto.1 vX6_putOnto.2.1 vX6_putOnto.2.2.1 vX6_putOnto.2.2.2.1 lk_L_49 (mk6 G M (o := 0) rfl) (by decide) vX6_putOnto.2.2.2.2 rfl rfl (Nat.le_of_ble_eq_true rfl) ⟨⟨(Nat.le_of_ble_eq_true rfl), (Nat.le_of_ble_eq_true rfl)⟩, (Nat.le_of_ble_eq_true rfl), (Nat.le_of_ble_eq_true rfl)⟩ dL_puts_2 (fun v N1 σ1 h => ?_) (fun E N1 σ1 h => ?_)
  · obtain ⟨rfl, M1, hp, rfl⟩ := h
    obtain ⟨e0, rfl, hC1, -⟩ := post_in hp
    exact q_iretS C CM rfl (Nat.le_of_ble_eq_true rfl) (Nat.le_of_ble_eq_true rfl) dL_puts_5 (wI_0 e0) hC1
  · obtain ⟨rfl, M1, hp, rfl⟩ := h
    obtain ⟨j, hj, hE, hC1, -⟩ := post_ex hp
    rcases j with _ | _ | _ | _ | j
    · cases hE
      refine j_catch C CM [] ⟨0, 5, 6, 13⟩ [⟨0, 5, 11, 21⟩, ⟨0, 5, 16, 26⟩, ⟨0, 5, 21, 47⟩] rfl (fun z hz => absurd hz List.not_mem_nil) rfl (by decide) lc_L_13 (by decide +kernel) (fun q => ?_)
      show Q G X _ _ 6 _ _ _
      refine j_astore_n C dL_puts_6 (by decide) rfl ?_
      refine j_sipush C (v := (-1001)) dL_puts_7 rfl ?_
      exact q_iretS C CM rfl (Nat.le_of_ble_eq_true rfl) (Nat.le_of_ble_eq_true rfl) dL_puts_10 (wI_s hj (by decide)) hC1
    · cases hE
      refine j_catch C CM [⟨0, 5, 6, 13⟩] ⟨0, 5, 11, 21⟩ [⟨0, 5, 16, 26⟩, ⟨0, 5, 21, 47⟩] rfl (List.forall_mem_cons.mpr ⟨Or.inr ⟨by decide, "java/lang/IndexOutOfBoundsException", lc_L_13, by decide +kernel⟩, fun z hz => absurd hz List.not_mem_nil⟩) rfl (by decide) lc_L_21 (by decide +kernel) (fun q => ?_)
      show Q G X _ _ 11 _ _ _
      refine j_astore_n C dL_puts_11 (by decide) rfl ?_
      refine j_sipush C (v := (-1002)) dL_puts_12 rfl ?_
      exact q_iretS C CM rfl (Nat.le_of_ble_eq_true rfl) (Nat.le_of_ble_eq_true rfl) dL_puts_15 (wI_s hj (by decide)) hC1
    · cases hE
      refine j_catch C CM [⟨0, 5, 6, 13⟩, ⟨0, 5, 11, 21⟩] ⟨0, 5, 16, 26⟩ [⟨0, 5, 21, 47⟩] rfl (List.forall_mem_cons.mpr ⟨Or.inr ⟨by decide, "java/lang/IndexOutOfBoundsException", lc_L_13, by decide +kernel⟩, List.forall_mem_cons.mpr ⟨Or.inr ⟨by decide, "java/util/NoSuchElementException", lc_L_21, by decide +kernel⟩, fun z hz => absurd hz List.not_mem_nil⟩⟩) rfl (by decide) lc_L_26 (by decide +kernel) (fun q => ?_)
      show Q G X _ _ 16 _ _ _
      refine j_astore_n C dL_puts_16 (by decide) rfl ?_
      refine j_sipush C (v := (-1003)) dL_puts_17 rfl ?_
      exact q_iretS C CM rfl (Nat.le_of_ble_eq_true rfl) (Nat.le_of_ble_eq_true rfl) dL_puts_20 (wI_s hj (by decide)) hC1
    · cases hE
      refine j_catch C CM [⟨0, 5, 6, 13⟩, ⟨0, 5, 11, 21⟩, ⟨0, 5, 16, 26⟩] ⟨0, 5, 21, 47⟩ [] rfl (List.forall_mem_cons.mpr ⟨Or.inr ⟨by decide, "java/lang/IndexOutOfBoundsException", lc_L_13, by decide +kernel⟩, List.forall_mem_cons.mpr ⟨Or.inr ⟨by decide, "java/util/NoSuchElementException", lc_L_21, by decide +kernel⟩, List.forall_mem_cons.mpr ⟨Or.inr ⟨by decide, "java/lang/IllegalStateException", lc_L_26, by decide +kernel⟩, fun z hz => absurd hz List.not_mem_nil⟩⟩⟩) rfl (by decide) lc_L_47 (by decide +kernel) (fun q => ?_)
      show Q G X _ _ 21 _ _ _
      refine j_astore_n C dL_puts_21 (by decide) rfl ?_
      refine j_sipush C (v := (-1004)) dL_puts_22 rfl ?_
      exact q_iretS C CM rfl (Nat.le_of_ble_eq_true rfl) (Nat.le_of_ble_eq_true rfl) dL_puts_25 (wI_s hj (by decide)) hC1
    · cases hE
set_option maxHeartbeats 4000000 in
set_option maxRecDepth 100000 in
theorem sp_L_head (G : gG) (M : gMem) {A : gSt0} (hO : gOk A) (hC : gRC A M) (x : Int32) : SpS G mL_head (gRm 7 4) [.ref (gb G + 0), .int x] M (some (.int (wI (oHead A x)))) (gRC (oHead A x).2.2) := by
  refine Sp.of (by decide +kernel) (Nat.le_of_ble_eq_true rfl) (fun X C CM => ?_)
  have C : gC G X RL cL_head 3 (gRm 7 4) := C
  refine j_aload_n C dL_head_0 rfl ?_
  refine j_iload_n C dL_head_1 rfl ?_
  refine j_callV C (sp_X6_head G M hO.1 hO.2 hC x) vX6_head.1 vX6_head.2.1 vX6_head.2.2.1 vX6_head.2.2.2.1 lk_L_52 (mk6 G M (o := 0) rfl) (by decide) vX6_head.2.2.2.2 rfl rfl (Nat.le_of_ble_eq_true rfl) ⟨⟨(Nat.le_of_ble_eq_true rfl), (Nat.le_of_ble_eq_true rfl)⟩, (Nat.le_of_ble_eq_true rfl), (Nat.le_of_ble_eq_true rfl)⟩ dL_head_2 (fun v N1 σ1 h => ?_) (fun E N1 σ1 h => ?_)
  · obtain ⟨rfl, M1, hp, rfl⟩ := h
    obtain ⟨e0, rfl, hC1, -⟩ := post_in hp
    exact q_iretS C CM rfl (Nat.le_of_ble_eq_true rfl) (Nat.le_of_ble_eq_true rfl) dL_head_5 (wI_0 e0) hC1
  · obtain ⟨rfl, M1, hp, rfl⟩ := h
    obtain ⟨j, hj, hE, hC1, -⟩ := post_ex hp
    rcases j with _ | _ | j
    · cases hE
      refine j_catch C CM [] ⟨0, 5, 6, 13⟩ [⟨0, 5, 11, 21⟩] rfl (fun z hz => absurd hz List.not_mem_nil) rfl (by decide) lc_L_13 (by decide +kernel) (fun q => ?_)
      show Q G X _ _ 6 _ _ _
      refine j_astore_n C dL_head_6 (by decide) rfl ?_
      refine j_sipush C (v := (-1001)) dL_head_7 rfl ?_
      exact q_iretS C CM rfl (Nat.le_of_ble_eq_true rfl) (Nat.le_of_ble_eq_true rfl) dL_head_10 (wI_s hj (by decide)) hC1
    · cases hE
      refine j_catch C CM [⟨0, 5, 6, 13⟩] ⟨0, 5, 11, 21⟩ [] rfl (List.forall_mem_cons.mpr ⟨Or.inr ⟨by decide, "java/lang/IndexOutOfBoundsException", lc_L_13, by decide +kernel⟩, fun z hz => absurd hz List.not_mem_nil⟩) rfl (by decide) lc_L_21 (by decide +kernel) (fun q => ?_)
      show Q G X _ _ 11 _ _ _
      refine j_astore_n C dL_head_11 (by decide) rfl ?_
      refine j_sipush C (v := (-1002)) dL_head_12 rfl ?_
      exact q_iretS C CM rfl (Nat.le_of_ble_eq_true rfl) (Nat.le_of_ble_eq_true rfl) dL_head_15 (wI_s hj (by decide)) hC1
    · cases hE
set_option maxHeartbeats 4000000 in
set_option maxRecDepth 100000 in
theorem sp_L_had (G : gG) (M : gMem) {A : gSt0} (hO : gOk A) (hC : gRC A M) (x y : Int32) : SpS G mL_had (gRm 7 4) [.ref (gb G + 0), .int x, .int y] M (some (.int (wI (oContentIn A x y)))) (gRC (oContentIn A x y).2.2) := by
  refine Sp.of (by decide +kernel) (Nat.le_of_ble_eq_true rfl) (fun X C CM => ?_)
  have C : gC G X RL cL_had 4 (gRm 7 4) := C
  refine j_aload_n C dL_had_0 rfl ?_
  refine j_iload_n C dL_had_1 rfl ?_
  refine j_iload_n C dL_had_2 rfl ?_
  refine j_callV C (sp_X6_contentIn G M hO.1 hO.2 hC x y) vX6_contentIn.1 vX6_contentIn.2.1 vX6_contentIn.2.2.1 vX6_contentIn.2.2.2.1 lk_L_55 (mk6 G M (o := 0) rfl) (by decide) vX6_contentIn.2.2.2.2 rfl rfl (Nat.le_of_ble_eq_true rfl) ⟨⟨(Nat.le_of_ble_eq_true rfl), (Nat.le_of_ble_eq_true rfl)⟩, (Nat.le_of_ble_eq_true rfl), (Nat.le_of_ble_eq_true rfl)⟩ dL_had_3 (fun v N1 σ1 h => ?_) (fun E N1 σ1 h => ?_)
  · obtain ⟨rfl, M1, hp, rfl⟩ := h
    obtain ⟨e0, rfl, hC1, -⟩ := post_in hp
    exact q_iretS C CM rfl (Nat.le_of_ble_eq_true rfl) (Nat.le_of_ble_eq_true rfl) dL_had_6 (wI_0 e0) hC1
  · obtain ⟨rfl, M1, hp, rfl⟩ := h
    obtain ⟨j, hj, hE, hC1, -⟩ := post_ex hp
    rcases j with _ | _ | j
    · cases hE
      refine j_catch C CM [] ⟨0, 6, 7, 13⟩ [⟨0, 6, 12, 21⟩] rfl (fun z hz => absurd hz List.not_mem_nil) rfl (by decide) lc_L_13 (by decide +kernel) (fun q => ?_)
      show Q G X _ _ 7 _ _ _
      refine j_astore_n C dL_had_7 (by decide) rfl ?_
      refine j_sipush C (v := (-1001)) dL_had_8 rfl ?_
      exact q_iretS C CM rfl (Nat.le_of_ble_eq_true rfl) (Nat.le_of_ble_eq_true rfl) dL_had_11 (wI_s hj (by decide)) hC1
    · cases hE
      refine j_catch C CM [⟨0, 6, 7, 13⟩] ⟨0, 6, 12, 21⟩ [] rfl (List.forall_mem_cons.mpr ⟨Or.inr ⟨by decide, "java/lang/IndexOutOfBoundsException", lc_L_13, by decide +kernel⟩, fun z hz => absurd hz List.not_mem_nil⟩) rfl (by decide) lc_L_21 (by decide +kernel) (fun q => ?_)
      show Q G X _ _ 12 _ _ _
      refine j_astore_n C dL_had_12 (by decide) rfl ?_
      refine j_sipush C (v := (-1002)) dL_had_13 rfl ?_
      exact q_iretS C CM rfl (Nat.le_of_ble_eq_true rfl) (Nat.le_of_ble_eq_true rfl) dL_had_16 (wI_s hj (by decide)) hC1
    · cases hE
set_option maxHeartbeats 4000000 in
set_option maxRecDepth 100000 in
theorem sp_L_parent (G : gG) (M : gMem) {A : gSt0} (hO : gOk A) (hC : gRC A M) (x y : Int32) : SpS G mL_parent (gRm 7 4) [.ref (gb G + 0), .int x, .int y] M (some (.int (wI (oParentOf A x y)))) (gRC (oParentOf A x y).2.2) := by
  refine Sp.of (by decide +kernel) (Nat.le_of_ble_eq_true rfl) (fun X C CM => ?_)
  have C : gC G X RL cL_parent 4 (gRm 7 4) := C
  refine j_aload_n C dL_parent_0 rfl ?_
  refine j_iload_n C dL_parent_1 rfl ?_
  refine j_iload_n C dL_parent_2 rfl ?_
  refine j_callV C (sp_X6_parentOf G M hO.1 hO.2 hC x y) vX6_parentOf.1 vX6_parentOf.2.1 vX6_parentOf.2.2.1 vX6_parentOf.2.2.2.1 lk_L_58 (mk6 G M (o := 0) rfl) (by decide) vX6_parentOf.2.2.2.2 rfl rfl (Nat.le_of_ble_eq_true rfl) ⟨⟨(Nat.le_of_ble_eq_true rfl), (Nat.le_of_ble_eq_true rfl)⟩, (Nat.le_of_ble_eq_true rfl), (Nat.le_of_ble_eq_true rfl)⟩ dL_parent_3 (fun v N1 σ1 h => ?_) (fun E N1 σ1 h => ?_)
  · obtain ⟨rfl, M1, hp, rfl⟩ := h
    obtain ⟨e0, rfl, hC1, -⟩ := post_in hp
    exact q_iretS C CM rfl (Nat.le_of_ble_eq_true rfl) (Nat.le_of_ble_eq_true rfl) dL_parent_6 (wI_0 e0) hC1
  · obtain ⟨rfl, M1, hp, rfl⟩ := h
    obtain ⟨j, hj, hE, hC1, -⟩ := post_ex hp
    rcases j with _ | _ | j
    · cases hE
      refine j_catch C CM [] ⟨0, 6, 7, 13⟩ [⟨0, 6, 12, 21⟩] rfl (fun z hz => absurd hz List.not_mem_nil) rfl (by decide) lc_L_13 (by decide +kernel) (fun q => ?_)
      show Q G X _ _ 7 _ _ _
      refine j_astore_n C dL_parent_7 (by decide) rfl ?_
      refine j_sipush C (v := (-1001)) dL_parent_8 rfl ?_
      exact q_iretS C CM rfl (Nat.le_of_ble_eq_true rfl) (Nat.le_of_ble_eq_true rfl) dL_parent_11 (wI_s hj (by decide)) hC1
    · cases hE
      refine j_catch C CM [⟨0, 6, 7, 13⟩] ⟨0, 6, 12, 21⟩ [] rfl (List.forall_mem_cons.mpr ⟨Or.inr ⟨by decide, "java/lang/IndexOutOfBoundsException", lc_L_13, by decide +kernel⟩, fun z hz => absurd hz List.not_mem_nil⟩) rfl (by decide) lc_L_21 (by decide +kernel) (fun q => ?_)
      show Q G X _ _ 12 _ _ _
      refine j_astore_n C dL_parent_12 (by decide) rfl ?_
      refine j_sipush C (v := (-1002)) dL_parent_13 rfl ?_
      exact q_iretS C CM rfl (Nat.le_of_ble_eq_true rfl) (Nat.le_of_ble_eq_true rfl) dL_parent_16 (wI_s hj (by decide)) hC1
    · cases hE
set_option maxHeartbeats 4000000 in
set_option maxRecDepth 100000 in
theorem sp_L_moved (G : gG) (M : gMem) {A : gSt0} (hO : gOk A) (hC : gRC A M) (x y z : Int32) : SpS G mL_moved (gRm 7 4) [.ref (gb G + 0), .int x, .int y, .int z] M (some (.int (wI (oMovedTo A x y z)))) (gRC (oMovedTo A x y z).2.2) := by
  refine Sp.of (by decide +kernel) (Nat.le_of_ble_eq_true rfl) (fun X C CM => ?_)
  have C : gC G X RL cL_moved 5 (gRm 7 4) := C
  refine j_aload_n C dL_moved_0 rfl ?_
  refine j_iload_n C dL_moved_1 rfl ?_
  refine j_iload_n C dL_moved_2 rfl ?_
  refine j_iload_n C dL_moved_3 rfl ?_
  refine j_callV C (sp_X6_movedTo G M hO.1 hO.2 hC x y z) vX6_movedTo.1 vX6_movedTo.2.1 vX6_movedTo.2.2.1 vX6_movedTo.2.2.2.1 lk_L_61 (mk6 G M (o := 0) rfl) (by decide) vX6_movedTo.2.2.2.2 rfl rfl (Nat.le_of_ble_eq_true rfl) ⟨⟨(Nat.le_of_ble_eq_true rfl), (Nat.le_of_ble_eq_true rfl)⟩, (Nat.le_of_ble_eq_true rfl), (Nat.le_of_ble_eq_true rfl)⟩ dL_moved_4 (fun v N1 σ1 h => ?_) (fun E N1 σ1 h => ?_)
  · obtain ⟨rfl, M1, hp, rfl⟩ := h
    obtain ⟨e0, rfl, hC1, -⟩ := post_in hp
    exact q_iretS C CM rfl (Nat.le_of_ble_eq_true rfl) (Nat.le_of_ble_eq_true rfl) dL_moved_7 (wI_0 e0) hC1
  · obtain ⟨rfl, M1, hp, rfl⟩ := h
    obtain ⟨j, hj, hE, hC1, -⟩ := post_ex hp
    rcases j with _ | _ | j
    · cases hE
      refine j_catch C CM [] ⟨0, 7, 8, 13⟩ [⟨0, 7, 14, 21⟩] rfl (fun z hz => absurd hz List.not_mem_nil) rfl (by decide) lc_L_13 (by decide +kernel) (fun q => ?_)
      show Q G X _ _ 8 _ _ _
      refine j_astore C dL_moved_8 (by decide) rfl ?_
      refine j_sipush C (v := (-1001)) dL_moved_10 rfl ?_
      exact q_iretS C CM rfl (Nat.le_of_ble_eq_true rfl) (Nat.le_of_ble_eq_true rfl) dL_moved_13 (wI_s hj (by decide)) hC1
    · cases hE
      refine j_catch C CM [⟨0, 7, 8, 13⟩] ⟨0, 7, 14, 21⟩ [] rfl (List.forall_mem_cons.mpr ⟨Or.inr ⟨by decide, "java/lang/IndexOutOfBoundsException", lc_L_13, by decide +kernel⟩, fun z hz => absurd hz List.not_mem_nil⟩) rfl (by decide) lc_L_21 (by decide +kernel) (fun q => ?_)
      show Q G X _ _ 14 _ _ _
      refine j_astore C dL_moved_14 (by decide) rfl ?_
      refine j_sipush C (v := (-1002)) dL_moved_16 rfl ?_
      exact q_iretS C CM rfl (Nat.le_of_ble_eq_true rfl) (Nat.le_of_ble_eq_true rfl) dL_moved_19 (wI_s hj (by decide)) hC1
    · cases hE
set_option maxHeartbeats 4000000 in
set_option maxRecDepth 100000 in
theorem sp_L_last (G : gG) (M : gMem) {A : gSt0} (hO : gOk A) (hC : gRC A M) (x : Int32) : SpS G mL_last (gRm 7 4) [.ref (gb G + 0), .int x] M (some (.int (wI (oLastChange A x)))) (gRC (oLastChange A x).2.2) := by
  refine Sp.of (by decide +kernel) (Nat.le_of_ble_eq_true rfl) (fun X C CM => ?_)
  have C : gC G X RL cL_last 3 (gRm 7 4) := C
  refine j_aload_n C dL_last_0 rfl ?_
  refine j_iload_n C dL_last_1 rfl ?_
  refine j_callV C (sp_X6_lastChange G M hO.1 hO.2 hC x) vX6_lastChange.1 vX6_lastChange.2.1 vX6_lastChange.2.2.1 vX6_lastChange.2.2.2.1 lk_L_65 (mk6 G M (o := 0) rfl) (by decide) vX6_lastChange.2.2.2.2 rfl rfl (Nat.le_of_ble_eq_true rfl) ⟨⟨(Nat.le_of_ble_eq_true rfl), (Nat.le_of_ble_eq_true rfl)⟩, (Nat.le_of_ble_eq_true rfl), (Nat.le_of_ble_eq_true rfl)⟩ dL_last_2 (fun v N1 σ1 h => ?_) (fun E N1 σ1 h => ?_)
  · obtain ⟨rfl, M1, hp, rfl⟩ := h
    obtain ⟨e0, rfl, hC1, -⟩ := post_in hp
    exact q_iretS C CM rfl (Nat.le_of_ble_eq_true rfl) (Nat.le_of_ble_eq_true rfl) dL_last_5 (wI_0 e0) hC1
  · obtain ⟨rfl, M1, hp, rfl⟩ := h
    obtain ⟨j, hj, hE, hC1, -⟩ := post_ex hp
    rcases j with _ | _ | j
    · cases hE
      refine j_catch C CM [] ⟨0, 5, 6, 13⟩ [⟨0, 5, 11, 21⟩] rfl (fun z hz => absurd hz List.not_mem_nil) rfl (by decide) lc_L_13 (by decide +kernel) (fun q => ?_)
      show Q G X _ _ 6 _ _ _
      refine j_astore_n C dL_last_6 (by decide) rfl ?_
      refine j_sipush C (v := (-1001)) dL_last_7 rfl ?_
      exact q_iretS C CM rfl (Nat.le_of_ble_eq_true rfl) (Nat.le_of_ble_eq_true rfl) dL_last_10 (wI_s hj (by decide)) hC1
    · cases hE
      refine j_catch C CM [⟨0, 5, 6, 13⟩] ⟨0, 5, 11, 21⟩ [] rfl (List.forall_mem_cons.mpr ⟨Or.inr ⟨by decide, "java/lang/IndexOutOfBoundsException", lc_L_13, by decide +kernel⟩, fun z hz => absurd hz List.not_mem_nil⟩) rfl (by decide) lc_L_21 (by decide +kernel) (fun q => ?_)
      show Q G X _ _ 11 _ _ _
      refine j_astore_n C dL_last_11 (by decide) rfl ?_
      refine j_sipush C (v := (-1002)) dL_last_12 rfl ?_
      exact q_iretS C CM rfl (Nat.le_of_ble_eq_true rfl) (Nat.le_of_ble_eq_true rfl) dL_last_15 (wI_s hj (by decide)) hC1
    · cases hE
set_option maxHeartbeats 4000000 in
set_option maxRecDepth 100000 in
theorem sp_L_depth (G : gG) (M : gMem) {A : gSt0} (hO : gOk A) (hC : gRC A M) (x : Int32) : SpS G mL_depth (gRm 7 4) [.ref (gb G + 0), .int x] M (some (.int (wI (oDepthOf A x)))) (gRC (oDepthOf A x).2.2) := by
  refine Sp.of (by decide +kernel) (Nat.le_of_ble_eq_true rfl) (fun X C CM => ?_)
  have C : gC G X RL cL_depth 3 (gRm 7 4) := C
  refine j_aload_n C dL_depth_0 rfl ?_
  refine j_iload_n C dL_depth_1 rfl ?_
  refine j_callV C (sp_X6_depthOf G M hO.1 hO.2 hC x) vX6_depthOf.1 vX6_depthOf.2.1 vX6_depthOf.2.2.1 vX6_depthOf.2.2.2.1 lk_L_68 (mk6 G M (o := 0) rfl) (by decide) vX6_depthOf.2.2.2.2 rfl rfl (Nat.le_of_ble_eq_true rfl) ⟨⟨(Nat.le_of_ble_eq_true rfl), (Nat.le_of_ble_eq_true rfl)⟩, (Nat.le_of_ble_eq_true rfl), (Nat.le_of_ble_eq_true rfl)⟩ dL_depth_2 (fun v N1 σ1 h => ?_) (fun E N1 σ1 h => ?_)
  · obtain ⟨rfl, M1, hp, rfl⟩ := h
    obtain ⟨e0, rfl, hC1, -⟩ := post_in hp
    exact q_iretS C CM rfl (Nat.le_of_ble_eq_true rfl) (Nat.le_of_ble_eq_true rfl) dL_depth_5 (wI_0 e0) hC1
  · obtain ⟨rfl, M1, hp, rfl⟩ := h
    obtain ⟨j, hj, hE, hC1, -⟩ := post_ex hp
    rcases j with _ | j
    · cases hE
      refine j_catch C CM [] ⟨0, 5, 6, 21⟩ [] rfl (fun z hz => absurd hz List.not_mem_nil) rfl (by decide) lc_L_21 (by decide +kernel) (fun q => ?_)
      show Q G X _ _ 6 _ _ _
      refine j_astore_n C dL_depth_6 (by decide) rfl ?_
      refine j_sipush C (v := (-1001)) dL_depth_7 rfl ?_
      exact q_iretS C CM rfl (Nat.le_of_ble_eq_true rfl) (Nat.le_of_ble_eq_true rfl) dL_depth_10 (wI_s hj (by decide)) hC1
    · cases hE
set_option maxHeartbeats 4000000 in
set_option maxRecDepth 100000 in
theorem sp_L_from (G : gG) (M : gMem) {A : gSt0} (hO : gOk A) (hC : gRC A M) (x : Int32) : SpS G mL_from (gRm 7 4) [.ref (gb G + 0), .int x] M (some (.int (wI (oPackedFrom A x)))) (gRC (oPackedFrom A x).2.2) := by
  refine Sp.of (by decide +kernel) (Nat.le_of_ble_eq_true rfl) (fun X C CM => ?_)
  have C : gC G X RL cL_from 3 (gRm 7 4) := C
  refine j_aload_n C dL_from_0 rfl ?_
  refine j_iload_n C dL_from_1 rfl ?_
  refine j_callV C (sp_X6_packedFrom G M hO.1 hO.2 hC x) vX6_packedFrom.1 vX6_packedFrom.2.1 vX6_packedFrom.2.2.1 vX6_packedFrom.2.2.2.1 lk_L_71 (mk6 G M (o := 0) rfl) (by decide) vX6_packedFrom.2.2.2.2 rfl rfl (Nat.le_of_ble_eq_true rfl) ⟨⟨(Nat.le_of_ble_eq_true rfl), (Nat.le_of_ble_eq_true rfl)⟩, (Nat.le_of_ble_eq_true rfl), (Nat.le_of_ble_eq_true rfl)⟩ dL_from_2 (fun v N1 σ1 h => ?_) (fun E N1 σ1 h => ?_)
  · obtain ⟨rfl, M1, hp, rfl⟩ := h
    obtain ⟨e0, rfl, hC1, -⟩ := post_in hp
    exact q_iretS C CM rfl (Nat.le_of_ble_eq_true rfl) (Nat.le_of_ble_eq_true rfl) dL_from_5 (wI_0 e0) hC1
  · obtain ⟨rfl, M1, hp, rfl⟩ := h
    obtain ⟨j, hj, hE, hC1, -⟩ := post_ex hp
    rcases j with _ | j
    · cases hE
      refine j_catch C CM [] ⟨0, 5, 6, 21⟩ [] rfl (fun z hz => absurd hz List.not_mem_nil) rfl (by decide) lc_L_21 (by decide +kernel) (fun q => ?_)
      show Q G X _ _ 6 _ _ _
      refine j_astore_n C dL_from_6 (by decide) rfl ?_
      refine j_sipush C (v := (-1001)) dL_from_7 rfl ?_
      exact q_iretS C CM rfl (Nat.le_of_ble_eq_true rfl) (Nat.le_of_ble_eq_true rfl) dL_from_10 (wI_s hj (by decide)) hC1
    · cases hE
