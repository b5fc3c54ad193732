/-! the law's own wrappers: the code of what was thrown, the answer in the row at 237 (of packShare at 238) -/
theorem post_in {L : List String} {o : gRes} {M M' : gMem} {v : Option Value} (h : gPost L o M (.inl v) M') : o.1 = 0 ∧ v = some (.int o.2.1) ∧ gRC o.2.2 M' ∧ gCls M M' := by
  obtain ⟨h1, h2, h3⟩ := h
  rcases h1 with ⟨h4, h5⟩ | ⟨E, _, _, h5⟩
  · exact ⟨h4, Sum.inl.inj h5, h2, h3⟩
  · cases h5
theorem post_ex {L : List String} {o : gRes} {M M' : gMem} {E : String} (h : gPost L o M (.inr E) M') : ∃ j, o.1 = j + 1 ∧ L[j]? = some E ∧ gRC o.2.2 M' ∧ gCls M M' := by
  obtain ⟨h1, h2, h3⟩ := h
  rcases h1 with ⟨_, h5⟩ | ⟨E', h4, h6, h5⟩
  · cases h5
  · cases h5
    exact ⟨o.1 - 1, by omega, h6, h2, h3⟩
/-- of the model's part nothing differs -/
def gCl0 (M M' : gMem) : Prop := (∀ o j, 155 < o → M'.2.2.1 o j = M.2.2.1 o j) ∧ ∀ o, 155 < o → M'.1 o = M.1 o
theorem cl0_of {M M' : gMem} (h : gCls M M') : gCl0 M M' := ⟨h.2.2.1, h.2.2.2⟩
theorem rm_cl0 {A : gSt0} {M M' : gMem} (h : gRM A M) (k : gCl0 M M') : gRM A M' := by
  refine ⟨⟨by rw [k.1 _ _ (by decide)]; exact h.1.1, fun c hc => ?_, fun c hc p hp => ?_⟩, ⟨fun b hb => ?_, by rw [k.1 _ _ (by decide)]; exact h.2.1.2.1, fun p hp => ?_⟩, by rw [k.2 236 (by decide)]; exact h.2.2⟩
  · rw [k.2 218 (by decide), k.2 219 (by decide)]; exact h.1.2.1 c hc
  · rw [k.2 _ (by omega)]; exact h.1.2.2 c hc p hp
  · rw [k.2 220 (by decide)]; exact h.2.1.1 b hb
  · rw [k.2 221 (by decide)]; exact h.2.1.2.2 p hp
theorem rc_out {A : gSt0} {M : gMem} {f : Nat → Int64} (h : gRC A M) : gRC A (sL M 237 f) := h
theorem rc_outD {A : gSt0} {M : gMem} {f : Nat → UInt64} (h : gRC A M) : gRC A (sD M f) := h
theorem cl0_out {M M' : gMem} {f : Nat → Int64} (h : gCls M M') : gCl0 M (sL M' 237 f) := ⟨h.2.2.1, h.2.2.2⟩
theorem cl0_outD {M M' : gMem} {f : Nat → UInt64} (h : gCls M M') : gCl0 M (sD M' f) := ⟨h.2.2.1, h.2.2.2⟩
def gOu (o : gRes) (M M' : gMem) : Prop := gRC o.2.2 M' ∧ gCl0 M M' ∧ (o.1 = 0 → M'.2.1 237 0 = o.2.1.toInt64) ∧ o.1 < 100
theorem ou_in {o : gRes} {M M1 : gMem} {f : Nat → Int64} {x : Int64} (h : gRC o.2.2 M1) (hs : gCls M M1) (hx : x = o.2.1.toInt64) (h0 : o.1 = 0) : gOu o M (sL M1 237 (vp_updL f 0 x)) := ⟨rc_out h, cl0_out hs, fun _ => hx, by omega⟩
theorem ou_ex {o : gRes} {M M1 : gMem} {j : Nat} (h : gRC o.2.2 M1) (hs : gCls M M1) (hj : o.1 = j + 1) (hj2 : j < 50) : gOu o M M1 := ⟨h, cl0_of hs, fun h0 => by omega, by omega⟩
theorem q_dast {G : gG} {X : gX} {own : String} {cc : ByteArray} {nL : Nat} {R : Room} {k n pc : Nat} {lv : List (Option Value)} {st : List Value} {M : gMem} (C : gC G X own cc nL R) {x : UInt64} (d : decode cc pc = .ok (.dastore, 1)) (kk : Q G X k n (pc + 1) lv st (sD M (vf_upd M.2.2.2.2 0 x))) : Q G X k n pc lv (.double x :: .int (nI 0) :: .ref (gb G + 238) :: st) M :=
  j_dast C (mk3 G M (o := 238) (m := 1) rfl) (by decide) (vp_in_nI (by decide) (by decide)) d (by rw [nI_clamp (by decide), up3 G M]; exact kk)
set_option maxHeartbeats 4000000 in
set_option maxRecDepth 100000 in
theorem sp_L_write (G : gG) (M : gMem) {A : gSt0} (hA : gAi A) (hB : gAb A) (hC : gRC A M) (x y : Int32) : SpS G mL_write (gRm 7 4) [.ref (gb G + 0), .int x, .int y, .ref (gb G + 237)] M (some (.int (nI (oWrite A x y).1))) (gOu (oWrite A x y) M) := by
  refine Sp.of (by decide +kernel) (Nat.le_of_ble_eq_true rfl) (fun X C CM => ?_)
  have C : gC G X RL cL_write 5 (gRm 7 4) := C
  refine j_aload_n C dL_write_0 rfl ?_
  refine j_iconst C (v := nI 0) dL_write_1 rfl ?_
  refine j_aload_n C dL_write_2 rfl ?_
  refine j_iload_n C dL_write_3 rfl ?_
  refine j_iload_n C dL_write_4 rfl ?_
  refine j_callV C (sp_X6_write G M hA hB hC x y) vX6_write.1 vX6_write.2.1 vX6_write.2.2.1 vX6_write.2.2.2.1 lk_L_7 (mk6 G M (o := 0) rfl) (by decide) vX6_write.2.2.2.2 rfl rfl (Nat.le_of_ble_eq_true rfl) ⟨⟨(Nat.le_of_ble_eq_true rfl), (Nat.le_of_ble_eq_true rfl)⟩, (Nat.le_of_ble_eq_true rfl), (Nat.le_of_ble_eq_true rfl)⟩ dL_write_5 (fun v N1 σ1 h => ?_) (fun E N1 σ1 h => ?_)
  · obtain ⟨rfl, M1, hp, rfl⟩ := h
    obtain ⟨e0, rfl, hC1, hs1⟩ := post_in hp
    show Q G X _ _ _ _ (.int (oWrite A x y).2.1 :: _) _
    refine j_i2l C dL_write_8 ?_
    refine q_last C rfl (by decide) (by decide) (by decide) dL_write_9 ?_
    refine j_goto C 21 dL_write_10 ?_ (by decide)
    refine j_iconst C (v := nI 0) dL_write_21 rfl ?_
    exact q_iretS C CM rfl (Nat.le_of_ble_eq_true rfl) (Nat.le_of_ble_eq_true rfl) dL_write_22 (by rw [e0]) (ou_in hC1 hs1 rfl e0)
  · obtain ⟨rfl, M1, hp, rfl⟩ := h
    obtain ⟨j, hj, hE, hC1, hs1⟩ := post_ex hp
    rcases j with _ | _ | j
    · cases hE
      refine j_catch C CM [] ⟨0, 10, 13, 13⟩ [⟨0, 10, 17, 15⟩] rfl (fun z hz => absurd hz List.not_mem_nil) rfl (by decide) lc_L_13 (by decide +kernel) (fun q => ?_)
      show Q G X _ _ 13 _ _ _
      refine j_astore C dL_write_13 (by decide) rfl ?_
      refine j_iconst C (v := nI 1) dL_write_15 rfl ?_
      exact q_iretS C CM rfl (Nat.le_of_ble_eq_true rfl) (Nat.le_of_ble_eq_true rfl) dL_write_16 (by rw [hj]) (ou_ex hC1 hs1 hj (by decide))
    · cases hE
      refine j_catch C CM [⟨0, 10, 13, 13⟩] ⟨0, 10, 17, 15⟩ [] rfl (List.forall_mem_cons.mpr ⟨Or.inr ⟨by decide, "java/lang/IndexOutOfBoundsException", lc_L_13, by decide +kernel⟩, fun z hz => absurd hz List.not_mem_nil⟩) rfl (by decide) lc_L_15 (by decide +kernel) (fun q => ?_)
      show Q G X _ _ 17 _ _ _
      refine j_astore C dL_write_17 (by decide) rfl ?_
      refine j_iconst C (v := nI 2) dL_write_19 rfl ?_
      exact q_iretS C CM rfl (Nat.le_of_ble_eq_true rfl) (Nat.le_of_ble_eq_true rfl) dL_write_20 (by rw [hj]) (ou_ex hC1 hs1 hj (by decide))
    · cases hE
set_option maxHeartbeats 4000000 in
set_option maxRecDepth 100000 in
theorem sp_L_erase (G : gG) (M : gMem) {A : gSt0} (hA : gAi A) (hB : gAb A) (hC : gRC A M) (x : Int32) : SpS G mL_erase (gRm 7 4) [.ref (gb G + 0), .int x, .ref (gb G + 237)] M (some (.int (nI (oErase A x).1))) (gOu (oErase A x) M) := by
  refine Sp.of (by decide +kernel) (Nat.le_of_ble_eq_true rfl) (fun X C CM => ?_)
  have C : gC G X RL cL_erase 4 (gRm 7 4) := C
  refine j_aload_n C dL_erase_0 rfl ?_
  refine j_iconst C (v := nI 0) dL_erase_1 rfl ?_
  refine j_aload_n C dL_erase_2 rfl ?_
  refine j_iload_n C dL_erase_3 rfl ?_
  refine j_callV C (sp_X6_erase G M hA hB hC x) vX6_erase.1 vX6_erase.2.1 vX6_erase.2.2.1 vX6_erase.2.2.2.1 lk_L_17 (mk6 G M (o := 0) rfl) (by decide) vX6_erase.2.2.2.2 rfl rfl (Nat.le_of_ble_eq_true rfl) ⟨⟨(Nat.le_of_ble_eq_true rfl), (Nat.le_of_ble_eq_true rfl)⟩, (Nat.le_of_ble_eq_true rfl), (Nat.le_of_ble_eq_true rfl)⟩ dL_erase_4 (fun v N1 σ1 h => ?_) (fun E N1 σ1 h => ?_)
  · obtain ⟨rfl, M1, hp, rfl⟩ := h
    obtain ⟨e0, rfl, hC1, hs1⟩ := post_in hp
    show Q G X _ _ _ _ (.int (oErase A x).2.1 :: _) _
    refine j_i2l C dL_erase_7 ?_
    refine q_last C rfl (by decide) (by decide) (by decide) dL_erase_8 ?_
    refine j_goto C 18 dL_erase_9 ?_ (by decide)
    refine j_iconst C (v := nI 0) dL_erase_18 rfl ?_
    exact q_iretS C CM rfl (Nat.le_of_ble_eq_true rfl) (Nat.le_of_ble_eq_true rfl) dL_erase_19 (by rw [e0]) (ou_in hC1 hs1 rfl e0)
  · obtain ⟨rfl, M1, hp, rfl⟩ := h
    obtain ⟨j, hj, hE, hC1, hs1⟩ := post_ex hp
    rcases j with _ | _ | j
    · cases hE
      refine j_catch C CM [] ⟨0, 9, 12, 13⟩ [⟨0, 9, 15, 21⟩] rfl (fun z hz => absurd hz List.not_mem_nil) rfl (by decide) lc_L_13 (by decide +kernel) (fun q => ?_)
      show Q G X _ _ 12 _ _ _
      refine j_astore_n C dL_erase_12 (by decide) rfl ?_
      refine j_iconst C (v := nI 1) dL_erase_13 rfl ?_
      exact q_iretS C CM rfl (Nat.le_of_ble_eq_true rfl) (Nat.le_of_ble_eq_true rfl) dL_erase_14 (by rw [hj]) (ou_ex hC1 hs1 hj (by decide))
    · cases hE
      refine j_catch C CM [⟨0, 9, 12, 13⟩] ⟨0, 9, 15, 21⟩ [] rfl (List.forall_mem_cons.mpr ⟨Or.inr ⟨by decide, "java/lang/IndexOutOfBoundsException", lc_L_13, by decide +kernel⟩, fun z hz => absurd hz List.not_mem_nil⟩) rfl (by decide) lc_L_21 (by decide +kernel) (fun q => ?_)
      show Q G X _ _ 15 _ _ _
      refine j_astore_n C dL_erase_15 (by decide) rfl ?_
      refine j_iconst C (v := nI 2) dL_erase_16 rfl ?_
      exact q_iretS C CM rfl (Nat.le_of_ble_eq_true rfl) (Nat.le_of_ble_eq_true rfl) dL_erase_17 (by rw [hj]) (ou_ex hC1 hs1 hj (by decide))
    · cases hE
set_option maxHeartbeats 4000000 in
set_option maxRecDepth 100000 in
theorem sp_L_move (G : gG) (M : gMem) {A : gSt0} (hA : gAi A) (hB : gAb A) (hC : gRC A M) (x y : Int32) : SpS G mL_move (gRm 7 4) [.ref (gb G + 0), .int x, .int y, .ref (gb G + 237)] M (some (.int (nI (oMove A x y).1))) (gOu (oMove A x y) M) := by
  refine Sp.of (by decide +kernel) (Nat.le_of_ble_eq_true rfl) (fun X C CM => ?_)
  have C : gC G X RL cL_move 5 (gRm 7 4) := C
  refine j_aload_n C dL_move_0 rfl ?_
  refine j_iconst C (v := nI 0) dL_move_1 rfl ?_
  refine j_aload_n C dL_move_2 rfl ?_
  refine j_iload_n C dL_move_3 rfl ?_
  refine j_iload_n C dL_move_4 rfl ?_
  refine j_callV C (sp_X6_move G M hA hB hC x y) vX6_move.1 vX6_move.2.1 vX6_move.2.2.1 vX6_move.2.2.2.1 lk_L_23 (mk6 G M (o := 0) rfl) (by decide) vX6_move.2.2.2.2 rfl rfl (Nat.le_of_ble_eq_true rfl) ⟨⟨(Nat.le_of_ble_eq_true rfl), (Nat.le_of_ble_eq_true rfl)⟩, (Nat.le_of_ble_eq_true rfl), (Nat.le_of_ble_eq_true rfl)⟩ dL_move_5 (fun v N1 σ1 h => ?_) (fun E N1 σ1 h => ?_)
  · obtain ⟨rfl, M1, hp, rfl⟩ := h
    obtain ⟨e0, rfl, hC1, hs1⟩ := post_in hp
    show Q G X _ _ _ _ (.int (oMove A x y).2.1 :: _) _
    refine j_i2l C dL_move_8 ?_
    refine q_last C rfl (by decide) (by decide) (by decide) dL_move_9 ?_
    refine j_goto C 25 dL_move_10 ?_ (by decide)
    refine j_iconst C (v := nI 0) dL_move_25 rfl ?_
    exact q_iretS C CM rfl (Nat.le_of_ble_eq_true rfl) (Nat.le_of_ble_eq_true rfl) dL_move_26 (by rw [e0]) (ou_in hC1 hs1 rfl e0)
  · obtain ⟨rfl, M1, hp, rfl⟩ := h
    obtain ⟨j, hj, hE, hC1, hs1⟩ := post_ex hp
    rcases j with _ | _ | _ | j
    · cases hE
      refine j_catch C CM [] ⟨0, 10, 13, 13⟩ [⟨0, 10, 17, 21⟩, ⟨0, 10, 21, 26⟩] rfl (fun z hz => absurd hz List.not_mem_nil) rfl (by decide) lc_L_13 (by decide +kernel) (fun q => ?_)
      show Q G X _ _ 13 _ _ _
      refine j_astore C dL_move_13 (by decide) rfl ?_
      refine j_iconst C (v := nI 1) dL_move_15 rfl ?_
      exact q_iretS C CM rfl (Nat.le_of_ble_eq_true rfl) (Nat.le_of_ble_eq_true rfl) dL_move_16 (by rw [hj]) (ou_ex hC1 hs1 hj (by decide))
    · cases hE
      refine j_catch C CM [⟨0, 10, 13, 13⟩] ⟨0, 10, 17, 21⟩ [⟨0, 10, 21, 26⟩] rfl (List.forall_mem_cons.mpr ⟨Or.inr ⟨by decide, "java/lang/IndexOutOfBoundsException", lc_L_13, by decide +kernel⟩, fun z hz => absurd hz List.not_mem_nil⟩) rfl (by decide) lc_L_21 (by decide +kernel) (fun q => ?_)
      show Q G X _ _ 17 _ _ _
      refine j_astore C dL_move_17 (by decide) rfl ?_
      refine j_iconst C (v := nI 2) dL_move_19 rfl ?_
      exact q_iretS C CM rfl (Nat.le_of_ble_eq_true rfl) (Nat.le_of_ble_eq_true rfl) dL_move_20 (by rw [hj]) (ou_ex hC1 hs1 hj (by decide))
    · cases hE
      refine j_catch C CM [⟨0, 10, 13, 13⟩, ⟨0, 10, 17, 21⟩] ⟨0, 10, 21, 26⟩ [] rfl (List.forall_mem_cons.mpr ⟨Or.inr ⟨by decide, "java/lang/IndexOutOfBoundsException", lc_L_13, by decide +kernel⟩, List.forall_mem_cons.mpr ⟨Or.inr ⟨by decide, "java/util/NoSuchElementException", lc_L_21, by decide +kernel⟩, fun z hz => absurd hz List.not_mem_nil⟩⟩) rfl (by decide) lc_L_26 (by decide +kernel) (fun q => ?_)
      show Q G X _ _ 21 _ _ _
      refine j_astore C dL_move_21 (by decide) rfl ?_
      refine j_iconst C (v := nI 3) dL_move_23 rfl ?_
      exact q_iretS C CM rfl (Nat.le_of_ble_eq_true rfl) (Nat.le_of_ble_eq_true rfl) dL_move_24 (by rw [hj]) (ou_ex hC1 hs1 hj (by decide))
    · cases hE
set_option maxHeartbeats 4000000 in
set_option maxRecDepth 100000 in
theorem sp_L_content (G : gG) (M : gMem) {A : gSt0} (hA : gAi A) (hB : gAb A) (hC : gRC A M) (x : Int32) : SpS G mL_content (gRm 7 4) [.ref (gb G + 0), .int x, .ref (gb G + 237)] M (some (.int (nI (oContent A x).1))) (gOu (oContent A x) M) := by
  refine Sp.of (by decide +kernel) (Nat.le_of_ble_eq_true rfl) (fun X C CM => ?_)
  have C : gC G X RL cL_content 4 (gRm 7 4) := C
  refine j_aload_n C dL_content_0 rfl ?_
  refine j_iconst C (v := nI 0) dL_content_1 rfl ?_
  refine j_aload_n C dL_content_2 rfl ?_
  refine j_iload_n C dL_content_3 rfl ?_
  refine j_callV C (sp_X6_content G M hA hB hC x) vX6_content.1 vX6_content.2.1 vX6_content.2.2.1 vX6_content.2.2.2.1 lk_L_28 (mk6 G M (o := 0) rfl) (by decide) vX6_content.2.2.2.2 rfl rfl (Nat.le_of_ble_eq_true rfl) ⟨⟨(Nat.le_of_ble_eq_true rfl), (Nat.le_of_ble_eq_true rfl)⟩, (Nat.le_of_ble_eq_true rfl), (Nat.le_of_ble_eq_true rfl)⟩ dL_content_4 (fun v N1 σ1 h => ?_) (fun E N1 σ1 h => ?_)
  · obtain ⟨rfl, M1, hp, rfl⟩ := h
    obtain ⟨e0, rfl, hC1, hs1⟩ := post_in hp
    show Q G X _ _ _ _ (.int (oContent A x).2.1 :: _) _
    refine j_i2l C dL_content_7 ?_
    refine q_last C rfl (by decide) (by decide) (by decide) dL_content_8 ?_
    refine j_goto C 18 dL_content_9 ?_ (by decide)
    refine j_iconst C (v := nI 0) dL_content_18 rfl ?_
    exact q_iretS C CM rfl (Nat.le_of_ble_eq_true rfl) (Nat.le_of_ble_eq_true rfl) dL_content_19 (by rw [e0]) (ou_in hC1 hs1 rfl e0)
  · obtain ⟨rfl, M1, hp, rfl⟩ := h
    obtain ⟨j, hj, hE, hC1, hs1⟩ := post_ex hp
    rcases j with _ | _ | j
    · cases hE
      refine j_catch C CM [] ⟨0, 9, 12, 13⟩ [⟨0, 9, 15, 21⟩] rfl (fun z hz => absurd hz List.not_mem_nil) rfl (by decide) lc_L_13 (by decide +kernel) (fun q => ?_)
      show Q G X _ _ 12 _ _ _
      refine j_astore_n C dL_content_12 (by decide) rfl ?_
      refine j_iconst C (v := nI 1) dL_content_13 rfl ?_
      exact q_iretS C CM rfl (Nat.le_of_ble_eq_true rfl) (Nat.le_of_ble_eq_true rfl) dL_content_14 (by rw [hj]) (ou_ex hC1 hs1 hj (by decide))
    · cases hE
      refine j_catch C CM [⟨0, 9, 12, 13⟩] ⟨0, 9, 15, 21⟩ [] rfl (List.forall_mem_cons.mpr ⟨Or.inr ⟨by decide, "java/lang/IndexOutOfBoundsException", lc_L_13, by decide +kernel⟩, fun z hz => absurd hz List.not_mem_nil⟩) rfl (by decide) lc_L_21 (by decide +kernel) (fun q => ?_)
      show Q G X _ _ 15 _ _ _
      refine j_astore_n C dL_content_15 (by decide) rfl ?_
      refine j_iconst C (v := nI 2) dL_content_16 rfl ?_
      exact q_iretS C CM rfl (Nat.le_of_ble_eq_true rfl) (Nat.le_of_ble_eq_true rfl) dL_content_17 (by rw [hj]) (ou_ex hC1 hs1 hj (by decide))
    · cases hE
set_option maxHeartbeats 4000000 in
set_option maxRecDepth 100000 in
theorem sp_L_commit (G : gG) (M : gMem) {A : gSt0} (hA : gAi A) (hB : gAb A) (hC : gRC A M)  : SpS G mL_commit (gRm 7 4) [.ref (gb G + 0), .ref (gb G + 237)] M (some (.int (nI (oCommit A).1))) (gOu (oCommit A) M) := by
  refine Sp.of (by decide +kernel) (Nat.le_of_ble_eq_true rfl) (fun X C CM => ?_)
  have C : gC G X RL cL_commit 3 (gRm 7 4) := C
  refine j_aload_n C dL_commit_0 rfl ?_
  refine j_iconst C (v := nI 0) dL_commit_1 rfl ?_
  refine j_aload_n C dL_commit_2 rfl ?_
  refine j_callV C (sp_X6_commit G M hA hB hC ) vX6_commit.1 vX6_commit.2.1 vX6_commit.2.2.1 vX6_commit.2.2.2.1 lk_L_31 (mk6 G M (o := 0) rfl) (by decide) vX6_commit.2.2.2.2 rfl rfl (Nat.le_of_ble_eq_true rfl) ⟨⟨(Nat.le_of_ble_eq_true rfl), (Nat.le_of_ble_eq_true rfl)⟩, (Nat.le_of_ble_eq_true rfl), (Nat.le_of_ble_eq_true rfl)⟩ dL_commit_3 (fun v N1 σ1 h => ?_) (fun E N1 σ1 h => ?_)
  · obtain ⟨rfl, M1, hp, rfl⟩ := h
    obtain ⟨e0, rfl, hC1, hs1⟩ := post_in hp
    show Q G X _ _ _ _ (.int (oCommit A).2.1 :: _) _
    refine j_i2l C dL_commit_6 ?_
    refine q_last C rfl (by decide) (by decide) (by decide) dL_commit_7 ?_
    refine j_goto C 14 dL_commit_8 ?_ (by decide)
    refine j_iconst C (v := nI 0) dL_commit_14 rfl ?_
    exact q_iretS C CM rfl (Nat.le_of_ble_eq_true rfl) (Nat.le_of_ble_eq_true rfl) dL_commit_15 (by rw [e0]) (ou_in hC1 hs1 rfl e0)
  · obtain ⟨rfl, M1, hp, rfl⟩ := h
    obtain ⟨j, hj, hE, hC1, hs1⟩ := post_ex hp
    rcases j with _ | j
    · cases hE
      refine j_catch C CM [] ⟨0, 8, 11, 26⟩ [] rfl (fun z hz => absurd hz List.not_mem_nil) rfl (by decide) lc_L_26 (by decide +kernel) (fun q => ?_)
      show Q G X _ _ 11 _ _ _
      refine j_astore_n C dL_commit_11 (by decide) rfl ?_
      refine j_iconst C (v := nI 1) dL_commit_12 rfl ?_
      exact q_iretS C CM rfl (Nat.le_of_ble_eq_true rfl) (Nat.le_of_ble_eq_true rfl) dL_commit_13 (by rw [hj]) (ou_ex hC1 hs1 hj (by decide))
    · cases hE
set_option maxHeartbeats 4000000 in
set_option maxRecDepth 100000 in
theorem sp_L_branch (G : gG) (M : gMem) {A : gSt0} (hA : gAi A) (hB : gAb A) (hC : gRC A M) (x : Int32) : SpS G mL_branch (gRm 7 4) [.ref (gb G + 0), .int x, .ref (gb G + 237)] M (some (.int (nI (oBranch A x).1))) (gOu (oBranch A x) M) := by
  refine Sp.of (by decide +kernel) (Nat.le_of_ble_eq_true rfl) (fun X C CM => ?_)
  have C : gC G X RL cL_branch 4 (gRm 7 4) := C
  refine j_aload_n C dL_branch_0 rfl ?_
  refine j_iconst C (v := nI 0) dL_branch_1 rfl ?_
  refine j_aload_n C dL_branch_2 rfl ?_
  refine j_iload_n C dL_branch_3 rfl ?_
  refine j_callV C (sp_X6_branch G M hA hB hC x) vX6_branch.1 vX6_branch.2.1 vX6_branch.2.2.1 vX6_branch.2.2.2.1 lk_L_35 (mk6 G M (o := 0) rfl) (by decide) vX6_branch.2.2.2.2 rfl rfl (Nat.le_of_ble_eq_true rfl) ⟨⟨(Nat.le_of_ble_eq_true rfl), (Nat.le_of_ble_eq_true rfl)⟩, (Nat.le_of_ble_eq_true rfl), (Nat.le_of_ble_eq_true rfl)⟩ dL_branch_4 (fun v N1 σ1 h => ?_) (fun E N1 σ1 h => ?_)
  · obtain ⟨rfl, M1, hp, rfl⟩ := h
    obtain ⟨e0, rfl, hC1, hs1⟩ := post_in hp
    show Q G X _ _ _ _ (.int (oBranch A x).2.1 :: _) _
    refine j_i2l C dL_branch_7 ?_
    refine q_last C rfl (by decide) (by decide) (by decide) dL_branch_8 ?_
    refine j_goto C 18 dL_branch_9 ?_ (by decide)
    refine j_iconst C (v := nI 0) dL_branch_18 rfl ?_
    exact q_iretS C CM rfl (Nat.le_of_ble_eq_true rfl) (Nat.le_of_ble_eq_true rfl) dL_branch_19 (by rw [e0]) (ou_in hC1 hs1 rfl e0)
  · obtain ⟨rfl, M1, hp, rfl⟩ := h
    obtain ⟨j, hj, hE, hC1, hs1⟩ := post_ex hp
    rcases j with _ | _ | j
    · cases hE
      refine j_catch C CM [] ⟨0, 9, 12, 13⟩ [⟨0, 9, 15, 26⟩] rfl (fun z hz => absurd hz List.not_mem_nil) rfl (by decide) lc_L_13 (by decide +kernel) (fun q => ?_)
      show Q G X _ _ 12 _ _ _
      refine j_astore_n C dL_branch_12 (by decide) rfl ?_
      refine j_iconst C (v := nI 1) dL_branch_13 rfl ?_
      exact q_iretS C CM rfl (Nat.le_of_ble_eq_true rfl) (Nat.le_of_ble_eq_true rfl) dL_branch_14 (by rw [hj]) (ou_ex hC1 hs1 hj (by decide))
    · cases hE
      refine j_catch C CM [⟨0, 9, 12, 13⟩] ⟨0, 9, 15, 26⟩ [] rfl (List.forall_mem_cons.mpr ⟨Or.inr ⟨by decide, "java/lang/IndexOutOfBoundsException", lc_L_13, by decide +kernel⟩, fun z hz => absurd hz List.not_mem_nil⟩) rfl (by decide) lc_L_26 (by decide +kernel) (fun q => ?_)
      show Q G X _ _ 15 _ _ _
      refine j_astore_n C dL_branch_15 (by decide) rfl ?_
      refine j_iconst C (v := nI 2) dL_branch_16 rfl ?_
      exact q_iretS C CM rfl (Nat.le_of_ble_eq_true rfl) (Nat.le_of_ble_eq_true rfl) dL_branch_17 (by rw [hj]) (ou_ex hC1 hs1 hj (by decide))
    · cases hE
set_option maxHeartbeats 4000000 in
set_option maxRecDepth 100000 in
theorem sp_L_checkOut (G : gG) (M : gMem) {A : gSt0} (hA : gAi A) (hB : gAb A) (hC : gRC A M) (x : Int32) : SpS G mL_checkOut (gRm 7 4) [.ref (gb G + 0), .int x, .ref (gb G + 237)] M (some (.int (nI (oCheckOut A x).1))) (gOu (oCheckOut A x) M) := by
  refine Sp.of (by decide +kernel) (Nat.le_of_ble_eq_true rfl) (fun X C CM => ?_)
  have C : gC G X RL cL_checkOut 4 (gRm 7 4) := C
  refine j_aload_n C dL_checkOut_0 rfl ?_
  refine j_iconst C (v := nI 0) dL_checkOut_1 rfl ?_
  refine j_aload_n C dL_checkOut_2 rfl ?_
  refine j_iload_n C dL_checkOut_3 rfl ?_
  refine j_callV C (sp_X6_checkOut G M hA hB hC x) vX6_checkOut.1 vX6_checkOut.2.1 vX6_checkOut.2.2.1 vX6_checkOut.2.2.2.1 lk_L_38 (mk6 G M (o := 0) rfl) (by decide) vX6_checkOut.2.2.2.2 rfl rfl (Nat.le_of_ble_eq_true rfl) ⟨⟨(Nat.le_of_ble_eq_true rfl), (Nat.le_of_ble_eq_true rfl)⟩, (Nat.le_of_ble_eq_true rfl), (Nat.le_of_ble_eq_true rfl)⟩ dL_checkOut_4 (fun v N1 σ1 h => ?_) (fun E N1 σ1 h => ?_)
  · obtain ⟨rfl, M1, hp, rfl⟩ := h
    obtain ⟨e0, rfl, hC1, hs1⟩ := post_in hp
    show Q G X _ _ _ _ (.int (oCheckOut A x).2.1 :: _) _
    refine j_i2l C dL_checkOut_7 ?_
    refine q_last C rfl (by decide) (by decide) (by decide) dL_checkOut_8 ?_
    refine j_goto C 21 dL_checkOut_9 ?_ (by decide)
    refine j_iconst C (v := nI 0) dL_checkOut_21 rfl ?_
    exact q_iretS C CM rfl (Nat.le_of_ble_eq_true rfl) (Nat.le_of_ble_eq_true rfl) dL_checkOut_22 (by rw [e0]) (ou_in hC1 hs1 rfl e0)
  · obtain ⟨rfl, M1, hp, rfl⟩ := h
    obtain ⟨j, hj, hE, hC1, hs1⟩ := post_ex hp
    rcases j with _ | _ | _ | j
    · cases hE
      refine j_catch C CM [] ⟨0, 9, 12, 13⟩ [⟨0, 9, 15, 21⟩, ⟨0, 9, 18, 26⟩] rfl (fun z hz => absurd hz List.not_mem_nil) rfl (by decide) lc_L_13 (by decide +kernel) (fun q => ?_)
      show Q G X _ _ 12 _ _ _
      refine j_astore_n C dL_checkOut_12 (by decide) rfl ?_
      refine j_iconst C (v := nI 1) dL_checkOut_13 rfl ?_
      exact q_iretS C CM rfl (Nat.le_of_ble_eq_true rfl) (Nat.le_of_ble_eq_true rfl) dL_checkOut_14 (by rw [hj]) (ou_ex hC1 hs1 hj (by decide))
    · cases hE
      refine j_catch C CM [⟨0, 9, 12, 13⟩] ⟨0, 9, 15, 21⟩ [⟨0, 9, 18, 26⟩] rfl (List.forall_mem_cons.mpr ⟨Or.inr ⟨by decide, "java/lang/IndexOutOfBoundsException", lc_L_13, by decide +kernel⟩, fun z hz => absurd hz List.not_mem_nil⟩) rfl (by decide) lc_L_21 (by decide +kernel) (fun q => ?_)
      show Q G X _ _ 15 _ _ _
      refine j_astore_n C dL_checkOut_15 (by decide) rfl ?_
      refine j_iconst C (v := nI 2) dL_checkOut_16 rfl ?_
      exact q_iretS C CM rfl (Nat.le_of_ble_eq_true rfl) (Nat.le_of_ble_eq_true rfl) dL_checkOut_17 (by rw [hj]) (ou_ex hC1 hs1 hj (by decide))
    · cases hE
      refine j_catch C CM [⟨0, 9, 12, 13⟩, ⟨0, 9, 15, 21⟩] ⟨0, 9, 18, 26⟩ [] rfl (List.forall_mem_cons.mpr ⟨Or.inr ⟨by decide, "java/lang/IndexOutOfBoundsException", lc_L_13, by decide +kernel⟩, List.forall_mem_cons.mpr ⟨Or.inr ⟨by decide, "java/util/NoSuchElementException", lc_L_21, by decide +kernel⟩, fun z hz => absurd hz List.not_mem_nil⟩⟩) rfl (by decide) lc_L_26 (by decide +kernel) (fun q => ?_)
      show Q G X _ _ 18 _ _ _
      refine j_astore_n C dL_checkOut_18 (by decide) rfl ?_
      refine j_iconst C (v := nI 3) dL_checkOut_19 rfl ?_
      exact q_iretS C CM rfl (Nat.le_of_ble_eq_true rfl) (Nat.le_of_ble_eq_true rfl) dL_checkOut_20 (by rw [hj]) (ou_ex hC1 hs1 hj (by decide))
    · cases hE
set_option maxHeartbeats 4000000 in
set_option maxRecDepth 100000 in
theorem sp_L_reset (G : gG) (M : gMem) {A : gSt0} (hA : gAi A) (hB : gAb A) (hC : gRC A M) (x : Int32) : SpS G mL_reset (gRm 7 4) [.ref (gb G + 0), .int x, .ref (gb G + 237)] M (some (.int (nI (oReset A x).1))) (gOu (oReset A x) M) := by
  refine Sp.of (by decide +kernel) (Nat.le_of_ble_eq_true rfl) (fun X C CM => ?_)
  have C : gC G X RL cL_reset 4 (gRm 7 4) := C
  refine j_aload_n C dL_reset_0 rfl ?_
  refine j_iconst C (v := nI 0) dL_reset_1 rfl ?_
  refine j_aload_n C dL_reset_2 rfl ?_
  refine j_iload_n C dL_reset_3 rfl ?_
  refine j_callV C (sp_X6_reset G M hA hB hC x) vX6_reset.1 vX6_reset.2.1 vX6_reset.2.2.1 vX6_reset.2.2.2.1 lk_L_41 (mk6 G M (o := 0) rfl) (by decide) vX6_reset.2.2.2.2 rfl rfl (Nat.le_of_ble_eq_true rfl) ⟨⟨(Nat.le_of_ble_eq_true rfl), (Nat.le_of_ble_eq_true rfl)⟩, (Nat.le_of_ble_eq_true rfl), (Nat.le_of_ble_eq_true rfl)⟩ dL_reset_4 (fun v N1 σ1 h => ?_) (fun E N1 σ1 h => ?_)
  · obtain ⟨rfl, M1, hp, rfl⟩ := h
    obtain ⟨e0, rfl, hC1, hs1⟩ := post_in hp
    show Q G X _ _ _ _ (.int (oReset A x).2.1 :: _) _
    refine j_i2l C dL_reset_7 ?_
    refine q_last C rfl (by decide) (by decide) (by decide) dL_reset_8 ?_
    refine j_goto C 15 dL_reset_9 ?_ (by decide)
    refine j_iconst C (v := nI 0) dL_reset_15 rfl ?_
    exact q_iretS C CM rfl (Nat.le_of_ble_eq_true rfl) (Nat.le_of_ble_eq_true rfl) dL_reset_16 (by rw [e0]) (ou_in hC1 hs1 rfl e0)
  · obtain ⟨rfl, M1, hp, rfl⟩ := h
    obtain ⟨j, hj, hE, hC1, hs1⟩ := post_ex hp
    rcases j with _ | j
    · cases hE
      refine j_catch C CM [] ⟨0, 9, 12, 13⟩ [] rfl (fun z hz => absurd hz List.not_mem_nil) rfl (by decide) lc_L_13 (by decide +kernel) (fun q => ?_)
      show Q G X _ _ 12 _ _ _
      refine j_astore_n C dL_reset_12 (by decide) rfl ?_
      refine j_iconst C (v := nI 1) dL_reset_13 rfl ?_
      exact q_iretS C CM rfl (Nat.le_of_ble_eq_true rfl) (Nat.le_of_ble_eq_true rfl) dL_reset_14 (by rw [hj]) (ou_ex hC1 hs1 hj (by decide))
    · cases hE
set_option maxHeartbeats 4000000 in
set_option maxRecDepth 100000 in
theorem sp_L_merge (G : gG) (M : gMem) {A : gSt0} (hA : gAi A) (hB : gAb A) (hC : gRC A M) (x : Int32) : SpS G mL_merge (gRm 7 4) [.ref (gb G + 0), .int x, .ref (gb G + 237)] M (some (.int (nI (oMerge A x).1))) (gOu (oMerge A x) M) := by
  refine Sp.of (by decide +kernel) (Nat.le_of_ble_eq_true rfl) (fun X C CM => ?_)
  have C : gC G X RL cL_merge 4 (gRm 7 4) := C
  refine j_aload_n C dL_merge_0 rfl ?_
  refine j_iconst C (v := nI 0) dL_merge_1 rfl ?_
  refine j_aload_n C dL_merge_2 rfl ?_
  refine j_iload_n C dL_merge_3 rfl ?_
  refine j_callV C (sp_X6_merge G M hA hB hC x) vX6_merge.1 vX6_merge.2.1 vX6_merge.2.2.1 vX6_merge.2.2.2.1 lk_L_44 (mk6 G M (o := 0) rfl) (by decide) vX6_merge.2.2.2.2 rfl rfl (Nat.le_of_ble_eq_true rfl) ⟨⟨(Nat.le_of_ble_eq_true rfl), (Nat.le_of_ble_eq_true rfl)⟩, (Nat.le_of_ble_eq_true rfl), (Nat.le_of_ble_eq_true rfl)⟩ dL_merge_4 (fun v N1 σ1 h => ?_) (fun E N1 σ1 h => ?_)
  · obtain ⟨rfl, M1, hp, rfl⟩ := h
    obtain ⟨e0, rfl, hC1, hs1⟩ := post_in hp
    show Q G X _ _ _ _ (.int (oMerge A x).2.1 :: _) _
    refine j_i2l C dL_merge_7 ?_
    refine q_last C rfl (by decide) (by decide) (by decide) dL_merge_8 ?_
    refine j_goto C 24 dL_merge_9 ?_ (by decide)
    refine j_iconst C (v := nI 0) dL_merge_24 rfl ?_
    exact q_iretS C CM rfl (Nat.le_of_ble_eq_true rfl) (Nat.le_of_ble_eq_true rfl) dL_merge_25 (by rw [e0]) (ou_in hC1 hs1 rfl e0)
  · obtain ⟨rfl, M1, hp, rfl⟩ := h
    obtain ⟨j, hj, hE, hC1, hs1⟩ := post_ex hp
    rcases j with _ | _ | _ | _ | j
    · cases hE
      refine j_catch C CM [] ⟨0, 9, 12, 13⟩ [⟨0, 9, 15, 21⟩, ⟨0, 9, 18, 26⟩, ⟨0, 9, 21, 47⟩] rfl (fun z hz => absurd hz List.not_mem_nil) rfl (by decide) lc_L_13 (by decide +kernel) (fun q => ?_)
      show Q G X _ _ 12 _ _ _
      refine j_astore_n C dL_merge_12 (by decide) rfl ?_
      refine j_iconst C (v := nI 1) dL_merge_13 rfl ?_
      exact q_iretS C CM rfl (Nat.le_of_ble_eq_true rfl) (Nat.le_of_ble_eq_true rfl) dL_merge_14 (by rw [hj]) (ou_ex hC1 hs1 hj (by decide))
    · cases hE
      refine j_catch C CM [⟨0, 9, 12, 13⟩] ⟨0, 9, 15, 21⟩ [⟨0, 9, 18, 26⟩, ⟨0, 9, 21, 47⟩] rfl (List.forall_mem_cons.mpr ⟨Or.inr ⟨by decide, "java/lang/IndexOutOfBoundsException", lc_L_13, by decide +kernel⟩, fun z hz => absurd hz List.not_mem_nil⟩) rfl (by decide) lc_L_21 (by decide +kernel) (fun q => ?_)
      show Q G X _ _ 15 _ _ _
      refine j_astore_n C dL_merge_15 (by decide) rfl ?_
      refine j_iconst C (v := nI 2) dL_merge_16 rfl ?_
      exact q_iretS C CM rfl (Nat.le_of_ble_eq_true rfl) (Nat.le_of_ble_eq_true rfl) dL_merge_17 (by rw [hj]) (ou_ex hC1 hs1 hj (by decide))
    · cases hE
      refine j_catch C CM [⟨0, 9, 12, 13⟩, ⟨0, 9, 15, 21⟩] ⟨0, 9, 18, 26⟩ [⟨0, 9, 21, 47⟩] rfl (List.forall_mem_cons.mpr ⟨Or.inr ⟨by decide, "java/lang/IndexOutOfBoundsException", lc_L_13, by decide +kernel⟩, List.forall_mem_cons.mpr ⟨Or.inr ⟨by decide, "java/util/NoSuchElementException", lc_L_21, by decide +kernel⟩, fun z hz => absurd hz List.not_mem_nil⟩⟩) rfl (by decide) lc_L_26 (by decide +kernel) (fun q => ?_)
      show Q G X _ _ 18 _ _ _
      refine j_astore_n C dL_merge_18 (by decide) rfl ?_
      refine j_iconst C (v := nI 3) dL_merge_19 rfl ?_
      exact q_iretS C CM rfl (Nat.le_of_ble_eq_true rfl) (Nat.le_of_ble_eq_true rfl) dL_merge_20 (by rw [hj]) (ou_ex hC1 hs1 hj (by decide))
    · cases hE
      refine j_catch C CM [⟨0, 9, 12, 13⟩, ⟨0, 9, 15, 21⟩, ⟨0, 9, 18, 26⟩] ⟨0, 9, 21, 47⟩ [] rfl (List.forall_mem_cons.mpr ⟨Or.inr ⟨by decide, "java/lang/IndexOutOfBoundsException", lc_L_13, by decide +kernel⟩, List.forall_mem_cons.mpr ⟨Or.inr ⟨by decide, "java/util/NoSuchElementException", lc_L_21, by decide +kernel⟩, List.forall_mem_cons.mpr ⟨Or.inr ⟨by decide, "java/lang/IllegalStateException", lc_L_26, by decide +kernel⟩, fun z hz => absurd hz List.not_mem_nil⟩⟩⟩) rfl (by decide) lc_L_47 (by decide +kernel) (fun q => ?_)
      show Q G X _ _ 21 _ _ _
      refine j_astore_n C dL_merge_21 (by decide) rfl ?_
      refine j_iconst C (v := nI 4) dL_merge_22 rfl ?_
      exact q_iretS C CM rfl (Nat.le_of_ble_eq_true rfl) (Nat.le_of_ble_eq_true rfl) dL_merge_23 (by rw [hj]) (ou_ex hC1 hs1 hj (by decide))
    · cases hE
set_option maxHeartbeats 4000000 in
set_option maxRecDepth 100000 in
theorem sp_L_putOnto (G : gG) (M : gMem) {A : gSt0} (hA : gAi A) (hB : gAb A) (hC : gRC A M) (x : Int32) : SpS G mL_putOnto (gRm 7 4) [.ref (gb G + 0), .int x, .ref (gb G + 237)] M (some (.int (nI (oPutOnto A x).1))) (gOu (oPutOnto A x) M) := by
  refine Sp.of (by decide +kernel) (Nat.le_of_ble_eq_true rfl) (fun X C CM => ?_)
  have C : gC G X RL cL_putOnto 4 (gRm 7 4) := C
  refine j_aload_n C dL_putOnto_0 rfl ?_
  refine j_iconst C (v := nI 0) dL_putOnto_1 rfl ?_
  refine j_aload_n C dL_putOnto_2 rfl ?_
  refine j_iload_n C dL_putOnto_3 rfl ?_
  refine j_callV C (sp_X6_putOnto G M hA hB hC x) vX6_putOnto.1 vX6_putOnto.2.1 vX6_putOnto.2.2.1 vX6_putOnto.2.2.2.1 lk_L_49 (mk6 G M (o := 0) rfl) (by decide) vX6_putOnto.2.2.2.2 rfl rfl (Nat.le_of_ble_eq_true rfl) ⟨⟨(Nat.le_of_ble_eq_true rfl), (Nat.le_of_ble_eq_true rfl)⟩, (Nat.le_of_ble_eq_true rfl), (Nat.le_of_ble_eq_true rfl)⟩ dL_putOnto_4 (fun v N1 σ1 h => ?_) (fun E N1 σ1 h => ?_)
  · obtain ⟨rfl, M1, hp, rfl⟩ := h
    obtain ⟨e0, rfl, hC1, hs1⟩ := post_in hp
    show Q G X _ _ _ _ (.int (oPutOnto A x).2.1 :: _) _
    refine j_i2l C dL_putOnto_7 ?_
    refine q_last C rfl (by decide) (by decide) (by decide) dL_putOnto_8 ?_
    refine j_goto C 24 dL_putOnto_9 ?_ (by decide)
    refine j_iconst C (v := nI 0) dL_putOnto_24 rfl ?_
    exact q_iretS C CM rfl (Nat.le_of_ble_eq_true rfl) (Nat.le_of_ble_eq_true rfl) dL_putOnto_25 (by rw [e0]) (ou_in hC1 hs1 rfl e0)
  · obtain ⟨rfl, M1, hp, rfl⟩ := h
    obtain ⟨j, hj, hE, hC1, hs1⟩ := post_ex hp
    rcases j with _ | _ | _ | _ | j
    · cases hE
      refine j_catch C CM [] ⟨0, 9, 12, 13⟩ [⟨0, 9, 15, 21⟩, ⟨0, 9, 18, 26⟩, ⟨0, 9, 21, 47⟩] rfl (fun z hz => absurd hz List.not_mem_nil) rfl (by decide) lc_L_13 (by decide +kernel) (fun q => ?_)
      show Q G X _ _ 12 _ _ _
      refine j_astore_n C dL_putOnto_12 (by decide) rfl ?_
      refine j_iconst C (v := nI 1) dL_putOnto_13 rfl ?_
      exact q_iretS C CM rfl (Nat.le_of_ble_eq_true rfl) (Nat.le_of_ble_eq_true rfl) dL_putOnto_14 (by rw [hj]) (ou_ex hC1 hs1 hj (by decide))
    · cases hE
      refine j_catch C CM [⟨0, 9, 12, 13⟩] ⟨0, 9, 15, 21⟩ [⟨0, 9, 18, 26⟩, ⟨0, 9, 21, 47⟩] rfl (List.forall_mem_cons.mpr ⟨Or.inr ⟨by decide, "java/lang/IndexOutOfBoundsException", lc_L_13, by decide +kernel⟩, fun z hz => absurd hz List.not_mem_nil⟩) rfl (by decide) lc_L_21 (by decide +kernel) (fun q => ?_)
      show Q G X _ _ 15 _ _ _
      refine j_astore_n C dL_putOnto_15 (by decide) rfl ?_
      refine j_iconst C (v := nI 2) dL_putOnto_16 rfl ?_
      exact q_iretS C CM rfl (Nat.le_of_ble_eq_true rfl) (Nat.le_of_ble_eq_true rfl) dL_putOnto_17 (by rw [hj]) (ou_ex hC1 hs1 hj (by decide))
    · cases hE
      refine j_catch C CM [⟨0, 9, 12, 13⟩, ⟨0, 9, 15, 21⟩] ⟨0, 9, 18, 26⟩ [⟨0, 9, 21, 47⟩] rfl (List.forall_mem_cons.mpr ⟨Or.inr ⟨by decide, "java/lang/IndexOutOfBoundsException", lc_L_13, by decide +kernel⟩, List.forall_mem_cons.mpr ⟨Or.inr ⟨by decide, "java/util/NoSuchElementException", lc_L_21, by decide +kernel⟩, fun z hz => absurd hz List.not_mem_nil⟩⟩) rfl (by decide) lc_L_26 (by decide +kernel) (fun q => ?_)
      show Q G X _ _ 18 _ _ _
      refine j_astore_n C dL_putOnto_18 (by decide) rfl ?_
      refine j_iconst C (v := nI 3) dL_putOnto_19 rfl ?_
      exact q_iretS C CM rfl (Nat.le_of_ble_eq_true rfl) (Nat.le_of_ble_eq_true rfl) dL_putOnto_20 (by rw [hj]) (ou_ex hC1 hs1 hj (by decide))
    · cases hE
      refine j_catch C CM [⟨0, 9, 12, 13⟩, ⟨0, 9, 15, 21⟩, ⟨0, 9, 18, 26⟩] ⟨0, 9, 21, 47⟩ [] rfl (List.forall_mem_cons.mpr ⟨Or.inr ⟨by decide, "java/lang/IndexOutOfBoundsException", lc_L_13, by decide +kernel⟩, List.forall_mem_cons.mpr ⟨Or.inr ⟨by decide, "java/util/NoSuchElementException", lc_L_21, by decide +kernel⟩, List.forall_mem_cons.mpr ⟨Or.inr ⟨by decide, "java/lang/IllegalStateException", lc_L_26, by decide +kernel⟩, fun z hz => absurd hz List.not_mem_nil⟩⟩⟩) rfl (by decide) lc_L_47 (by decide +kernel) (fun q => ?_)
      show Q G X _ _ 21 _ _ _
      refine j_astore_n C dL_putOnto_21 (by decide) rfl ?_
      refine j_iconst C (v := nI 4) dL_putOnto_22 rfl ?_
      exact q_iretS C CM rfl (Nat.le_of_ble_eq_true rfl) (Nat.le_of_ble_eq_true rfl) dL_putOnto_23 (by rw [hj]) (ou_ex hC1 hs1 hj (by decide))
    · cases hE
set_option maxHeartbeats 4000000 in
set_option maxRecDepth 100000 in
theorem sp_L_head (G : gG) (M : gMem) {A : gSt0} (hA : gAi A) (hB : gAb A) (hC : gRC A M) (x : Int32) : SpS G mL_head (gRm 7 4) [.ref (gb G + 0), .int x, .ref (gb G + 237)] M (some (.int (nI (oHead A x).1))) (gOu (oHead A x) M) := by
  refine Sp.of (by decide +kernel) (Nat.le_of_ble_eq_true rfl) (fun X C CM => ?_)
  have C : gC G X RL cL_head 4 (gRm 7 4) := C
  refine j_aload_n C dL_head_0 rfl ?_
  refine j_iconst C (v := nI 0) dL_head_1 rfl ?_
  refine j_aload_n C dL_head_2 rfl ?_
  refine j_iload_n C dL_head_3 rfl ?_
  refine j_callV C (sp_X6_head G M hA hB hC x) vX6_head.1 vX6_head.2.1 vX6_head.2.2.1 vX6_head.2.2.2.1 lk_L_52 (mk6 G M (o := 0) rfl) (by decide) vX6_head.2.2.2.2 rfl rfl (Nat.le_of_ble_eq_true rfl) ⟨⟨(Nat.le_of_ble_eq_true rfl), (Nat.le_of_ble_eq_true rfl)⟩, (Nat.le_of_ble_eq_true rfl), (Nat.le_of_ble_eq_true rfl)⟩ dL_head_4 (fun v N1 σ1 h => ?_) (fun E N1 σ1 h => ?_)
  · obtain ⟨rfl, M1, hp, rfl⟩ := h
    obtain ⟨e0, rfl, hC1, hs1⟩ := post_in hp
    show Q G X _ _ _ _ (.int (oHead A x).2.1 :: _) _
    refine j_i2l C dL_head_7 ?_
    refine q_last C rfl (by decide) (by decide) (by decide) dL_head_8 ?_
    refine j_goto C 18 dL_head_9 ?_ (by decide)
    refine j_iconst C (v := nI 0) dL_head_18 rfl ?_
    exact q_iretS C CM rfl (Nat.le_of_ble_eq_true rfl) (Nat.le_of_ble_eq_true rfl) dL_head_19 (by rw [e0]) (ou_in hC1 hs1 rfl e0)
  · obtain ⟨rfl, M1, hp, rfl⟩ := h
    obtain ⟨j, hj, hE, hC1, hs1⟩ := post_ex hp
    rcases j with _ | _ | j
    · cases hE
      refine j_catch C CM [] ⟨0, 9, 12, 13⟩ [⟨0, 9, 15, 21⟩] rfl (fun z hz => absurd hz List.not_mem_nil) rfl (by decide) lc_L_13 (by decide +kernel) (fun q => ?_)
      show Q G X _ _ 12 _ _ _
      refine j_astore_n C dL_head_12 (by decide) rfl ?_
      refine j_iconst C (v := nI 1) dL_head_13 rfl ?_
      exact q_iretS C CM rfl (Nat.le_of_ble_eq_true rfl) (Nat.le_of_ble_eq_true rfl) dL_head_14 (by rw [hj]) (ou_ex hC1 hs1 hj (by decide))
    · cases hE
      refine j_catch C CM [⟨0, 9, 12, 13⟩] ⟨0, 9, 15, 21⟩ [] rfl (List.forall_mem_cons.mpr ⟨Or.inr ⟨by decide, "java/lang/IndexOutOfBoundsException", lc_L_13, by decide +kernel⟩, fun z hz => absurd hz List.not_mem_nil⟩) rfl (by decide) lc_L_21 (by decide +kernel) (fun q => ?_)
      show Q G X _ _ 15 _ _ _
      refine j_astore_n C dL_head_15 (by decide) rfl ?_
      refine j_iconst C (v := nI 2) dL_head_16 rfl ?_
      exact q_iretS C CM rfl (Nat.le_of_ble_eq_true rfl) (Nat.le_of_ble_eq_true rfl) dL_head_17 (by rw [hj]) (ou_ex hC1 hs1 hj (by decide))
    · cases hE
set_option maxHeartbeats 4000000 in
set_option maxRecDepth 100000 in
theorem sp_L_contentIn (G : gG) (M : gMem) {A : gSt0} (hA : gAi A) (hB : gAb A) (hC : gRC A M) (x y : Int32) : SpS G mL_contentIn (gRm 7 4) [.ref (gb G + 0), .int x, .int y, .ref (gb G + 237)] M (some (.int (nI (oContentIn A x y).1))) (gOu (oContentIn A x y) M) := by
  refine Sp.of (by decide +kernel) (Nat.le_of_ble_eq_true rfl) (fun X C CM => ?_)
  have C : gC G X RL cL_contentIn 5 (gRm 7 4) := C
  refine j_aload_n C dL_contentIn_0 rfl ?_
  refine j_iconst C (v := nI 0) dL_contentIn_1 rfl ?_
  refine j_aload_n C dL_contentIn_2 rfl ?_
  refine j_iload_n C dL_contentIn_3 rfl ?_
  refine j_iload_n C dL_contentIn_4 rfl ?_
  refine j_callV C (sp_X6_contentIn G M hA hB hC x y) vX6_contentIn.1 vX6_contentIn.2.1 vX6_contentIn.2.2.1 vX6_contentIn.2.2.2.1 lk_L_55 (mk6 G M (o := 0) rfl) (by decide) vX6_contentIn.2.2.2.2 rfl rfl (Nat.le_of_ble_eq_true rfl) ⟨⟨(Nat.le_of_ble_eq_true rfl), (Nat.le_of_ble_eq_true rfl)⟩, (Nat.le_of_ble_eq_true rfl), (Nat.le_of_ble_eq_true rfl)⟩ dL_contentIn_5 (fun v N1 σ1 h => ?_) (fun E N1 σ1 h => ?_)
  · obtain ⟨rfl, M1, hp, rfl⟩ := h
    obtain ⟨e0, rfl, hC1, hs1⟩ := post_in hp
    show Q G X _ _ _ _ (.int (oContentIn A x y).2.1 :: _) _
    refine j_i2l C dL_contentIn_8 ?_
    refine q_last C rfl (by decide) (by decide) (by decide) dL_contentIn_9 ?_
    refine j_goto C 21 dL_contentIn_10 ?_ (by decide)
    refine j_iconst C (v := nI 0) dL_contentIn_21 rfl ?_
    exact q_iretS C CM rfl (Nat.le_of_ble_eq_true rfl) (Nat.le_of_ble_eq_true rfl) dL_contentIn_22 (by rw [e0]) (ou_in hC1 hs1 rfl e0)
  · obtain ⟨rfl, M1, hp, rfl⟩ := h
    obtain ⟨j, hj, hE, hC1, hs1⟩ := post_ex hp
    rcases j with _ | _ | j
    · cases hE
      refine j_catch C CM [] ⟨0, 10, 13, 13⟩ [⟨0, 10, 17, 21⟩] rfl (fun z hz => absurd hz List.not_mem_nil) rfl (by decide) lc_L_13 (by decide +kernel) (fun q => ?_)
      show Q G X _ _ 13 _ _ _
      refine j_astore C dL_contentIn_13 (by decide) rfl ?_
      refine j_iconst C (v := nI 1) dL_contentIn_15 rfl ?_
      exact q_iretS C CM rfl (Nat.le_of_ble_eq_true rfl) (Nat.le_of_ble_eq_true rfl) dL_contentIn_16 (by rw [hj]) (ou_ex hC1 hs1 hj (by decide))
    · cases hE
      refine j_catch C CM [⟨0, 10, 13, 13⟩] ⟨0, 10, 17, 21⟩ [] rfl (List.forall_mem_cons.mpr ⟨Or.inr ⟨by decide, "java/lang/IndexOutOfBoundsException", lc_L_13, by decide +kernel⟩, fun z hz => absurd hz List.not_mem_nil⟩) rfl (by decide) lc_L_21 (by decide +kernel) (fun q => ?_)
      show Q G X _ _ 17 _ _ _
      refine j_astore C dL_contentIn_17 (by decide) rfl ?_
      refine j_iconst C (v := nI 2) dL_contentIn_19 rfl ?_
      exact q_iretS C CM rfl (Nat.le_of_ble_eq_true rfl) (Nat.le_of_ble_eq_true rfl) dL_contentIn_20 (by rw [hj]) (ou_ex hC1 hs1 hj (by decide))
    · cases hE
set_option maxHeartbeats 4000000 in
set_option maxRecDepth 100000 in
theorem sp_L_parentOf (G : gG) (M : gMem) {A : gSt0} (hA : gAi A) (hB : gAb A) (hC : gRC A M) (x y : Int32) : SpS G mL_parentOf (gRm 7 4) [.ref (gb G + 0), .int x, .int y, .ref (gb G + 237)] M (some (.int (nI (oParentOf A x y).1))) (gOu (oParentOf A x y) M) := by
  refine Sp.of (by decide +kernel) (Nat.le_of_ble_eq_true rfl) (fun X C CM => ?_)
  have C : gC G X RL cL_parentOf 5 (gRm 7 4) := C
  refine j_aload_n C dL_parentOf_0 rfl ?_
  refine j_iconst C (v := nI 0) dL_parentOf_1 rfl ?_
  refine j_aload_n C dL_parentOf_2 rfl ?_
  refine j_iload_n C dL_parentOf_3 rfl ?_
  refine j_iload_n C dL_parentOf_4 rfl ?_
  refine j_callV C (sp_X6_parentOf G M hA hB hC x y) vX6_parentOf.1 vX6_parentOf.2.1 vX6_parentOf.2.2.1 vX6_parentOf.2.2.2.1 lk_L_58 (mk6 G M (o := 0) rfl) (by decide) vX6_parentOf.2.2.2.2 rfl rfl (Nat.le_of_ble_eq_true rfl) ⟨⟨(Nat.le_of_ble_eq_true rfl), (Nat.le_of_ble_eq_true rfl)⟩, (Nat.le_of_ble_eq_true rfl), (Nat.le_of_ble_eq_true rfl)⟩ dL_parentOf_5 (fun v N1 σ1 h => ?_) (fun E N1 σ1 h => ?_)
  · obtain ⟨rfl, M1, hp, rfl⟩ := h
    obtain ⟨e0, rfl, hC1, hs1⟩ := post_in hp
    show Q G X _ _ _ _ (.int (oParentOf A x y).2.1 :: _) _
    refine j_i2l C dL_parentOf_8 ?_
    refine q_last C rfl (by decide) (by decide) (by decide) dL_parentOf_9 ?_
    refine j_goto C 21 dL_parentOf_10 ?_ (by decide)
    refine j_iconst C (v := nI 0) dL_parentOf_21 rfl ?_
    exact q_iretS C CM rfl (Nat.le_of_ble_eq_true rfl) (Nat.le_of_ble_eq_true rfl) dL_parentOf_22 (by rw [e0]) (ou_in hC1 hs1 rfl e0)
  · obtain ⟨rfl, M1, hp, rfl⟩ := h
    obtain ⟨j, hj, hE, hC1, hs1⟩ := post_ex hp
    rcases j with _ | _ | j
    · cases hE
      refine j_catch C CM [] ⟨0, 10, 13, 13⟩ [⟨0, 10, 17, 21⟩] rfl (fun z hz => absurd hz List.not_mem_nil) rfl (by decide) lc_L_13 (by decide +kernel) (fun q => ?_)
      show Q G X _ _ 13 _ _ _
      refine j_astore C dL_parentOf_13 (by decide) rfl ?_
      refine j_iconst C (v := nI 1) dL_parentOf_15 rfl ?_
      exact q_iretS C CM rfl (Nat.le_of_ble_eq_true rfl) (Nat.le_of_ble_eq_true rfl) dL_parentOf_16 (by rw [hj]) (ou_ex hC1 hs1 hj (by decide))
    · cases hE
      refine j_catch C CM [⟨0, 10, 13, 13⟩] ⟨0, 10, 17, 21⟩ [] rfl (List.forall_mem_cons.mpr ⟨Or.inr ⟨by decide, "java/lang/IndexOutOfBoundsException", lc_L_13, by decide +kernel⟩, fun z hz => absurd hz List.not_mem_nil⟩) rfl (by decide) lc_L_21 (by decide +kernel) (fun q => ?_)
      show Q G X _ _ 17 _ _ _
      refine j_astore C dL_parentOf_17 (by decide) rfl ?_
      refine j_iconst C (v := nI 2) dL_parentOf_19 rfl ?_
      exact q_iretS C CM rfl (Nat.le_of_ble_eq_true rfl) (Nat.le_of_ble_eq_true rfl) dL_parentOf_20 (by rw [hj]) (ou_ex hC1 hs1 hj (by decide))
    · cases hE
set_option maxHeartbeats 4000000 in
set_option maxRecDepth 100000 in
theorem sp_L_generation (G : gG) (M : gMem) {A : gSt0} (hA : gAi A) (hB : gAb A) (hC : gRC A M) (x : Int32) : SpS G mL_generation (gRm 7 4) [.ref (gb G + 0), .int x, .ref (gb G + 237)] M (some (.int (nI (oGeneration A x).1))) (gOu (oGeneration A x) M) := by
  refine Sp.of (by decide +kernel) (Nat.le_of_ble_eq_true rfl) (fun X C CM => ?_)
  have C : gC G X RL cL_generation 4 (gRm 7 4) := C
  refine j_aload_n C dL_generation_0 rfl ?_
  refine j_iconst C (v := nI 0) dL_generation_1 rfl ?_
  refine j_aload_n C dL_generation_2 rfl ?_
  refine j_iload_n C dL_generation_3 rfl ?_
  refine j_callV C (sp_X6_generation G M hA hB hC x) vX6_generation.1 vX6_generation.2.1 vX6_generation.2.2.1 vX6_generation.2.2.2.1 lk_L_61 (mk6 G M (o := 0) rfl) (by decide) vX6_generation.2.2.2.2 rfl rfl (Nat.le_of_ble_eq_true rfl) ⟨⟨(Nat.le_of_ble_eq_true rfl), (Nat.le_of_ble_eq_true rfl)⟩, (Nat.le_of_ble_eq_true rfl), (Nat.le_of_ble_eq_true rfl)⟩ dL_generation_4 (fun v N1 σ1 h => ?_) (fun E N1 σ1 h => ?_)
  · obtain ⟨rfl, M1, hp, rfl⟩ := h
    obtain ⟨e0, rfl, hC1, hs1⟩ := post_in hp
    show Q G X _ _ _ _ (.int (oGeneration A x).2.1 :: _) _
    refine j_i2l C dL_generation_7 ?_
    refine q_last C rfl (by decide) (by decide) (by decide) dL_generation_8 ?_
    refine j_goto C 15 dL_generation_9 ?_ (by decide)
    refine j_iconst C (v := nI 0) dL_generation_15 rfl ?_
    exact q_iretS C CM rfl (Nat.le_of_ble_eq_true rfl) (Nat.le_of_ble_eq_true rfl) dL_generation_16 (by rw [e0]) (ou_in hC1 hs1 rfl e0)
  · obtain ⟨rfl, M1, hp, rfl⟩ := h
    obtain ⟨j, hj, hE, hC1, hs1⟩ := post_ex hp
    rcases j with _ | j
    · cases hE
      refine j_catch C CM [] ⟨0, 9, 12, 13⟩ [] rfl (fun z hz => absurd hz List.not_mem_nil) rfl (by decide) lc_L_13 (by decide +kernel) (fun q => ?_)
      show Q G X _ _ 12 _ _ _
      refine j_astore_n C dL_generation_12 (by decide) rfl ?_
      refine j_iconst C (v := nI 1) dL_generation_13 rfl ?_
      exact q_iretS C CM rfl (Nat.le_of_ble_eq_true rfl) (Nat.le_of_ble_eq_true rfl) dL_generation_14 (by rw [hj]) (ou_ex hC1 hs1 hj (by decide))
    · cases hE
set_option maxHeartbeats 4000000 in
set_option maxRecDepth 100000 in
theorem sp_L_isAncestor (G : gG) (M : gMem) {A : gSt0} (hA : gAi A) (hB : gAb A) (hC : gRC A M) (x y : Int32) : SpS G mL_isAncestor (gRm 7 4) [.ref (gb G + 0), .int x, .int y, .ref (gb G + 237)] M (some (.int (nI (oTwo A (fAnc A) x y).1))) (gOu (oTwo A (fAnc A) x y) M) := by
  refine Sp.of (by decide +kernel) (Nat.le_of_ble_eq_true rfl) (fun X C CM => ?_)
  have C : gC G X RL cL_isAncestor 5 (gRm 7 4) := C
  refine j_aload_n C dL_isAncestor_0 rfl ?_
  refine j_iconst C (v := nI 0) dL_isAncestor_1 rfl ?_
  refine j_aload_n C dL_isAncestor_2 rfl ?_
  refine j_iload_n C dL_isAncestor_3 rfl ?_
  refine j_iload_n C dL_isAncestor_4 rfl ?_
  refine j_callV C (sp_X6_isAncestor G M hA hB hC x y) vX6_isAncestor.1 vX6_isAncestor.2.1 vX6_isAncestor.2.2.1 vX6_isAncestor.2.2.2.1 lk_L_64 (mk6 G M (o := 0) rfl) (by decide) vX6_isAncestor.2.2.2.2 rfl rfl (Nat.le_of_ble_eq_true rfl) ⟨⟨(Nat.le_of_ble_eq_true rfl), (Nat.le_of_ble_eq_true rfl)⟩, (Nat.le_of_ble_eq_true rfl), (Nat.le_of_ble_eq_true rfl)⟩ dL_isAncestor_5 (fun v N1 σ1 h => ?_) (fun E N1 σ1 h => ?_)
  · obtain ⟨rfl, M1, hp, rfl⟩ := h
    obtain ⟨e0, rfl, hC1, hs1⟩ := post_in hp
    show Q G X _ _ _ _ (.int (oTwo A (fAnc A) x y).2.1 :: _) _
    rw [ancQ_eq]
    refine q_if_eq0 C 15 dL_isAncestor_8 (by decide) (fun hb => ?_) (fun hb => ?_)
    · skip
      refine j_lconst C (v := 0) dL_isAncestor_15 rfl ?_
      refine q_last C rfl (by decide) (by decide) (by decide) dL_isAncestor_16 ?_
      refine j_goto C 24 dL_isAncestor_17 ?_ (by decide)
      refine j_iconst C (v := nI 0) dL_isAncestor_24 rfl ?_
      exact q_iretS C CM rfl (Nat.le_of_ble_eq_true rfl) (Nat.le_of_ble_eq_true rfl) dL_isAncestor_25 (by rw [e0]) (ou_in hC1 hs1 (by rw [ancQ_eq, hb]; rfl) e0)
    · skip
      refine j_lconst C (v := 1) dL_isAncestor_11 rfl ?_
      refine j_goto C 16 dL_isAncestor_12 ?_ (by decide)
      refine q_last C rfl (by decide) (by decide) (by decide) dL_isAncestor_16 ?_
      refine j_goto C 24 dL_isAncestor_17 ?_ (by decide)
      refine j_iconst C (v := nI 0) dL_isAncestor_24 rfl ?_
      exact q_iretS C CM rfl (Nat.le_of_ble_eq_true rfl) (Nat.le_of_ble_eq_true rfl) dL_isAncestor_25 (by rw [e0]) (ou_in hC1 hs1 (by rw [ancQ_eq, hb]; rfl) e0)
  · obtain ⟨rfl, M1, hp, rfl⟩ := h
    obtain ⟨j, hj, hE, hC1, hs1⟩ := post_ex hp
    rcases j with _ | j
    · cases hE
      refine j_catch C CM [] ⟨0, 17, 20, 13⟩ [] rfl (fun z hz => absurd hz List.not_mem_nil) rfl (by decide) lc_L_13 (by decide +kernel) (fun q => ?_)
      show Q G X _ _ 20 _ _ _
      refine j_astore C dL_isAncestor_20 (by decide) rfl ?_
      refine j_iconst C (v := nI 1) dL_isAncestor_22 rfl ?_
      exact q_iretS C CM rfl (Nat.le_of_ble_eq_true rfl) (Nat.le_of_ble_eq_true rfl) dL_isAncestor_23 (by rw [hj]) (ou_ex hC1 hs1 hj (by decide))
    · cases hE
set_option maxHeartbeats 4000000 in
set_option maxRecDepth 100000 in
theorem sp_L_isAncestorByWalking (G : gG) (M : gMem) {A : gSt0} (hA : gAi A) (hB : gAb A) (hC : gRC A M) (x y : Int32) : SpS G mL_isAncestorByWalking (gRm 7 4) [.ref (gb G + 0), .int x, .int y, .ref (gb G + 237)] M (some (.int (nI (oTwo A (fAnc A) x y).1))) (gOu (oTwo A (fAnc A) x y) M) := by
  refine Sp.of (by decide +kernel) (Nat.le_of_ble_eq_true rfl) (fun X C CM => ?_)
  have C : gC G X RL cL_isAncestorByWalking 5 (gRm 7 4) := C
  refine j_aload_n C dL_isAncestorByWalking_0 rfl ?_
  refine j_iconst C (v := nI 0) dL_isAncestorByWalking_1 rfl ?_
  refine j_aload_n C dL_isAncestorByWalking_2 rfl ?_
  refine j_iload_n C dL_isAncestorByWalking_3 rfl ?_
  refine j_iload_n C dL_isAncestorByWalking_4 rfl ?_
  refine j_callV C (sp_X6_isAncestorByWalking G M hA hB hC x y) vX6_isAncestorByWalking.1 vX6_isAncestorByWalking.2.1 vX6_isAncestorByWalking.2.2.1 vX6_isAncestorByWalking.2.2.2.1 lk_L_68 (mk6 G M (o := 0) rfl) (by decide) vX6_isAncestorByWalking.2.2.2.2 rfl rfl (Nat.le_of_ble_eq_true rfl) ⟨⟨(Nat.le_of_ble_eq_true rfl), (Nat.le_of_ble_eq_true rfl)⟩, (Nat.le_of_ble_eq_true rfl), (Nat.le_of_ble_eq_true rfl)⟩ dL_isAncestorByWalking_5 (fun v N1 σ1 h => ?_) (fun E N1 σ1 h => ?_)
  · obtain ⟨rfl, M1, hp, rfl⟩ := h
    obtain ⟨e0, rfl, hC1, hs1⟩ := post_in hp
    show Q G X _ _ _ _ (.int (oTwo A (fAnc A) x y).2.1 :: _) _
    rw [ancQ_eq]
    refine q_if_eq0 C 15 dL_isAncestorByWalking_8 (by decide) (fun hb => ?_) (fun hb => ?_)
    · skip
      refine j_lconst C (v := 0) dL_isAncestorByWalking_15 rfl ?_
      refine q_last C rfl (by decide) (by decide) (by decide) dL_isAncestorByWalking_16 ?_
      refine j_goto C 24 dL_isAncestorByWalking_17 ?_ (by decide)
      refine j_iconst C (v := nI 0) dL_isAncestorByWalking_24 rfl ?_
      exact q_iretS C CM rfl (Nat.le_of_ble_eq_true rfl) (Nat.le_of_ble_eq_true rfl) dL_isAncestorByWalking_25 (by rw [e0]) (ou_in hC1 hs1 (by rw [ancQ_eq, hb]; rfl) e0)
    · skip
      refine j_lconst C (v := 1) dL_isAncestorByWalking_11 rfl ?_
      refine j_goto C 16 dL_isAncestorByWalking_12 ?_ (by decide)
      refine q_last C rfl (by decide) (by decide) (by decide) dL_isAncestorByWalking_16 ?_
      refine j_goto C 24 dL_isAncestorByWalking_17 ?_ (by decide)
      refine j_iconst C (v := nI 0) dL_isAncestorByWalking_24 rfl ?_
      exact q_iretS C CM rfl (Nat.le_of_ble_eq_true rfl) (Nat.le_of_ble_eq_true rfl) dL_isAncestorByWalking_25 (by rw [e0]) (ou_in hC1 hs1 (by rw [ancQ_eq, hb]; rfl) e0)
  · obtain ⟨rfl, M1, hp, rfl⟩ := h
    obtain ⟨j, hj, hE, hC1, hs1⟩ := post_ex hp
    rcases j with _ | j
    · cases hE
      refine j_catch C CM [] ⟨0, 17, 20, 13⟩ [] rfl (fun z hz => absurd hz List.not_mem_nil) rfl (by decide) lc_L_13 (by decide +kernel) (fun q => ?_)
      show Q G X _ _ 20 _ _ _
      refine j_astore C dL_isAncestorByWalking_20 (by decide) rfl ?_
      refine j_iconst C (v := nI 1) dL_isAncestorByWalking_22 rfl ?_
      exact q_iretS C CM rfl (Nat.le_of_ble_eq_true rfl) (Nat.le_of_ble_eq_true rfl) dL_isAncestorByWalking_23 (by rw [hj]) (ou_ex hC1 hs1 hj (by decide))
    · cases hE
set_option maxHeartbeats 4000000 in
set_option maxRecDepth 100000 in
theorem sp_L_base (G : gG) (M : gMem) {A : gSt0} (hA : gAi A) (hB : gAb A) (hC : gRC A M) (x y : Int32) : SpS G mL_base (gRm 7 4) [.ref (gb G + 0), .int x, .int y, .ref (gb G + 237)] M (some (.int (nI (oTwo A (fBase A) x y).1))) (gOu (oTwo A (fBase A) x y) M) := by
  refine Sp.of (by decide +kernel) (Nat.le_of_ble_eq_true rfl) (fun X C CM => ?_)
  have C : gC G X RL cL_base 5 (gRm 7 4) := C
  refine j_aload_n C dL_base_0 rfl ?_
  refine j_iconst C (v := nI 0) dL_base_1 rfl ?_
  refine j_aload_n C dL_base_2 rfl ?_
  refine j_iload_n C dL_base_3 rfl ?_
  refine j_iload_n C dL_base_4 rfl ?_
  refine j_callV C (sp_X6_base G M hA hB hC x y) vX6_base.1 vX6_base.2.1 vX6_base.2.2.1 vX6_base.2.2.2.1 lk_L_71 (mk6 G M (o := 0) rfl) (by decide) vX6_base.2.2.2.2 rfl rfl (Nat.le_of_ble_eq_true rfl) ⟨⟨(Nat.le_of_ble_eq_true rfl), (Nat.le_of_ble_eq_true rfl)⟩, (Nat.le_of_ble_eq_true rfl), (Nat.le_of_ble_eq_true rfl)⟩ dL_base_5 (fun v N1 σ1 h => ?_) (fun E N1 σ1 h => ?_)
  · obtain ⟨rfl, M1, hp, rfl⟩ := h
    obtain ⟨e0, rfl, hC1, hs1⟩ := post_in hp
    show Q G X _ _ _ _ (.int (oTwo A (fBase A) x y).2.1 :: _) _
    refine j_i2l C dL_base_8 ?_
    refine q_last C rfl (by decide) (by decide) (by decide) dL_base_9 ?_
    refine j_goto C 17 dL_base_10 ?_ (by decide)
    refine j_iconst C (v := nI 0) dL_base_17 rfl ?_
    exact q_iretS C CM rfl (Nat.le_of_ble_eq_true rfl) (Nat.le_of_ble_eq_true rfl) dL_base_18 (by rw [e0]) (ou_in hC1 hs1 rfl e0)
  · obtain ⟨rfl, M1, hp, rfl⟩ := h
    obtain ⟨j, hj, hE, hC1, hs1⟩ := post_ex hp
    rcases j with _ | j
    · cases hE
      refine j_catch C CM [] ⟨0, 10, 13, 13⟩ [] rfl (fun z hz => absurd hz List.not_mem_nil) rfl (by decide) lc_L_13 (by decide +kernel) (fun q => ?_)
      show Q G X _ _ 13 _ _ _
      refine j_astore C dL_base_13 (by decide) rfl ?_
      refine j_iconst C (v := nI 1) dL_base_15 rfl ?_
      exact q_iretS C CM rfl (Nat.le_of_ble_eq_true rfl) (Nat.le_of_ble_eq_true rfl) dL_base_16 (by rw [hj]) (ou_ex hC1 hs1 hj (by decide))
    · cases hE
set_option maxHeartbeats 4000000 in
set_option maxRecDepth 100000 in
theorem sp_L_baseByWalking (G : gG) (M : gMem) {A : gSt0} (hA : gAi A) (hB : gAb A) (hC : gRC A M) (x y : Int32) : SpS G mL_baseByWalking (gRm 7 4) [.ref (gb G + 0), .int x, .int y, .ref (gb G + 237)] M (some (.int (nI (oTwo A (fBase A) x y).1))) (gOu (oTwo A (fBase A) x y) M) := by
  refine Sp.of (by decide +kernel) (Nat.le_of_ble_eq_true rfl) (fun X C CM => ?_)
  have C : gC G X RL cL_baseByWalking 5 (gRm 7 4) := C
  refine j_aload_n C dL_baseByWalking_0 rfl ?_
  refine j_iconst C (v := nI 0) dL_baseByWalking_1 rfl ?_
  refine j_aload_n C dL_baseByWalking_2 rfl ?_
  refine j_iload_n C dL_baseByWalking_3 rfl ?_
  refine j_iload_n C dL_baseByWalking_4 rfl ?_
  refine j_callV C (sp_X6_baseByWalking G M hA hB hC x y) vX6_baseByWalking.1 vX6_baseByWalking.2.1 vX6_baseByWalking.2.2.1 vX6_baseByWalking.2.2.2.1 lk_L_74 (mk6 G M (o := 0) rfl) (by decide) vX6_baseByWalking.2.2.2.2 rfl rfl (Nat.le_of_ble_eq_true rfl) ⟨⟨(Nat.le_of_ble_eq_true rfl), (Nat.le_of_ble_eq_true rfl)⟩, (Nat.le_of_ble_eq_true rfl), (Nat.le_of_ble_eq_true rfl)⟩ dL_baseByWalking_5 (fun v N1 σ1 h => ?_) (fun E N1 σ1 h => ?_)
  · obtain ⟨rfl, M1, hp, rfl⟩ := h
    obtain ⟨e0, rfl, hC1, hs1⟩ := post_in hp
    show Q G X _ _ _ _ (.int (oTwo A (fBase A) x y).2.1 :: _) _
    refine j_i2l C dL_baseByWalking_8 ?_
    refine q_last C rfl (by decide) (by decide) (by decide) dL_baseByWalking_9 ?_
    refine j_goto C 17 dL_baseByWalking_10 ?_ (by decide)
    refine j_iconst C (v := nI 0) dL_baseByWalking_17 rfl ?_
    exact q_iretS C CM rfl (Nat.le_of_ble_eq_true rfl) (Nat.le_of_ble_eq_true rfl) dL_baseByWalking_18 (by rw [e0]) (ou_in hC1 hs1 rfl e0)
  · obtain ⟨rfl, M1, hp, rfl⟩ := h
    obtain ⟨j, hj, hE, hC1, hs1⟩ := post_ex hp
    rcases j with _ | j
    · cases hE
      refine j_catch C CM [] ⟨0, 10, 13, 13⟩ [] rfl (fun z hz => absurd hz List.not_mem_nil) rfl (by decide) lc_L_13 (by decide +kernel) (fun q => ?_)
      show Q G X _ _ 13 _ _ _
      refine j_astore C dL_baseByWalking_13 (by decide) rfl ?_
      refine j_iconst C (v := nI 1) dL_baseByWalking_15 rfl ?_
      exact q_iretS C CM rfl (Nat.le_of_ble_eq_true rfl) (Nat.le_of_ble_eq_true rfl) dL_baseByWalking_16 (by rw [hj]) (ou_ex hC1 hs1 hj (by decide))
    · cases hE
set_option maxHeartbeats 4000000 in
set_option maxRecDepth 100000 in
theorem sp_L_bases (G : gG) (M : gMem) {A : gSt0} (hA : gAi A) (hB : gAb A) (hC : gRC A M) (x y : Int32) : SpS G mL_bases (gRm 7 4) [.ref (gb G + 0), .int x, .int y, .ref (gb G + 237)] M (some (.int (nI (oTwo A (fBases A) x y).1))) (gOu (oTwo A (fBases A) x y) M) := by
  refine Sp.of (by decide +kernel) (Nat.le_of_ble_eq_true rfl) (fun X C CM => ?_)
  have C : gC G X RL cL_bases 5 (gRm 7 4) := C
  refine j_aload_n C dL_bases_0 rfl ?_
  refine j_iconst C (v := nI 0) dL_bases_1 rfl ?_
  refine j_aload_n C dL_bases_2 rfl ?_
  refine j_iload_n C dL_bases_3 rfl ?_
  refine j_iload_n C dL_bases_4 rfl ?_
  refine j_callV C (sp_X6_bases G M hA hB hC x y) vX6_bases.1 vX6_bases.2.1 vX6_bases.2.2.1 vX6_bases.2.2.2.1 lk_L_77 (mk6 G M (o := 0) rfl) (by decide) vX6_bases.2.2.2.2 rfl rfl (Nat.le_of_ble_eq_true rfl) ⟨⟨(Nat.le_of_ble_eq_true rfl), (Nat.le_of_ble_eq_true rfl)⟩, (Nat.le_of_ble_eq_true rfl), (Nat.le_of_ble_eq_true rfl)⟩ dL_bases_5 (fun v N1 σ1 h => ?_) (fun E N1 σ1 h => ?_)
  · obtain ⟨rfl, M1, hp, rfl⟩ := h
    obtain ⟨e0, rfl, hC1, hs1⟩ := post_in hp
    show Q G X _ _ _ _ (.int (oTwo A (fBases A) x y).2.1 :: _) _
    refine j_i2l C dL_bases_8 ?_
    refine q_last C rfl (by decide) (by decide) (by decide) dL_bases_9 ?_
    refine j_goto C 17 dL_bases_10 ?_ (by decide)
    refine j_iconst C (v := nI 0) dL_bases_17 rfl ?_
    exact q_iretS C CM rfl (Nat.le_of_ble_eq_true rfl) (Nat.le_of_ble_eq_true rfl) dL_bases_18 (by rw [e0]) (ou_in hC1 hs1 rfl e0)
  · obtain ⟨rfl, M1, hp, rfl⟩ := h
    obtain ⟨j, hj, hE, hC1, hs1⟩ := post_ex hp
    rcases j with _ | j
    · cases hE
      refine j_catch C CM [] ⟨0, 10, 13, 13⟩ [] rfl (fun z hz => absurd hz List.not_mem_nil) rfl (by decide) lc_L_13 (by decide +kernel) (fun q => ?_)
      show Q G X _ _ 13 _ _ _
      refine j_astore C dL_bases_13 (by decide) rfl ?_
      refine j_iconst C (v := nI 1) dL_bases_15 rfl ?_
      exact q_iretS C CM rfl (Nat.le_of_ble_eq_true rfl) (Nat.le_of_ble_eq_true rfl) dL_bases_16 (by rw [hj]) (ou_ex hC1 hs1 hj (by decide))
    · cases hE
set_option maxHeartbeats 4000000 in
set_option maxRecDepth 100000 in
theorem sp_L_movedTo (G : gG) (M : gMem) {A : gSt0} (hA : gAi A) (hB : gAb A) (hC : gRC A M) (x y z : Int32) : SpS G mL_movedTo (gRm 7 4) [.ref (gb G + 0), .int x, .int y, .int z, .ref (gb G + 237)] M (some (.int (nI (oMovedTo A x y z).1))) (gOu (oMovedTo A x y z) M) := by
  refine Sp.of (by decide +kernel) (Nat.le_of_ble_eq_true rfl) (fun X C CM => ?_)
  have C : gC G X RL cL_movedTo 6 (gRm 7 4) := C
  refine j_aload C dL_movedTo_0 rfl ?_
  refine j_iconst C (v := nI 0) dL_movedTo_2 rfl ?_
  refine j_aload_n C dL_movedTo_3 rfl ?_
  refine j_iload_n C dL_movedTo_4 rfl ?_
  refine j_iload_n C dL_movedTo_5 rfl ?_
  refine j_iload_n C dL_movedTo_6 rfl ?_
  refine j_callV C (sp_X6_movedTo G M hA hB hC x y z) vX6_movedTo.1 vX6_movedTo.2.1 vX6_movedTo.2.2.1 vX6_movedTo.2.2.2.1 lk_L_80 (mk6 G M (o := 0) rfl) (by decide) vX6_movedTo.2.2.2.2 rfl rfl (Nat.le_of_ble_eq_true rfl) ⟨⟨(Nat.le_of_ble_eq_true rfl), (Nat.le_of_ble_eq_true rfl)⟩, (Nat.le_of_ble_eq_true rfl), (Nat.le_of_ble_eq_true rfl)⟩ dL_movedTo_7 (fun v N1 σ1 h => ?_) (fun E N1 σ1 h => ?_)
  · obtain ⟨rfl, M1, hp, rfl⟩ := h
    obtain ⟨e0, rfl, hC1, hs1⟩ := post_in hp
    show Q G X _ _ _ _ (.int (oMovedTo A x y z).2.1 :: _) _
    refine j_i2l C dL_movedTo_10 ?_
    refine q_last C rfl (by decide) (by decide) (by decide) dL_movedTo_11 ?_
    refine j_goto C 23 dL_movedTo_12 ?_ (by decide)
    refine j_iconst C (v := nI 0) dL_movedTo_23 rfl ?_
    exact q_iretS C CM rfl (Nat.le_of_ble_eq_true rfl) (Nat.le_of_ble_eq_true rfl) dL_movedTo_24 (by rw [e0]) (ou_in hC1 hs1 rfl e0)
  · obtain ⟨rfl, M1, hp, rfl⟩ := h
    obtain ⟨j, hj, hE, hC1, hs1⟩ := post_ex hp
    rcases j with _ | _ | j
    · cases hE
      refine j_catch C CM [] ⟨0, 12, 15, 13⟩ [⟨0, 12, 19, 21⟩] rfl (fun z hz => absurd hz List.not_mem_nil) rfl (by decide) lc_L_13 (by decide +kernel) (fun q => ?_)
      show Q G X _ _ 15 _ _ _
      refine j_astore C dL_movedTo_15 (by decide) rfl ?_
      refine j_iconst C (v := nI 1) dL_movedTo_17 rfl ?_
      exact q_iretS C CM rfl (Nat.le_of_ble_eq_true rfl) (Nat.le_of_ble_eq_true rfl) dL_movedTo_18 (by rw [hj]) (ou_ex hC1 hs1 hj (by decide))
    · cases hE
      refine j_catch C CM [⟨0, 12, 15, 13⟩] ⟨0, 12, 19, 21⟩ [] rfl (List.forall_mem_cons.mpr ⟨Or.inr ⟨by decide, "java/lang/IndexOutOfBoundsException", lc_L_13, by decide +kernel⟩, fun z hz => absurd hz List.not_mem_nil⟩) rfl (by decide) lc_L_21 (by decide +kernel) (fun q => ?_)
      show Q G X _ _ 19 _ _ _
      refine j_astore C dL_movedTo_19 (by decide) rfl ?_
      refine j_iconst C (v := nI 2) dL_movedTo_21 rfl ?_
      exact q_iretS C CM rfl (Nat.le_of_ble_eq_true rfl) (Nat.le_of_ble_eq_true rfl) dL_movedTo_22 (by rw [hj]) (ou_ex hC1 hs1 hj (by decide))
    · cases hE
set_option maxHeartbeats 4000000 in
set_option maxRecDepth 100000 in
theorem sp_L_conflicts (G : gG) (M : gMem) {A : gSt0} (hA : gAi A) (hB : gAb A) (hC : gRC A M) (x y : Int32) : SpS G mL_conflicts (gRm 7 4) [.ref (gb G + 0), .int x, .int y, .ref (gb G + 237)] M (some (.int (nI (oTwo A (fConf A) x y).1))) (gOu (oTwo A (fConf A) x y) M) := by
  refine Sp.of (by decide +kernel) (Nat.le_of_ble_eq_true rfl) (fun X C CM => ?_)
  have C : gC G X RL cL_conflicts 5 (gRm 7 4) := C
  refine j_aload_n C dL_conflicts_0 rfl ?_
  refine j_iconst C (v := nI 0) dL_conflicts_1 rfl ?_
  refine j_aload_n C dL_conflicts_2 rfl ?_
  refine j_iload_n C dL_conflicts_3 rfl ?_
  refine j_iload_n C dL_conflicts_4 rfl ?_
  refine j_callV C (sp_X6_conflicts G M hA hB hC x y) vX6_conflicts.1 vX6_conflicts.2.1 vX6_conflicts.2.2.1 vX6_conflicts.2.2.2.1 lk_L_84 (mk6 G M (o := 0) rfl) (by decide) vX6_conflicts.2.2.2.2 rfl rfl (Nat.le_of_ble_eq_true rfl) ⟨⟨(Nat.le_of_ble_eq_true rfl), (Nat.le_of_ble_eq_true rfl)⟩, (Nat.le_of_ble_eq_true rfl), (Nat.le_of_ble_eq_true rfl)⟩ dL_conflicts_5 (fun v N1 σ1 h => ?_) (fun E N1 σ1 h => ?_)
  · obtain ⟨rfl, M1, hp, rfl⟩ := h
    obtain ⟨e0, rfl, hC1, hs1⟩ := post_in hp
    show Q G X _ _ _ _ (.int (oTwo A (fConf A) x y).2.1 :: _) _
    refine j_i2l C dL_conflicts_8 ?_
    refine q_last C rfl (by decide) (by decide) (by decide) dL_conflicts_9 ?_
    refine j_goto C 17 dL_conflicts_10 ?_ (by decide)
    refine j_iconst C (v := nI 0) dL_conflicts_17 rfl ?_
    exact q_iretS C CM rfl (Nat.le_of_ble_eq_true rfl) (Nat.le_of_ble_eq_true rfl) dL_conflicts_18 (by rw [e0]) (ou_in hC1 hs1 rfl e0)
  · obtain ⟨rfl, M1, hp, rfl⟩ := h
    obtain ⟨j, hj, hE, hC1, hs1⟩ := post_ex hp
    rcases j with _ | j
    · cases hE
      refine j_catch C CM [] ⟨0, 10, 13, 13⟩ [] rfl (fun z hz => absurd hz List.not_mem_nil) rfl (by decide) lc_L_13 (by decide +kernel) (fun q => ?_)
      show Q G X _ _ 13 _ _ _
      refine j_astore C dL_conflicts_13 (by decide) rfl ?_
      refine j_iconst C (v := nI 1) dL_conflicts_15 rfl ?_
      exact q_iretS C CM rfl (Nat.le_of_ble_eq_true rfl) (Nat.le_of_ble_eq_true rfl) dL_conflicts_16 (by rw [hj]) (ou_ex hC1 hs1 hj (by decide))
    · cases hE
set_option maxHeartbeats 4000000 in
set_option maxRecDepth 100000 in
theorem sp_L_lastChange (G : gG) (M : gMem) {A : gSt0} (hA : gAi A) (hB : gAb A) (hC : gRC A M) (x : Int32) : SpS G mL_lastChange (gRm 7 4) [.ref (gb G + 0), .int x, .ref (gb G + 237)] M (some (.int (nI (oLastChange A x).1))) (gOu (oLastChange A x) M) := by
  refine Sp.of (by decide +kernel) (Nat.le_of_ble_eq_true rfl) (fun X C CM => ?_)
  have C : gC G X RL cL_lastChange 4 (gRm 7 4) := C
  refine j_aload_n C dL_lastChange_0 rfl ?_
  refine j_iconst C (v := nI 0) dL_lastChange_1 rfl ?_
  refine j_aload_n C dL_lastChange_2 rfl ?_
  refine j_iload_n C dL_lastChange_3 rfl ?_
  refine j_callV C (sp_X6_lastChange G M hA hB hC x) vX6_lastChange.1 vX6_lastChange.2.1 vX6_lastChange.2.2.1 vX6_lastChange.2.2.2.1 lk_L_87 (mk6 G M (o := 0) rfl) (by decide) vX6_lastChange.2.2.2.2 rfl rfl (Nat.le_of_ble_eq_true rfl) ⟨⟨(Nat.le_of_ble_eq_true rfl), (Nat.le_of_ble_eq_true rfl)⟩, (Nat.le_of_ble_eq_true rfl), (Nat.le_of_ble_eq_true rfl)⟩ dL_lastChange_4 (fun v N1 σ1 h => ?_) (fun E N1 σ1 h => ?_)
  · obtain ⟨rfl, M1, hp, rfl⟩ := h
    obtain ⟨e0, rfl, hC1, hs1⟩ := post_in hp
    show Q G X _ _ _ _ (.int (oLastChange A x).2.1 :: _) _
    refine j_i2l C dL_lastChange_7 ?_
    refine q_last C rfl (by decide) (by decide) (by decide) dL_lastChange_8 ?_
    refine j_goto C 18 dL_lastChange_9 ?_ (by decide)
    refine j_iconst C (v := nI 0) dL_lastChange_18 rfl ?_
    exact q_iretS C CM rfl (Nat.le_of_ble_eq_true rfl) (Nat.le_of_ble_eq_true rfl) dL_lastChange_19 (by rw [e0]) (ou_in hC1 hs1 rfl e0)
  · obtain ⟨rfl, M1, hp, rfl⟩ := h
    obtain ⟨j, hj, hE, hC1, hs1⟩ := post_ex hp
    rcases j with _ | _ | j
    · cases hE
      refine j_catch C CM [] ⟨0, 9, 12, 13⟩ [⟨0, 9, 15, 21⟩] rfl (fun z hz => absurd hz List.not_mem_nil) rfl (by decide) lc_L_13 (by decide +kernel) (fun q => ?_)
      show Q G X _ _ 12 _ _ _
      refine j_astore_n C dL_lastChange_12 (by decide) rfl ?_
      refine j_iconst C (v := nI 1) dL_lastChange_13 rfl ?_
      exact q_iretS C CM rfl (Nat.le_of_ble_eq_true rfl) (Nat.le_of_ble_eq_true rfl) dL_lastChange_14 (by rw [hj]) (ou_ex hC1 hs1 hj (by decide))
    · cases hE
      refine j_catch C CM [⟨0, 9, 12, 13⟩] ⟨0, 9, 15, 21⟩ [] rfl (List.forall_mem_cons.mpr ⟨Or.inr ⟨by decide, "java/lang/IndexOutOfBoundsException", lc_L_13, by decide +kernel⟩, fun z hz => absurd hz List.not_mem_nil⟩) rfl (by decide) lc_L_21 (by decide +kernel) (fun q => ?_)
      show Q G X _ _ 15 _ _ _
      refine j_astore_n C dL_lastChange_15 (by decide) rfl ?_
      refine j_iconst C (v := nI 2) dL_lastChange_16 rfl ?_
      exact q_iretS C CM rfl (Nat.le_of_ble_eq_true rfl) (Nat.le_of_ble_eq_true rfl) dL_lastChange_17 (by rw [hj]) (ou_ex hC1 hs1 hj (by decide))
    · cases hE
set_option maxHeartbeats 4000000 in
set_option maxRecDepth 100000 in
theorem sp_L_depthOf (G : gG) (M : gMem) {A : gSt0} (hA : gAi A) (hB : gAb A) (hC : gRC A M) (x : Int32) : SpS G mL_depthOf (gRm 7 4) [.ref (gb G + 0), .int x, .ref (gb G + 237)] M (some (.int (nI (oDepthOf A x).1))) (gOu (oDepthOf A x) M) := by
  refine Sp.of (by decide +kernel) (Nat.le_of_ble_eq_true rfl) (fun X C CM => ?_)
  have C : gC G X RL cL_depthOf 4 (gRm 7 4) := C
  refine j_aload_n C dL_depthOf_0 rfl ?_
  refine j_iconst C (v := nI 0) dL_depthOf_1 rfl ?_
  refine j_aload_n C dL_depthOf_2 rfl ?_
  refine j_iload_n C dL_depthOf_3 rfl ?_
  refine j_callV C (sp_X6_depthOf G M hA hB hC x) vX6_depthOf.1 vX6_depthOf.2.1 vX6_depthOf.2.2.1 vX6_depthOf.2.2.2.1 lk_L_90 (mk6 G M (o := 0) rfl) (by decide) vX6_depthOf.2.2.2.2 rfl rfl (Nat.le_of_ble_eq_true rfl) ⟨⟨(Nat.le_of_ble_eq_true rfl), (Nat.le_of_ble_eq_true rfl)⟩, (Nat.le_of_ble_eq_true rfl), (Nat.le_of_ble_eq_true rfl)⟩ dL_depthOf_4 (fun v N1 σ1 h => ?_) (fun E N1 σ1 h => ?_)
  · obtain ⟨rfl, M1, hp, rfl⟩ := h
    obtain ⟨e0, rfl, hC1, hs1⟩ := post_in hp
    show Q G X _ _ _ _ (.int (oDepthOf A x).2.1 :: _) _
    refine j_i2l C dL_depthOf_7 ?_
    refine q_last C rfl (by decide) (by decide) (by decide) dL_depthOf_8 ?_
    refine j_goto C 15 dL_depthOf_9 ?_ (by decide)
    refine j_iconst C (v := nI 0) dL_depthOf_15 rfl ?_
    exact q_iretS C CM rfl (Nat.le_of_ble_eq_true rfl) (Nat.le_of_ble_eq_true rfl) dL_depthOf_16 (by rw [e0]) (ou_in hC1 hs1 rfl e0)
  · obtain ⟨rfl, M1, hp, rfl⟩ := h
    obtain ⟨j, hj, hE, hC1, hs1⟩ := post_ex hp
    rcases j with _ | j
    · cases hE
      refine j_catch C CM [] ⟨0, 9, 12, 21⟩ [] rfl (fun z hz => absurd hz List.not_mem_nil) rfl (by decide) lc_L_21 (by decide +kernel) (fun q => ?_)
      show Q G X _ _ 12 _ _ _
      refine j_astore_n C dL_depthOf_12 (by decide) rfl ?_
      refine j_iconst C (v := nI 1) dL_depthOf_13 rfl ?_
      exact q_iretS C CM rfl (Nat.le_of_ble_eq_true rfl) (Nat.le_of_ble_eq_true rfl) dL_depthOf_14 (by rw [hj]) (ou_ex hC1 hs1 hj (by decide))
    · cases hE
set_option maxHeartbeats 4000000 in
set_option maxRecDepth 100000 in
theorem sp_L_packedFrom (G : gG) (M : gMem) {A : gSt0} (hA : gAi A) (hB : gAb A) (hC : gRC A M) (x : Int32) : SpS G mL_packedFrom (gRm 7 4) [.ref (gb G + 0), .int x, .ref (gb G + 237)] M (some (.int (nI (oPackedFrom A x).1))) (gOu (oPackedFrom A x) M) := by
  refine Sp.of (by decide +kernel) (Nat.le_of_ble_eq_true rfl) (fun X C CM => ?_)
  have C : gC G X RL cL_packedFrom 4 (gRm 7 4) := C
  refine j_aload_n C dL_packedFrom_0 rfl ?_
  refine j_iconst C (v := nI 0) dL_packedFrom_1 rfl ?_
  refine j_aload_n C dL_packedFrom_2 rfl ?_
  refine j_iload_n C dL_packedFrom_3 rfl ?_
  refine j_callV C (sp_X6_packedFrom G M hA hB hC x) vX6_packedFrom.1 vX6_packedFrom.2.1 vX6_packedFrom.2.2.1 vX6_packedFrom.2.2.2.1 lk_L_93 (mk6 G M (o := 0) rfl) (by decide) vX6_packedFrom.2.2.2.2 rfl rfl (Nat.le_of_ble_eq_true rfl) ⟨⟨(Nat.le_of_ble_eq_true rfl), (Nat.le_of_ble_eq_true rfl)⟩, (Nat.le_of_ble_eq_true rfl), (Nat.le_of_ble_eq_true rfl)⟩ dL_packedFrom_4 (fun v N1 σ1 h => ?_) (fun E N1 σ1 h => ?_)
  · obtain ⟨rfl, M1, hp, rfl⟩ := h
    obtain ⟨e0, rfl, hC1, hs1⟩ := post_in hp
    show Q G X _ _ _ _ (.int (oPackedFrom A x).2.1 :: _) _
    refine j_i2l C dL_packedFrom_7 ?_
    refine q_last C rfl (by decide) (by decide) (by decide) dL_packedFrom_8 ?_
    refine j_goto C 15 dL_packedFrom_9 ?_ (by decide)
    refine j_iconst C (v := nI 0) dL_packedFrom_15 rfl ?_
    exact q_iretS C CM rfl (Nat.le_of_ble_eq_true rfl) (Nat.le_of_ble_eq_true rfl) dL_packedFrom_16 (by rw [e0]) (ou_in hC1 hs1 rfl e0)
  · obtain ⟨rfl, M1, hp, rfl⟩ := h
    obtain ⟨j, hj, hE, hC1, hs1⟩ := post_ex hp
    rcases j with _ | j
    · cases hE
      refine j_catch C CM [] ⟨0, 9, 12, 21⟩ [] rfl (fun z hz => absurd hz List.not_mem_nil) rfl (by decide) lc_L_21 (by decide +kernel) (fun q => ?_)
      show Q G X _ _ 12 _ _ _
      refine j_astore_n C dL_packedFrom_12 (by decide) rfl ?_
      refine j_iconst C (v := nI 1) dL_packedFrom_13 rfl ?_
      exact q_iretS C CM rfl (Nat.le_of_ble_eq_true rfl) (Nat.le_of_ble_eq_true rfl) dL_packedFrom_14 (by rw [hj]) (ou_ex hC1 hs1 hj (by decide))
    · cases hE
