def gRq (A : gSt0) (M : gMem) (v : Int32) : gEnd → gMem → Prop := fun r M2 => M2 = M ∧ ((inB v 5 = none ∧ r = .inr "java/lang/IndexOutOfBoundsException") ∨ ∃ b, inB v 5 = some b ∧ ((aH A b = none ∧ r = .inr "java/util/NoSuchElementException") ∨ ∃ h, aH A b = some h ∧ r = .inl (some (.int (nI h)))))
theorem rqh_v {A : gSt0} {M M' : gMem} {v : Int32} {w : Option Value} (h : gRq A M v (.inl w) M') : M = M' ∧ ∃ b h, inB v 5 = some b ∧ b < 5 ∧ v = nI b ∧ aH A b = some h ∧ w = some (.int (nI h)) := by
  obtain ⟨h1, ⟨-, h2⟩ | ⟨b, h2, ⟨-, h3⟩ | ⟨h, h3, h4⟩⟩⟩ := h
  · cases h2
  · cases h3
  · exact ⟨h1.symm, b, h, h2, (inB_some (by decide) h2).2, (inB_some (by decide) h2).1, h3, Sum.inl.inj h4⟩
theorem rqh_x {A : gSt0} {M M' : gMem} {v : Int32} {E : String} (h : gRq A M v (.inr E) M') : M = M' ∧ ((inB v 5 = none ∧ E = "java/lang/IndexOutOfBoundsException") ∨ ∃ b, inB v 5 = some b ∧ aH A b = none ∧ E = "java/util/NoSuchElementException") := by
  obtain ⟨h1, ⟨h3, h2⟩ | ⟨b, h2, ⟨h4, h3⟩ | ⟨h, h3, h4⟩⟩⟩ := h
  · exact ⟨h1.symm, Or.inl ⟨h3, Sum.inr.inj h2⟩⟩
  · exact ⟨h1.symm, Or.inr ⟨b, h2, h4, Sum.inr.inj h3⟩⟩
  · cases h4
def gRn (A : gSt0) (M : gMem) : gEnd → gMem → Prop := fun r M2 => M2 = M ∧ ((chgA A = 0 ∧ r = .inl none) ∨ (¬ chgA A = 0 ∧ r = .inr "java/lang/IllegalStateException"))
theorem rqn_v {A : gSt0} {M M' : gMem} {w : Option Value} (h : gRn A M (.inl w) M') : M = M' ∧ chgA A = 0 ∧ w = none := by
  obtain ⟨h1, ⟨h3, h2⟩ | ⟨h3, h2⟩⟩ := h
  · exact ⟨h1.symm, h3, Sum.inl.inj h2⟩
  · cases h2
theorem rqn_x {A : gSt0} {M M' : gMem} {E : String} (h : gRn A M (.inr E) M') : M = M' ∧ ¬ chgA A = 0 ∧ E = "java/lang/IllegalStateException" := by
  obtain ⟨h1, ⟨h3, h2⟩ | ⟨h3, h2⟩⟩ := h
  · cases h2
  · exact ⟨h1.symm, h3, Sum.inr.inj h2⟩
theorem sp_has (G : gG) (M : gMem) {n : Nat} (hn : M.2.2.1 1 7 = nI n) (h60 : n ≤ 60) (v : Int32) : SpR G mX1_has (gRm 0 0) [.ref (gb G + 1), .int v] M (some (.int (bI (inB v n).isSome))) M := by
  by_cases h : v < 0
  · rw [inB_neg h]
    exact sp_X1_has_n G M v h
  · obtain ⟨h1, h2⟩ := nI_back h
    have e : (inB v n).isSome = decide (v.toNatClampNeg < n) := by
      by_cases c : v.toNatClampNeg < n
      · rw [← h1, inB_nI (by omega) (by exact c), nI_clamp h2, decide_eq_true c]; rfl
      · rw [inB_big h (fun q => c (by rw [← h1] at q; exact (nI_ltI h2 (by omega)).mp q)), decide_eq_false c]; rfl
    have := sp_X1_has G M hn h60 h2
    rw [h1] at this
    rw [e]
    exact this
theorem mk_cases (A : gSt0) (t : Nat → Option Nat) (f : Nat) (s : Option Nat) : (mkA A t f s = A ∧ (mkO A t f s = none → aN A = 60 ∧ firstN (sameB A t f s) (aN A) = none)) ∨ (mkA A t f s = addA A t f s ∧ mkO A t f s = some (aN A) ∧ ¬ aN A = 60 ∧ firstN (sameB A t f s) (aN A) = none) := by
  unfold mkA mkO
  cases e : firstN (sameB A t f s) (aN A) with
  | some c => exact Or.inl ⟨rfl, fun h => by cases h⟩
  | none =>
    by_cases h6 : aN A = 60
    · exact Or.inl ⟨if_pos h6, fun _ => ⟨h6, rfl⟩⟩
    · exact Or.inr ⟨if_neg h6, if_neg h6, h6, rfl⟩
theorem mk_none {A : gSt0} {t : Nat → Option Nat} {f : Nat} {s : Option Nat} (h : mkO A t f s = none) : mkA A t f s = A := by
  rcases mk_cases A t f s with h1 | h1
  · exact h1.1
  · rw [h1.2.1] at h; cases h
theorem mk_same (A : gSt0) (t : Nat → Option Nat) (f : Nat) (s : Option Nat) : aH (mkA A t f s) = aH A ∧ aC (mkA A t f s) = aC A ∧ aW (mkA A t f s) = aW A ∧ ∀ c, c < aN A → aT (mkA A t f s) c = aT A c := by
  rcases mk_cases A t f s with h1 | h1
  · rw [h1.1]
    exact ⟨rfl, rfl, rfl, fun _ _ => rfl⟩
  · rw [h1.1]
    exact ⟨rfl, rfl, rfl, fun c hc => if_neg (by omega)⟩
theorem rp_mk {A : gSt0} {M : gMem} (t : Nat → Option Nat) (f : Nat) (s : Option Nat) (h : gRp A (aN A) M) : gRp (mkA A t f s) (aN A) M := by
  have e : ∀ j, j ≤ aN A → pkN (aT (mkA A t f s)) j = pkN (aT A) j := fun j hj => pkN_congr (fun c hc => (mk_same A t f s).2.2.2 c (Nat.lt_of_lt_of_le hc hj))
  obtain ⟨h0, j, h1, h2, h3⟩ := h
  exact ⟨by rw [e _ (Nat.le_refl _)]; exact h0, j, h1, by rw [e _ h1, e _ (Nat.le_refl _)]; exact h2, h3⟩
theorem rc_setH {A : gSt0} {M : gMem} {b h : Nat} (hA : gAi A) (hC : gRC A M) : gRC (setH A (uO (aH A) b (some h))) (sI M 154 (upd (M.1 154) b (nI h))) := by
  refine ⟨rh_k (A := setH A (uO (aH A) b (some h))) hA hC.1 ⟨fun o ho => sI_n _ _ (by omega), rfl, rfl⟩, ⟨fun c hc => ?_, hC.2.1.2.1, fun p hp => ?_⟩, rp_k hC.2.2 ⟨fun o ho => sI_n _ _ (by omega), rfl, rfl, rfl⟩⟩
  · rw [sI_s]
    show _ = oI (uO (aH A) b (some h) c)
    by_cases e : c = b
    · rw [e, upd_s, uO_s]; rfl
    · rw [upd_n _ _ e, uO_n _ _ e]; exact hC.2.1.1 c hc
  · rw [sI_n _ _ (by decide)]
    exact hC.2.1.2.2 p hp
theorem rc_check {A : gSt0} {M : gMem} {b h : Nat} (hA : gAi A) (hC : gRC A M) (hh : h < aN A) : gRC (setW (setC A b) (aT A h)) (sI (sF M 0 6 (nI b)) 153 (cpF ((sF M 0 6 (nI b)).1 (10 + 2 * h + 1)) ((sF M 0 6 (nI b)).1 153) 8)) := by
  refine ⟨rh_k (A := setW (setC A b) (aT A h)) hA hC.1 ⟨fun o ho => sI_n _ _ (by omega), rfl, ?_⟩, ⟨fun c hc => ?_, sF_at _ _ _ _, fun p hp => ?_⟩, rp_k hC.2.2 ⟨fun o ho => sI_n _ _ (by omega), rfl, ?_, ?_⟩⟩
  · exact sF_ne _ _ (by decide)
  · rw [sI_n _ _ (by decide)]
    exact hC.2.1.1 c hc
  · rw [sI_s, cpF_lt hp]
    exact hC.1.2.2 h hh p hp
  · exact sF_ne _ _ (by decide)
  · exact sF_ne _ _ (by decide)
theorem cls_check (M : gMem) (b : Nat) (f : Nat → Int32) : gCls M (sI (sF M 0 6 (nI b)) 153 f) := cls_trans (cls_sF M 6 _ (by decide)) (cls_sI _ f (by decide))
set_option maxHeartbeats 4000000 in
set_option maxRecDepth 100000 in
theorem sp_X6_write (G : gG) (M : gMem) {A : gSt0} (hA : gAi A) (hB : gAb A) (hC : gRC A M) (x y : Int32) : SpO G mX6_write (gRm 2 2) [.ref (gb G + 0), .int x, .int y] M (gPost ["java/lang/IndexOutOfBoundsException", "java/lang/IllegalArgumentException"] (oWrite A x y) M) := by
  refine Sp.of (by decide +kernel) (Nat.le_of_ble_eq_true rfl) (fun X C CM => ?_)
  have C : gC G X RX6 cX6_write 4 (gRm 2 2) := C
  refine j_iload_n C dX6_write_0 rfl ?_
  refine q_callSO C CM rfl (sp_X6_requirePath G M x) vX6_requirePath lk_X6_48 rfl rfl (Nat.le_of_ble_eq_true rfl) (by decide) (by decide) (by decide) dX6_write_1 (fun w1 M1 w => ?_) (fun E M1 w => by obtain ⟨rfl, h0, rfl⟩ := ask_x w; exact post_no (k := 0) (by simp only [oWrite, h0]) rfl hC (cls_refl _))
  obtain ⟨rfl, p, hp, rfl⟩ := ask_v w
  obtain ⟨rfl, hp8⟩ := inB_some (by decide) hp
  refine j_iload_n C dX6_write_4 rfl ?_
  refine j_if_lt C 15 dX6_write_5 (fun h5 => ?_) (fun h5 => ?_) (by decide)
  · exact j_throw (text := "the content is out of range") C CM rfl (by decide +kernel) (by decide +kernel) lc_X6_52 z_IllegalArgumentException (by decide) xg_IAE xn_IAE (by decide) (xo_IAE 52) dX6_write_15 dX6_write_18 dX6_write_19 dX6_write_21 dX6_write_24 (by decide) (by decide) (by decide) (by decide) (by decide) (by decide) ⟨rfl, M, post_no (k := 1) (by simp only [oWrite, hp, show inB y 10000 = none from by first | exact inB_neg h5 | exact inB_big h5 h12]) rfl hC (cls_refl _), rfl⟩
  · refine j_iload_n C dX6_write_8 rfl ?_
    refine j_sipush C (v := nI 10000) dX6_write_9 rfl ?_
    refine j_icmp_lt C 25 dX6_write_12 (fun h12 => ?_) (fun h12 => ?_) (by decide)
    · obtain ⟨c, hc, rfl, hc4⟩ := inB_lt (n := 10000) (by decide) h5 h12
      refine j_aload_n C dX6_write_25 rfl ?_
      refine q_get C fX6 3 rfl (by decide) (by decide) lf_X6_33 rfl rfl dX6_write_26 ?_
      refine j_iload_n C dX6_write_29 rfl ?_
      refine q_callV C (sp_X4_at G M gTr_153 hp8) vX4_at lk_X6_59 (gTr_153).1 (gTr_lt (gTr_153)) rfl rfl (Nat.le_of_ble_eq_true rfl) (by decide) dX6_write_30 ?_
      rw [hC.2.1.2.2 p hp8]
      refine j_istore_n C dX6_write_33 (by decide) rfl ?_
      refine j_aload_n C dX6_write_34 rfl ?_
      refine q_get C fX6 3 rfl (by decide) (by decide) lf_X6_33 rfl rfl dX6_write_35 ?_
      refine j_iload_n C dX6_write_38 rfl ?_
      refine j_iload_n C dX6_write_39 rfl ?_
      refine q_callV C (sp_X4_put G M gTr_153 hp8) vX4_put lk_X6_63 (gTr_153).1 (gTr_lt (gTr_153)) rfl rfl (Nat.le_of_ble_eq_true rfl) (by decide) dX6_write_40 ?_
      refine j_iload_n C dX6_write_43 rfl ?_
      exact q_iretO C CM rfl (by decide) (by decide) dX6_write_44 (post_ok (by simp only [oWrite, hp, hc]) (rc_put (o := some c) hA hC) (cls_sI M _ (by decide)))
    · exact j_throw (text := "the content is out of range") C CM rfl (by decide +kernel) (by decide +kernel) lc_X6_52 z_IllegalArgumentException (by decide) xg_IAE xn_IAE (by decide) (xo_IAE 52) dX6_write_15 dX6_write_18 dX6_write_19 dX6_write_21 dX6_write_24 (by decide) (by decide) (by decide) (by decide) (by decide) (by decide) ⟨rfl, M, post_no (k := 1) (by simp only [oWrite, hp, show inB y 10000 = none from by first | exact inB_neg h5 | exact inB_big h5 h12]) rfl hC (cls_refl _), rfl⟩
set_option maxHeartbeats 4000000 in
set_option maxRecDepth 100000 in
theorem sp_X6_erase (G : gG) (M : gMem) {A : gSt0} (hA : gAi A) (hB : gAb A) (hC : gRC A M) (x : Int32) : SpO G mX6_erase (gRm 2 2) [.ref (gb G + 0), .int x] M (gPost ["java/lang/IndexOutOfBoundsException", "java/util/NoSuchElementException"] (oErase A x) M) := by
  refine Sp.of (by decide +kernel) (Nat.le_of_ble_eq_true rfl) (fun X C CM => ?_)
  have C : gC G X RX6 cX6_erase 3 (gRm 2 2) := C
  refine j_iload_n C dX6_erase_0 rfl ?_
  refine q_callSO C CM rfl (sp_X6_requirePath G M x) vX6_requirePath lk_X6_48 rfl rfl (Nat.le_of_ble_eq_true rfl) (by decide) (by decide) (by decide) dX6_erase_1 (fun w1 M1 w => ?_) (fun E M1 w => by obtain ⟨rfl, h0, rfl⟩ := ask_x w; exact post_no (k := 0) (by simp only [oErase, h0]) rfl hC (cls_refl _))
  obtain ⟨rfl, p, hp, rfl⟩ := ask_v w
  obtain ⟨rfl, hp8⟩ := inB_some (by decide) hp
  refine j_aload_n C dX6_erase_4 rfl ?_
  refine q_get C fX6 3 rfl (by decide) (by decide) lf_X6_33 rfl rfl dX6_erase_5 ?_
  refine j_iload_n C dX6_erase_8 rfl ?_
  refine q_callSO C CM rfl (sp_X6_requireFile G M gTr_153 hC.2.1.2.2 hB.2.2.2 hp8) vX6_requireFile lk_X6_67 rfl rfl (Nat.le_of_ble_eq_true rfl) (by decide) (by decide) (by decide) dX6_erase_9 (fun w9 M9 w => ?_) (fun E M9 w => by obtain ⟨rfl, h0, rfl⟩ := ask_x w; exact post_no (k := 1) (by simp only [oErase, hp, h0]) rfl hC (cls_refl _))
  obtain ⟨rfl, c, hc, rfl⟩ := ask_v w
  refine j_istore_n C dX6_erase_12 (by decide) rfl ?_
  refine j_aload_n C dX6_erase_13 rfl ?_
  refine q_get C fX6 3 rfl (by decide) (by decide) lf_X6_33 rfl rfl dX6_erase_14 ?_
  refine j_iload_n C dX6_erase_17 rfl ?_
  refine j_iconst C (v := -1) dX6_erase_18 rfl ?_
  refine q_callV C (sp_X4_put G M gTr_153 hp8) vX4_put lk_X6_63 (gTr_153).1 (gTr_lt (gTr_153)) rfl rfl (Nat.le_of_ble_eq_true rfl) (by decide) dX6_erase_19 ?_
  refine j_iload_n C dX6_erase_22 rfl ?_
  exact q_iretO C CM rfl (by decide) (by decide) dX6_erase_23 (post_ok (by simp only [oErase, hp, hc]) (rc_put (o := none) hA hC) (cls_sI M _ (by decide)))
set_option maxHeartbeats 4000000 in
set_option maxRecDepth 100000 in
theorem sp_X6_move (G : gG) (M : gMem) {A : gSt0} (hA : gAi A) (hB : gAb A) (hC : gRC A M) (x y : Int32) : SpO G mX6_move (gRm 2 4) [.ref (gb G + 0), .int x, .int y] M (gPost ["java/lang/IndexOutOfBoundsException", "java/util/NoSuchElementException", "java/lang/IllegalStateException"] (oMove A x y) M) := by
  refine Sp.of (by decide +kernel) (Nat.le_of_ble_eq_true rfl) (fun X C CM => ?_)
  have C : gC G X RX6 cX6_move 4 (gRm 2 4) := C
  refine j_iload_n C dX6_move_0 rfl ?_
  refine q_callSO C CM rfl (sp_X6_requirePath G M x) vX6_requirePath lk_X6_48 rfl rfl (Nat.le_of_ble_eq_true rfl) (by decide) (by decide) (by decide) dX6_move_1 (fun w1 M1 w => ?_) (fun E M1 w => by obtain ⟨rfl, h0, rfl⟩ := ask_x w; exact post_no (k := 0) (by simp only [oMove, h0]) rfl hC (cls_refl _))
  obtain ⟨rfl, p, hp, rfl⟩ := ask_v w
  obtain ⟨rfl, hp8⟩ := inB_some (by decide) hp
  refine j_iload_n C dX6_move_4 rfl ?_
  refine q_callSO C CM rfl (sp_X6_requirePath G M y) vX6_requirePath lk_X6_48 rfl rfl (Nat.le_of_ble_eq_true rfl) (by decide) (by decide) (by decide) dX6_move_5 (fun w5 M5 w => ?_) (fun E M5 w => by obtain ⟨rfl, h0, rfl⟩ := ask_x w; exact post_no (k := 0) (by simp only [oMove, hp, h0]) rfl hC (cls_refl _))
  obtain ⟨rfl, q, hq, rfl⟩ := ask_v w
  obtain ⟨rfl, hq8⟩ := inB_some (by decide) hq
  refine j_aload_n C dX6_move_8 rfl ?_
  refine q_get C fX6 3 rfl (by decide) (by decide) lf_X6_33 rfl rfl dX6_move_9 ?_
  refine j_iload_n C dX6_move_12 rfl ?_
  refine q_callSO C CM rfl (sp_X6_requireFile G M gTr_153 hC.2.1.2.2 hB.2.2.2 hp8) vX6_requireFile lk_X6_67 rfl rfl (Nat.le_of_ble_eq_true rfl) (by decide) (by decide) (by decide) dX6_move_13 (fun w13 M13 w => ?_) (fun E M13 w => by obtain ⟨rfl, h0, rfl⟩ := ask_x w; exact post_no (k := 1) (by simp only [oMove, hp, hq, h0]) rfl hC (cls_refl _))
  obtain ⟨rfl, c, hc, rfl⟩ := ask_v w
  refine j_istore_n C dX6_move_16 (by decide) rfl ?_
  refine j_aload_n C dX6_move_17 rfl ?_
  refine q_get C fX6 3 rfl (by decide) (by decide) lf_X6_33 rfl rfl dX6_move_18 ?_
  refine j_iload_n C dX6_move_21 rfl ?_
  refine q_callV C (sp_X4_at G M gTr_153 hq8) vX4_at lk_X6_59 (gTr_153).1 (gTr_lt (gTr_153)) rfl rfl (Nat.le_of_ble_eq_true rfl) (by decide) dX6_move_22 ?_
  rw [hC.2.1.2.2 q hq8]
  refine j_iconst C (v := -1) dX6_move_25 rfl ?_
  refine q_icmp_eqN C 39 dX6_move_26 (by decide) (nI_lt8 hB.2.2.2 hq8) (fun h26 => ?_) (fun v26 h26 => ?_)
  · refine j_aload_n C dX6_move_39 rfl ?_
    refine q_get C fX6 3 rfl (by decide) (by decide) lf_X6_33 rfl rfl dX6_move_40 ?_
    refine j_iload_n C dX6_move_43 rfl ?_
    refine j_iconst C (v := -1) dX6_move_44 rfl ?_
    refine q_callV C (sp_X4_put G M gTr_153 hp8) vX4_put lk_X6_63 (gTr_153).1 (gTr_lt (gTr_153)) rfl rfl (Nat.le_of_ble_eq_true rfl) (by decide) dX6_move_45 ?_
    refine j_aload_n C dX6_move_48 rfl ?_
    refine q_get C fX6 3 rfl (by decide) (by decide) lf_X6_33 rfl rfl dX6_move_49 ?_
    refine j_iload_n C dX6_move_52 rfl ?_
    refine j_iload_n C dX6_move_53 rfl ?_
    refine q_callV C (sp_X4_put G _ gTr_153 hq8) vX4_put lk_X6_63 (gTr_153).1 (gTr_lt (gTr_153)) rfl rfl (Nat.le_of_ble_eq_true rfl) (by decide) dX6_move_54 ?_
    refine j_iload_n C dX6_move_57 rfl ?_
    exact q_iretO C CM rfl (by decide) (by decide) dX6_move_58 (post_ok (by simp only [oMove, hp, hq, hc, h26]; rfl) (rc_put (A := setW A (uO (aW A) p none)) (o := some c) hA (rc_put (o := none) hA hC)) (cls_trans (cls_sI M _ (by decide)) (cls_sI _ _ (by decide))))
  · exact j_throw (text := "there is a file with the other path") C CM rfl (by decide +kernel) (by decide +kernel) lc_X6_71 z_IllegalStateException (by decide) xg_ISE xn_ISE (by decide) (xo_ISE 71) dX6_move_29 dX6_move_32 dX6_move_33 dX6_move_35 dX6_move_38 (by decide) (by decide) (by decide) (by decide) (by decide) (by decide) ⟨rfl, M, post_no (k := 2) (by simp only [oMove, hp, hq, hc, h26]) rfl hC (cls_refl _), rfl⟩
set_option maxHeartbeats 4000000 in
set_option maxRecDepth 100000 in
theorem sp_X6_content (G : gG) (M : gMem) {A : gSt0} (hA : gAi A) (hB : gAb A) (hC : gRC A M) (x : Int32) : SpO G mX6_content (gRm 2 2) [.ref (gb G + 0), .int x] M (gPost ["java/lang/IndexOutOfBoundsException", "java/util/NoSuchElementException"] (oContent A x) M) := by
  refine Sp.of (by decide +kernel) (Nat.le_of_ble_eq_true rfl) (fun X C CM => ?_)
  have C : gC G X RX6 cX6_content 2 (gRm 2 2) := C
  refine j_iload_n C dX6_content_0 rfl ?_
  refine q_callSO C CM rfl (sp_X6_requirePath G M x) vX6_requirePath lk_X6_48 rfl rfl (Nat.le_of_ble_eq_true rfl) (by decide) (by decide) (by decide) dX6_content_1 (fun w1 M1 w => ?_) (fun E M1 w => by obtain ⟨rfl, h0, rfl⟩ := ask_x w; exact post_no (k := 0) (by simp only [oContent, h0]) rfl hC (cls_refl _))
  obtain ⟨rfl, p, hp, rfl⟩ := ask_v w
  obtain ⟨rfl, hp8⟩ := inB_some (by decide) hp
  refine j_aload_n C dX6_content_4 rfl ?_
  refine q_get C fX6 3 rfl (by decide) (by decide) lf_X6_33 rfl rfl dX6_content_5 ?_
  refine j_iload_n C dX6_content_8 rfl ?_
  refine q_callSO C CM rfl (sp_X6_requireFile G M gTr_153 hC.2.1.2.2 hB.2.2.2 hp8) vX6_requireFile lk_X6_67 rfl rfl (Nat.le_of_ble_eq_true rfl) (by decide) (by decide) (by decide) dX6_content_9 (fun w9 M9 w => ?_) (fun E M9 w => by obtain ⟨rfl, h0, rfl⟩ := ask_x w; exact post_no (k := 1) (by simp only [oContent, hp, h0]) rfl hC (cls_refl _))
  obtain ⟨rfl, c, hc, rfl⟩ := ask_v w
  exact q_iretO C CM rfl (by decide) (by decide) dX6_content_12 (post_ok (by simp only [oContent, hp, hc]) hC (cls_refl _))
set_option maxHeartbeats 4000000 in
set_option maxRecDepth 100000 in
theorem sp_X6_commit (G : gG) (M : gMem) {A : gSt0} (hA : gAi A) (hB : gAb A) (hC : gRC A M) : SpO G mX6_commit (gRm 4 1) [.ref (gb G + 0)] M (gPost ["java/lang/IllegalStateException"] (oCommit A) M) := by
  refine Sp.of (by decide +kernel) (Nat.le_of_ble_eq_true rfl) (fun X C CM => ?_)
  have C : gC G X RX6 cX6_commit 2 (gRm 4 1) := C
  refine j_aload_n C dX6_commit_0 rfl ?_
  refine q_callV C (sp_X6_changedPaths G M hA hB hC.1 hC.2.1) vX6_changedPaths lk_X6_87 rfl (by decide) rfl rfl (Nat.le_of_ble_eq_true rfl) (by decide) dX6_commit_1 ?_
  refine q_ifz_ne C 17 dX6_commit_4 (by decide) (chg_lt2 A) (fun h4 => ?_) (fun h4 => ?_)
  · refine j_aload_n C dX6_commit_17 rfl ?_
    refine q_get C fX6 0 rfl (by decide) (by decide) lf_X6_10 rfl rfl dX6_commit_18 ?_
    refine j_aload_n C dX6_commit_21 rfl ?_
    refine q_get C fX6 3 rfl (by decide) (by decide) lf_X6_33 rfl rfl dX6_commit_22 ?_
    refine j_aload_n C dX6_commit_25 rfl ?_
    refine j_aload_n C dX6_commit_26 rfl ?_
    refine q_get C fX6 6 rfl (by decide) (by decide) lf_X6_44 rfl rfl dX6_commit_27 ?_
    rw [hC.2.1.2.1]
    refine q_callV C (sp_X6_headOf G M hC.2.1 hB.1) vX6_headOf lk_X6_76 rfl (by decide) rfl rfl (Nat.le_of_ble_eq_true rfl) (by decide) dX6_commit_30 ?_
    have hd := ab_hd hB
    rw [hd.1, show oI (some (aHd A)) = nI (aHd A) from rfl]
    refine j_iconst C (v := -1) dX6_commit_33 rfl ?_
    refine q_callVS C (sp_record G M (a := 152) (s := none) hA hC.1 gTr_153 (by decide) hC.2.1.2.2 hB.2.2.2 hd.2 (fun q h => by cases h)) vX1_record lk_X6_93 rfl (by decide) rfl rfl (Nat.le_of_ble_eq_true rfl) (by decide) dX6_commit_34 (fun M2 hM2 => ?_)
    have hk := mk_ai (s := none) hA hB.2.2.2 hd.2 (fun q h => by cases h)
    have hsm := mk_same A (aW A) (aHd A) none
    refine j_istore_n C dX6_commit_37 (by decide) rfl ?_
    refine j_iload_n C dX6_commit_38 rfl ?_
    refine j_iconst C (v := -1) dX6_commit_39 rfl ?_
    refine q_icmp_neN C 53 dX6_commit_40 (by decide) (fun v hv => by have := hk.2.2 v hv; have := hk.1.1.2; omega) (fun v40 h40 => ?_) (fun h40 => ?_)
    · rw [h40, show oI (some v40) = nI v40 from rfl]
      refine j_aload_n C dX6_commit_53 rfl ?_
      refine j_iload_n C dX6_commit_54 rfl ?_
      refine q_callVS C (sp_X6_takeAsHead G M2 (A := (mkA A (aW A) (aHd A) none)) hk.1 (by rw [hsm.2.1]; exact hB.1) hM2.1 (fun b hb => by rw [hsm.1]; exact (rb_k hC.2.1 hM2.2.1).1 b hb) (by rw [hsm.2.1]; exact (rb_k hC.2.1 hM2.2.1).2.1) hk.2.1 (rp_mk _ _ _ (rp_k hC.2.2 hM2.2.2.1)) (hk.2.2 _ h40)) vX6_takeAsHead lk_X6_99 rfl (by decide) rfl rfl (Nat.le_of_ble_eq_true rfl) (by decide) dX6_commit_55 (fun M3 hM3 => ?_)
      refine j_iload_n C dX6_commit_58 rfl ?_
      exact q_iretO C CM rfl (by decide) (by decide) dX6_commit_59 (post_ok (by simp only [oCommit, h40, if_neg (show ¬ chgA A = 0 by omega)]) hM3.1 (cls_trans hM2.2.2.2 hM3.2))
    · exact j_throw (text := "no further commit has room") C CM rfl (by decide +kernel) (by decide +kernel) lc_X6_71 z_IllegalStateException (by decide) xg_ISE xn_ISE (by decide) (xo_ISE 71) dX6_commit_43 dX6_commit_46 dX6_commit_47 dX6_commit_49 dX6_commit_52 (by decide) (by decide) (by decide) (by decide) (by decide) (by decide) ⟨rfl, M2, post_no (k := 0) (A := A) (by simp only [oCommit, h40, if_neg (show ¬ chgA A = 0 by omega)]) rfl ⟨by have := hM2.1; rw [mk_none h40] at this; exact this, rb_k hC.2.1 hM2.2.1, rp_k hC.2.2 hM2.2.2.1⟩ hM2.2.2.2, rfl⟩
  · exact j_throw (text := "the work tree has no changes") C CM rfl (by decide +kernel) (by decide +kernel) lc_X6_71 z_IllegalStateException (by decide) xg_ISE xn_ISE (by decide) (xo_ISE 71) dX6_commit_7 dX6_commit_10 dX6_commit_11 dX6_commit_13 dX6_commit_16 (by decide) (by decide) (by decide) (by decide) (by decide) (by decide) ⟨rfl, M, post_no (k := 0) (by simp only [oCommit, h4, if_true]) rfl hC (cls_refl _), rfl⟩
set_option maxHeartbeats 4000000 in
set_option maxRecDepth 100000 in
theorem sp_X6_branch (G : gG) (M : gMem) {A : gSt0} (hA : gAi A) (hB : gAb A) (hC : gRC A M) (x : Int32) : SpO G mX6_branch (gRm 2 1) [.ref (gb G + 0), .int x] M (gPost ["java/lang/IndexOutOfBoundsException", "java/lang/IllegalStateException"] (oBranch A x) M) := by
  refine Sp.of (by decide +kernel) (Nat.le_of_ble_eq_true rfl) (fun X C CM => ?_)
  have C : gC G X RX6 cX6_branch 2 (gRm 2 1) := C
  refine j_iload_n C dX6_branch_0 rfl ?_
  refine q_callS C (sp_X6_isBranchNumber G M x) vX6_isBranchNumber lk_X6_102 rfl rfl (Nat.le_of_ble_eq_true rfl) (by decide) dX6_branch_1 ?_
  refine q_if_ne0 C 17 dX6_branch_4 (by decide) (fun h4 => ?_) (fun h4 => ?_)
  · obtain ⟨b, hb, rfl, hb5⟩ := inB_is (n := 5) (by decide) h4
    refine j_aload_n C dX6_branch_17 rfl ?_
    refine q_get C fX6 4 rfl (by decide) (by decide) lf_X6_37 rfl rfl dX6_branch_18 ?_
    refine j_iload_n C dX6_branch_21 rfl ?_
    refine q_iald C rfl (by decide) (by decide) (by omega) dX6_branch_22 ?_
    rw [hC.2.1.1 b hb5]
    refine j_iconst C (v := -1) dX6_branch_23 rfl ?_
    refine q_icmp_eqN C 37 dX6_branch_24 (by decide) (hd_lt hA hB hb5) (fun h24 => ?_) (fun v24 h24 => ?_)
    · refine j_aload_n C dX6_branch_37 rfl ?_
      refine q_get C fX6 4 rfl (by decide) (by decide) lf_X6_37 rfl rfl dX6_branch_38 ?_
      refine j_iload_n C dX6_branch_41 rfl ?_
      refine j_aload_n C dX6_branch_42 rfl ?_
      refine j_aload_n C dX6_branch_43 rfl ?_
      refine q_get C fX6 6 rfl (by decide) (by decide) lf_X6_44 rfl rfl dX6_branch_44 ?_
      rw [hC.2.1.2.1]
      refine q_callV C (sp_X6_headOf G M hC.2.1 hB.1) vX6_headOf lk_X6_76 rfl (by decide) rfl rfl (Nat.le_of_ble_eq_true rfl) (by decide) dX6_branch_47 ?_
      rw [(ab_hd hB).1, show oI (some (aHd A)) = nI (aHd A) from rfl]
      refine q_iast C rfl (by decide) (by decide) (by omega) dX6_branch_50 ?_
      refine j_aload_n C dX6_branch_51 rfl ?_
      refine q_get C fX6 4 rfl (by decide) (by decide) lf_X6_37 rfl rfl dX6_branch_52 ?_
      refine j_iload_n C dX6_branch_55 rfl ?_
      refine q_iald C rfl (by decide) (by decide) (by omega) dX6_branch_56 ?_
      rw [sI_s, upd_s]
      exact q_iretO C CM rfl (by decide) (by decide) dX6_branch_57 (post_ok (by simp only [oBranch, hb, h24]) (rc_setH hA hC) (cls_sI M _ (by decide)))
    · exact j_throw (text := "the branch exists") C CM rfl (by decide +kernel) (by decide +kernel) lc_X6_71 z_IllegalStateException (by decide) xg_ISE xn_ISE (by decide) (xo_ISE 71) dX6_branch_27 dX6_branch_30 dX6_branch_31 dX6_branch_33 dX6_branch_36 (by decide) (by decide) (by decide) (by decide) (by decide) (by decide) ⟨rfl, M, post_no (k := 1) (by simp only [oBranch, hb, h24]) rfl hC (cls_refl _), rfl⟩
  · exact j_throw (text := "the number is out of range") C CM rfl (by decide +kernel) (by decide +kernel) lc_X6_106 z_IndexOutOfBoundsException (by decide) xg_IOOB xn_IOOB (by decide) (xo_IOOB 106) dX6_branch_7 dX6_branch_10 dX6_branch_11 dX6_branch_13 dX6_branch_16 (by decide) (by decide) (by decide) (by decide) (by decide) (by decide) ⟨rfl, M, post_no (k := 0) (by simp only [oBranch, inB_nsome h4]) rfl hC (cls_refl _), rfl⟩
set_option maxHeartbeats 4000000 in
set_option maxRecDepth 100000 in
theorem sp_X6_checkOut (G : gG) (M : gMem) {A : gSt0} (hA : gAi A) (hB : gAb A) (hC : gRC A M) (x : Int32) : SpO G mX6_checkOut (gRm 4 2) [.ref (gb G + 0), .int x] M (gPost ["java/lang/IndexOutOfBoundsException", "java/util/NoSuchElementException", "java/lang/IllegalStateException"] (oCheckOut A x) M) := by
  refine Sp.of (by decide +kernel) (Nat.le_of_ble_eq_true rfl) (fun X C CM => ?_)
  have C : gC G X RX6 cX6_checkOut 3 (gRm 4 2) := C
  refine j_aload_n C dX6_checkOut_0 rfl ?_
  refine j_iload_n C dX6_checkOut_1 rfl ?_
  refine q_callVO C CM rfl (sp_X6_requireHead G M hA hB hC.2.1 x) vX6_requireHead lk_X6_113 rfl (by decide) rfl rfl (Nat.le_of_ble_eq_true rfl) (by decide) (by decide) (by decide) dX6_checkOut_2 (fun w2 M2 w => ?_) (fun E M2 w => by obtain ⟨rfl, ⟨h0, rfl⟩ | ⟨b, hb, h0, rfl⟩⟩ := rqh_x w <;> first | exact post_no (k := 0) (by simp only [oCheckOut, h0]) rfl hC (cls_refl _) | exact post_no (k := 1) (by simp only [oCheckOut, hb, h0]) rfl hC (cls_refl _))
  obtain ⟨rfl, b, h, hb, hb5, rfl, hh, rfl⟩ := rqh_v w
  have hhn := hB.2.1 b h hb5 hh
  refine j_istore_n C dX6_checkOut_5 (by decide) rfl ?_
  refine j_aload_n C dX6_checkOut_6 rfl ?_
  refine q_callVO C CM rfl (sp_X6_requireNoChanges G M hA hB hC.1 hC.2.1) vX6_requireNoChanges lk_X6_116 rfl (by decide) rfl rfl (Nat.le_of_ble_eq_true rfl) (by decide) (by decide) (by decide) dX6_checkOut_7 (fun w7 M7 w => ?_) (fun E M7 w => by obtain ⟨rfl, h0, rfl⟩ := rqn_x w; exact post_no (k := 2) (by simp only [oCheckOut, hb, hh, h0, if_false]) rfl hC (cls_refl _))
  obtain ⟨rfl, hz, rfl⟩ := rqn_v w
  refine j_aload_n C dX6_checkOut_10 rfl ?_
  refine j_iload_n C dX6_checkOut_11 rfl ?_
  refine q_putI C fX6 6 rfl (by decide) (by decide) lf_X6_44 rfl rfl rfl (Nat.le_of_ble_eq_true rfl) rfl dX6_checkOut_12 ?_
  refine j_aload_n C dX6_checkOut_15 rfl ?_
  refine q_get C fX6 3 rfl (by decide) (by decide) lf_X6_33 rfl rfl dX6_checkOut_16 ?_
  refine j_aload_n C dX6_checkOut_19 rfl ?_
  refine q_get C fX6 0 rfl (by decide) (by decide) lf_X6_10 rfl rfl dX6_checkOut_20 ?_
  refine j_iload_n C dX6_checkOut_23 rfl ?_
  refine q_callV C (sp_X1_treeOf G _ (n := aN A) (by exact hC.1.1) hA.1.2 hhn) vX1_treeOf lk_X6_79 rfl (by decide) rfl rfl (Nat.le_of_ble_eq_true rfl) (by decide) dX6_checkOut_24 ?_
  refine q_callV C (sp_X4_copy G _ (t := 152) (u := 10 + 2 * h) gTr_153 (gTr_c (Nat.lt_of_lt_of_le hhn hA.1.2)) (by have := hA.1.2; omega)) vX4_copy lk_X6_119 (gTr_153).1 (gTr_lt (gTr_153)) rfl rfl (Nat.le_of_ble_eq_true rfl) (by decide) dX6_checkOut_27 ?_
  refine j_iload_n C dX6_checkOut_30 rfl ?_
  exact q_iretO C CM rfl (by decide) (by decide) dX6_checkOut_31 (post_ok (by simp only [oCheckOut, hb, hh, hz, if_true]) (rc_check hA hC hhn) (cls_check M b _))
set_option maxHeartbeats 4000000 in
set_option maxRecDepth 100000 in
theorem sp_X6_requireCommit (G : gG) (M : gMem) {n : Nat} (hn : M.2.2.1 1 7 = nI n) (h60 : n ≤ 60) (x : Int32) : SpO G mX6_requireCommit (gRm 1 1) [.ref (gb G + 0), .int x] M (gAsk M (inB x n) (fun _ => none) "java/lang/IndexOutOfBoundsException") := by
  refine Sp.of (by decide +kernel) (Nat.le_of_ble_eq_true rfl) (fun X C CM => ?_)
  have C : gC G X RX6 cX6_requireCommit 2 (gRm 1 1) := C
  refine j_aload_n C dX6_requireCommit_0 rfl ?_
  refine q_get C fX6 0 rfl (by decide) (by decide) lf_X6_10 rfl rfl dX6_requireCommit_1 ?_
  refine j_iload_n C dX6_requireCommit_4 rfl ?_
  refine q_callV C (sp_has G M hn h60 x) vX1_has lk_X6_230 rfl (by decide) rfl rfl (Nat.le_of_ble_eq_true rfl) (by decide) dX6_requireCommit_5 ?_
  refine q_if_ne0 C 21 dX6_requireCommit_8 (by decide) (fun h8 => ?_) (fun h8 => ?_)
  · exact q_vretO C CM rfl (by decide) (by decide) dX6_requireCommit_21 (by obtain ⟨k, e, -, -⟩ := inB_is (by omega) h8; exact ask_ok M e)
  · exact j_throw (text := "there is no such commit") C CM rfl (by decide +kernel) (by decide +kernel) lc_X6_106 z_IndexOutOfBoundsException (by decide) xg_IOOB xn_IOOB (by decide) (xo_IOOB 106) dX6_requireCommit_11 dX6_requireCommit_14 dX6_requireCommit_15 dX6_requireCommit_17 dX6_requireCommit_20 (by decide) (by decide) (by decide) (by decide) (by decide) (by decide) ⟨rfl, M, ask_no M (inB_nsome h8), rfl⟩
set_option maxHeartbeats 4000000 in
set_option maxRecDepth 100000 in
theorem sp_X6_reset (G : gG) (M : gMem) {A : gSt0} (hA : gAi A) (hB : gAb A) (hC : gRC A M) (x : Int32) : SpO G mX6_reset (gRm 4 1) [.ref (gb G + 0), .int x] M (gPost ["java/lang/IndexOutOfBoundsException"] (oReset A x) M) := by
  refine Sp.of (by decide +kernel) (Nat.le_of_ble_eq_true rfl) (fun X C CM => ?_)
  have C : gC G X RX6 cX6_reset 3 (gRm 4 1) := C
  refine j_aload_n C dX6_reset_0 rfl ?_
  refine j_iload_n C dX6_reset_1 rfl ?_
  refine q_callVO C CM rfl (sp_X6_requireCommit G M hC.1.1 hA.1.2 x) vX6_requireCommit lk_X6_123 rfl (by decide) rfl rfl (Nat.le_of_ble_eq_true rfl) (by decide) (by decide) (by decide) dX6_reset_2 (fun w2 M2 w => ?_) (fun E M2 w => by obtain ⟨rfl, h0, rfl⟩ := ask_x w; exact post_no (k := 0) (by simp only [oReset, h0]) rfl hC (cls_refl _))
  obtain ⟨rfl, c, hc, rfl⟩ := ask_v w
  obtain ⟨rfl, hcn⟩ := inB_some (by have := hA.1.2; omega) hc
  refine j_aload_n C dX6_reset_5 rfl ?_
  refine j_aload_n C dX6_reset_6 rfl ?_
  refine q_get C fX6 6 rfl (by decide) (by decide) lf_X6_44 rfl rfl dX6_reset_7 ?_
  rw [hC.2.1.2.1]
  refine q_callV C (sp_X6_headOf G M hC.2.1 hB.1) vX6_headOf lk_X6_76 rfl (by decide) rfl rfl (Nat.le_of_ble_eq_true rfl) (by decide) dX6_reset_10 ?_
  rw [(ab_hd hB).1, show oI (some (aHd A)) = nI (aHd A) from rfl]
  refine j_istore_n C dX6_reset_13 (by decide) rfl ?_
  refine j_aload_n C dX6_reset_14 rfl ?_
  refine j_iload_n C dX6_reset_15 rfl ?_
  refine q_callVS C (sp_X6_takeAsHead G M hA hB.1 hC.1 hC.2.1.1 hC.2.1.2.1 (Nat.le_refl _) hC.2.2 hcn) vX6_takeAsHead lk_X6_99 rfl (by decide) rfl rfl (Nat.le_of_ble_eq_true rfl) (by decide) dX6_reset_16 (fun M2 hM2 => ?_)
  refine j_iload_n C dX6_reset_19 rfl ?_
  exact q_iretO C CM rfl (by decide) (by decide) dX6_reset_20 (post_ok (by simp only [oReset, hc]) hM2.1 hM2.2)
set_option maxHeartbeats 4000000 in
set_option maxRecDepth 100000 in
theorem sp_X6_head (G : gG) (M : gMem) {A : gSt0} (hA : gAi A) (hB : gAb A) (hC : gRC A M) (x : Int32) : SpO G mX6_head (gRm 3 1) [.ref (gb G + 0), .int x] M (gPost ["java/lang/IndexOutOfBoundsException", "java/util/NoSuchElementException"] (oHead A x) M) := by
  refine Sp.of (by decide +kernel) (Nat.le_of_ble_eq_true rfl) (fun X C CM => ?_)
  have C : gC G X RX6 cX6_head 2 (gRm 3 1) := C
  refine j_aload_n C dX6_head_0 rfl ?_
  refine j_iload_n C dX6_head_1 rfl ?_
  refine q_callVO C CM rfl (sp_X6_requireHead G M hA hB hC.2.1 x) vX6_requireHead lk_X6_113 rfl (by decide) rfl rfl (Nat.le_of_ble_eq_true rfl) (by decide) (by decide) (by decide) dX6_head_2 (fun w2 M2 w => ?_) (fun E M2 w => by obtain ⟨rfl, ⟨h0, rfl⟩ | ⟨b, hb, h0, rfl⟩⟩ := rqh_x w <;> first | exact post_no (k := 0) (by simp only [oHead, h0]) rfl hC (cls_refl _) | exact post_no (k := 1) (by simp only [oHead, hb, h0]) rfl hC (cls_refl _))
  obtain ⟨rfl, b, h, hb, hb5, rfl, hh, rfl⟩ := rqh_v w
  have hhn := hB.2.1 b h hb5 hh
  exact q_iretO C CM rfl (by decide) (by decide) dX6_head_5 (post_ok (by simp only [oHead, hb, hh]) hC (cls_refl _))
set_option maxHeartbeats 4000000 in
set_option maxRecDepth 100000 in
theorem sp_X6_currentBranch (G : gG) (M : gMem) {A : gSt0} (hC : gRC A M) : SpR G mX6_currentBranch (gRm 0 0) [.ref (gb G + 0)] M (some (.int (nI (aC A)))) M := by
  refine Sp.of (by decide +kernel) (Nat.le_of_ble_eq_true rfl) (fun X C CM => ?_)
  have C : gC G X RX6 cX6_currentBranch 1 (gRm 0 0) := C
  refine j_aload_n C dX6_currentBranch_0 rfl ?_
  refine q_get C fX6 6 rfl (by decide) (by decide) lf_X6_44 rfl rfl dX6_currentBranch_1 ?_
  exact q_iret C CM rfl (by decide) (by decide) dX6_currentBranch_4 hC.2.1.2.1 rfl
set_option maxHeartbeats 4000000 in
set_option maxRecDepth 100000 in
theorem sp_X6_commits (G : gG) (M : gMem) {A : gSt0} (hC : gRC A M) : SpR G mX6_commits (gRm 1 0) [.ref (gb G + 0)] M (some (.int (nI (aN A)))) M := by
  refine Sp.of (by decide +kernel) (Nat.le_of_ble_eq_true rfl) (fun X C CM => ?_)
  have C : gC G X RX6 cX6_commits 1 (gRm 1 0) := C
  refine j_aload_n C dX6_commits_0 rfl ?_
  refine q_get C fX6 0 rfl (by decide) (by decide) lf_X6_10 rfl rfl dX6_commits_1 ?_
  refine q_callV C (sp_X1_size G M hC.1.1) vX1_size lk_X6_143 rfl (by decide) rfl rfl (Nat.le_of_ble_eq_true rfl) (by decide) dX6_commits_4 ?_
  exact q_iret C CM rfl (by decide) (by decide) dX6_commits_7 rfl rfl
