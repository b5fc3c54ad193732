def acN (A : gSt0) (x y : Int32) : Nat := if ((inB x (aN A)).isSome && (inB y (aN A)).isSome) = true then 0 else 1
theorem ac_0 {A : gSt0} {x y : Int32} (hA : gAi A) (h : decide (acN A x y = 0) = true) : ∃ c o, inB x (aN A) = some c ∧ inB y (aN A) = some o ∧ x = nI c ∧ y = nI o ∧ c < aN A ∧ o < aN A ∧ acN A x y = 0 := by
  have h60 := hA.1.2
  have h0 := of_decide_eq_true h
  unfold acN at h0
  split at h0
  · next e =>
    simp only [Bool.and_eq_true] at e
    obtain ⟨c, hc, h1, h2⟩ := inB_is (by omega) e.1
    obtain ⟨o, ho, h3, h4⟩ := inB_is (by omega) e.2
    exact ⟨c, o, hc, ho, h1, h3, h2, h4, of_decide_eq_true h⟩
  · cases h0
theorem ac_1 {A : gSt0} {x y : Int32} (h : decide (acN A x y = 0) = false) : acN A x y = 1 ∧ (inB x (aN A) = none ∨ inB y (aN A) = none) := by
  have h0 := of_decide_eq_false h
  unfold acN at h0 ⊢
  split at h0
  · exact absurd rfl h0
  · next e =>
    refine ⟨if_neg e, ?_⟩
    cases e1 : inB x (aN A) with
    | none => exact Or.inl rfl
    | some c =>
      cases e2 : inB y (aN A) with
      | none => exact Or.inr rfl
      | some o => rw [e1, e2] at e; exact absurd rfl e
theorem ac_two {A : gSt0} {x y : Int32} (f : Nat → Nat → Int32) (h : decide (acN A x y = 0) = false) : oTwo A f x y = (1, 0, A) := by
  unfold oTwo
  rcases (ac_1 h).2 with e | e
  · rw [e]
  · rw [e]
    cases inB x (aN A) <;> rfl
theorem ac_mv {A : gSt0} {x y : Int32} (z : Int32) (h : decide (acN A x y = 0) = false) : oMovedTo A x y z = (1, 0, A) := by
  unfold oMovedTo
  rcases (ac_1 h).2 with e | e
  · rw [e]
  · rw [e]
    cases inB x (aN A) <;> rfl
def ancQ (A : gSt0) (x y : Int32) : Bool := match inB x (aN A) with
  | none => false
  | some c => match inB y (aN A) with
    | none => false
    | some o => anc (aF A) (aS A) o c
theorem ancQ_eq (A : gSt0) (x y : Int32) : (oTwo A (fAnc A) x y).2.1 = bI (ancQ A x y) := by
  unfold oTwo ancQ
  cases inB x (aN A) with
  | none => rfl
  | some c =>
    cases inB y (aN A) with
    | none => rfl
    | some o => rfl
theorem ancQ_0 {A : gSt0} {x y : Int32} (h : decide (acN A x y = 0) = false) : ancQ A x y = false := by
  unfold ancQ
  rcases (ac_1 h).2 with e | e
  · rw [e]
  · rw [e]
    cases inB x (aN A) <;> rfl
theorem ac_pom {A : gSt0} {M : gMem} {x y : Int32} {o : gRes} (hA : gAi A) (hR : gRM A M) (h : decide (acN A x y = 0) = false) (ho : o = (1, 0, A)) : gPom o M (sF M 156 7 (nI (acN A x y))) := by
  rw [(ac_1 h).1]
  exact pom_x ho hA hR
theorem pom_k {o : gRes} {v : Int32} {A : gSt0} {M M2 : gMem} (ho : o = (0, v, A)) (hA : gAi A) (hR : gRM A (sF M 156 7 (nI 0))) (k : gKz (sF M 156 7 (nI 0)) M2) : gPom o M M2 := pom ho (k.2.trans (sF_at _ _ _ _)) (rm_k hA hR k.1) (mod_trans (mod_sF M 7 _) k.1.2.2.2.2)
set_option maxHeartbeats 4000000 in
set_option maxRecDepth 100000 in
theorem sp_X7_areCommits (G : gG) (M : gMem) {A : gSt0} (hn : M.2.2.1 156 3 = nI (aN A)) (h1 : 1 ≤ aN A ∧ aN A ≤ 60) (x y : Int32) : SpR G mX7_areCommits (gRm 2 0) [.ref (gb G + 156), .int x, .int y] M (some (.int (bI (decide (acN A x y = 0))))) (sF M 156 7 (nI (acN A x y))) := by
  refine Sp.of (by decide +kernel) (Nat.le_of_ble_eq_true rfl) (fun X C CM => ?_)
  have C : gC G X RX7 cX7_areCommits 3 (gRm 2 0) := C
  refine j_aload_n C dX7_areCommits_0 rfl ?_
  refine j_aload_n C dX7_areCommits_1 rfl ?_
  refine j_iload_n C dX7_areCommits_2 rfl ?_
  refine q_callV C (sp_X7_isCommit G M hn h1 x) vX7_isCommit lk_X7_117 rfl (by decide) rfl rfl (Nat.le_of_ble_eq_true rfl) (by decide) dX7_areCommits_3 ?_
  refine q_if_eq0 C 21 dX7_areCommits_6 (by decide) (fun h6 => ?_) (fun h6 => ?_)
  · refine j_iconst C (v := nI 1) dX7_areCommits_21 rfl ?_
    refine q_putI C fX7 7 rfl (by decide) (by decide) lf_X7_77 rfl rfl rfl (Nat.le_of_ble_eq_true rfl) rfl dX7_areCommits_22 ?_
    refine j_aload_n C dX7_areCommits_25 rfl ?_
    refine q_get C fX7 7 rfl (by decide) (by decide) lf_X7_77 rfl rfl dX7_areCommits_26 ?_
    rw [sF_at]
    refine j_if_ne C 36 dX7_areCommits_29 (fun _ => ?_) (fun h => absurd h (by decide)) (by decide)
    refine j_iconst C (v := nI 0) dX7_areCommits_36 rfl ?_
    exact q_zret C CM rfl (by decide) (by decide) dX7_areCommits_37 (by first | (rw [show acN A x y = 0 from if_pos (by rw [h6, h14]; rfl)]; rfl) | (rw [show acN A x y = 1 from if_neg (by rw [h6, h14]; decide)]; rfl) | (rw [show acN A x y = 1 from if_neg (by rw [h6]; simp)]; rfl)) (by first | rw [show acN A x y = 0 from if_pos (by rw [h6, h14]; rfl)] | rw [show acN A x y = 1 from if_neg (by rw [h6, h14]; decide)] | rw [show acN A x y = 1 from if_neg (by rw [h6]; simp)])
  · refine j_aload_n C dX7_areCommits_9 rfl ?_
    refine j_iload_n C dX7_areCommits_10 rfl ?_
    refine q_callV C (sp_X7_isCommit G M hn h1 y) vX7_isCommit lk_X7_117 rfl (by decide) rfl rfl (Nat.le_of_ble_eq_true rfl) (by decide) dX7_areCommits_11 ?_
    refine q_if_eq0 C 21 dX7_areCommits_14 (by decide) (fun h14 => ?_) (fun h14 => ?_)
    · refine j_iconst C (v := nI 1) dX7_areCommits_21 rfl ?_
      refine q_putI C fX7 7 rfl (by decide) (by decide) lf_X7_77 rfl rfl rfl (Nat.le_of_ble_eq_true rfl) rfl dX7_areCommits_22 ?_
      refine j_aload_n C dX7_areCommits_25 rfl ?_
      refine q_get C fX7 7 rfl (by decide) (by decide) lf_X7_77 rfl rfl dX7_areCommits_26 ?_
      rw [sF_at]
      refine j_if_ne C 36 dX7_areCommits_29 (fun _ => ?_) (fun h => absurd h (by decide)) (by decide)
      refine j_iconst C (v := nI 0) dX7_areCommits_36 rfl ?_
      exact q_zret C CM rfl (by decide) (by decide) dX7_areCommits_37 (by first | (rw [show acN A x y = 0 from if_pos (by rw [h6, h14]; rfl)]; rfl) | (rw [show acN A x y = 1 from if_neg (by rw [h6, h14]; decide)]; rfl) | (rw [show acN A x y = 1 from if_neg (by rw [h6]; simp)]; rfl)) (by first | rw [show acN A x y = 0 from if_pos (by rw [h6, h14]; rfl)] | rw [show acN A x y = 1 from if_neg (by rw [h6, h14]; decide)] | rw [show acN A x y = 1 from if_neg (by rw [h6]; simp)])
    · refine j_iconst C (v := nI 0) dX7_areCommits_17 rfl ?_
      refine j_goto C 22 dX7_areCommits_18 ?_ (by decide)
      refine q_putI C fX7 7 rfl (by decide) (by decide) lf_X7_77 rfl rfl rfl (Nat.le_of_ble_eq_true rfl) rfl dX7_areCommits_22 ?_
      refine j_aload_n C dX7_areCommits_25 rfl ?_
      refine q_get C fX7 7 rfl (by decide) (by decide) lf_X7_77 rfl rfl dX7_areCommits_26 ?_
      rw [sF_at]
      refine j_if_ne C 36 dX7_areCommits_29 (fun h => absurd h (by decide)) (fun _ => ?_) (by decide)
      refine j_iconst C (v := nI 1) dX7_areCommits_32 rfl ?_
      refine j_goto C 37 dX7_areCommits_33 ?_ (by decide)
      exact q_zret C CM rfl (by decide) (by decide) dX7_areCommits_37 (by first | (rw [show acN A x y = 0 from if_pos (by rw [h6, h14]; rfl)]; rfl) | (rw [show acN A x y = 1 from if_neg (by rw [h6, h14]; decide)]; rfl) | (rw [show acN A x y = 1 from if_neg (by rw [h6]; simp)]; rfl)) (by first | rw [show acN A x y = 0 from if_pos (by rw [h6, h14]; rfl)] | rw [show acN A x y = 1 from if_neg (by rw [h6, h14]; decide)] | rw [show acN A x y = 1 from if_neg (by rw [h6]; simp)])
set_option maxHeartbeats 4000000 in
set_option maxRecDepth 100000 in
theorem sp_X7_base (G : gG) (M : gMem) {A : gSt0} (hA : gAi A) (hR : gRM A M) (x y : Int32) : SpS G mX7_base (gRm 4 0) [.ref (gb G + 156), .int x, .int y] M (some (.int (oTwo A (fBase A) x y).2.1)) (gPom (oTwo A (fBase A) x y) M) := by
  refine Sp.of (by decide +kernel) (Nat.le_of_ble_eq_true rfl) (fun X C CM => ?_)
  have C : gC G X RX7 cX7_base 3 (gRm 4 0) := C
  refine j_aload_n C dX7_base_0 rfl ?_
  refine j_iload_n C dX7_base_1 rfl ?_
  refine j_iload_n C dX7_base_2 rfl ?_
  refine q_callV C (sp_X7_areCommits G M hR.1.1 hA.1 x y) vX7_areCommits lk_X7_186 rfl (by decide) rfl rfl (Nat.le_of_ble_eq_true rfl) (by decide) dX7_base_3 ?_
  refine q_if_eq0 C 18 dX7_base_6 (by decide) (fun h6 => ?_) (fun h6 => ?_)
  · refine j_iconst C (v := nI 0) dX7_base_18 rfl ?_
    exact q_iretS C CM rfl (by decide) (by decide) dX7_base_19 (by first | exact pom_v (ac_two (fBase A) h6) rfl | exact pom_v (show oTwo A (fBase A) (nI c) (nI o) = (0, fBase A c o, A) from by simp only [oTwo, hc, ho]) rfl) (by first | exact ac_pom hA hR h6 (ac_two (fBase A) h6) | exact pom_k (show oTwo A (fBase A) (nI c) (nI o) = (0, fBase A c o, A) from by simp only [oTwo, hc, ho]) hA hR1 hM2)
  · obtain ⟨c, o, hc, ho, rfl, rfl, hcn, hon, e0⟩ := ac_0 hA h6
    rw [e0]
    have hR1 := rm_k hA hR (km_sF M (j := 7) (nI 0) (by decide))
    have h60 := hA.1.2
    refine j_aload_n C dX7_base_9 rfl ?_
    refine j_iload_n C dX7_base_10 rfl ?_
    refine j_iload_n C dX7_base_11 rfl ?_
    refine q_callVS C (sp_X7_bestBase G _ hA hR1.1 hcn hon) vX7_bestBase lk_X7_168 rfl (by decide) rfl rfl (Nat.le_of_ble_eq_true rfl) (by decide) dX7_base_12 (fun M2 hM2 => ?_)
    refine j_goto C 19 dX7_base_15 ?_ (by decide)
    exact q_iretS C CM rfl (by decide) (by decide) dX7_base_19 (by first | exact pom_v (ac_two (fBase A) h6) rfl | exact pom_v (show oTwo A (fBase A) (nI c) (nI o) = (0, fBase A c o, A) from by simp only [oTwo, hc, ho]) rfl) (by first | exact ac_pom hA hR h6 (ac_two (fBase A) h6) | exact pom_k (show oTwo A (fBase A) (nI c) (nI o) = (0, fBase A c o, A) from by simp only [oTwo, hc, ho]) hA hR1 hM2)
set_option maxHeartbeats 4000000 in
set_option maxRecDepth 100000 in
theorem sp_X7_bases (G : gG) (M : gMem) {A : gSt0} (hA : gAi A) (hR : gRM A M) (x y : Int32) : SpS G mX7_bases (gRm 3 0) [.ref (gb G + 156), .int x, .int y] M (some (.int (oTwo A (fBases A) x y).2.1)) (gPom (oTwo A (fBases A) x y) M) := by
  refine Sp.of (by decide +kernel) (Nat.le_of_ble_eq_true rfl) (fun X C CM => ?_)
  have C : gC G X RX7 cX7_bases 3 (gRm 3 0) := C
  refine j_aload_n C dX7_bases_0 rfl ?_
  refine j_iload_n C dX7_bases_1 rfl ?_
  refine j_iload_n C dX7_bases_2 rfl ?_
  refine q_callV C (sp_X7_areCommits G M hR.1.1 hA.1 x y) vX7_areCommits lk_X7_186 rfl (by decide) rfl rfl (Nat.le_of_ble_eq_true rfl) (by decide) dX7_bases_3 ?_
  refine q_if_eq0 C 18 dX7_bases_6 (by decide) (fun h6 => ?_) (fun h6 => ?_)
  · refine j_iconst C (v := nI 0) dX7_bases_18 rfl ?_
    exact q_iretS C CM rfl (by decide) (by decide) dX7_bases_19 (by first | exact pom_v (ac_two (fBases A) h6) rfl | exact pom_v (show oTwo A (fBases A) (nI c) (nI o) = (0, fBases A c o, A) from by simp only [oTwo, hc, ho]) rfl) (by first | exact ac_pom hA hR h6 (ac_two (fBases A) h6) | exact pom_k (show oTwo A (fBases A) (nI c) (nI o) = (0, fBases A c o, A) from by simp only [oTwo, hc, ho]) hA hR1 hM2.1)
  · obtain ⟨c, o, hc, ho, rfl, rfl, hcn, hon, e0⟩ := ac_0 hA h6
    rw [e0]
    have hR1 := rm_k hA hR (km_sF M (j := 7) (nI 0) (by decide))
    have h60 := hA.1.2
    refine j_aload_n C dX7_bases_9 rfl ?_
    refine j_iload_n C dX7_bases_10 rfl ?_
    refine j_iload_n C dX7_bases_11 rfl ?_
    refine q_callVS C (sp_X7_findsBases G _ hA hR1.1 hcn hon) vX7_findsBases lk_X7_124 rfl (by decide) rfl rfl (Nat.le_of_ble_eq_true rfl) (by decide) dX7_bases_12 (fun M2 hM2 => ?_)
    refine j_goto C 19 dX7_bases_15 ?_ (by decide)
    exact q_iretS C CM rfl (by decide) (by decide) dX7_bases_19 (by first | exact pom_v (ac_two (fBases A) h6) rfl | exact pom_v (show oTwo A (fBases A) (nI c) (nI o) = (0, fBases A c o, A) from by simp only [oTwo, hc, ho]) rfl) (by first | exact ac_pom hA hR h6 (ac_two (fBases A) h6) | exact pom_k (show oTwo A (fBases A) (nI c) (nI o) = (0, fBases A c o, A) from by simp only [oTwo, hc, ho]) hA hR1 hM2.1)
set_option maxHeartbeats 4000000 in
set_option maxRecDepth 100000 in
theorem sp_X7_conflicts (G : gG) (M : gMem) {A : gSt0} (hA : gAi A) (hR : gRM A M) (x y : Int32) : SpS G mX7_conflicts (gRm 4 0) [.ref (gb G + 156), .int x, .int y] M (some (.int (oTwo A (fConf A) x y).2.1)) (gPom (oTwo A (fConf A) x y) M) := by
  refine Sp.of (by decide +kernel) (Nat.le_of_ble_eq_true rfl) (fun X C CM => ?_)
  have C : gC G X RX7 cX7_conflicts 3 (gRm 4 0) := C
  refine j_aload_n C dX7_conflicts_0 rfl ?_
  refine j_iload_n C dX7_conflicts_1 rfl ?_
  refine j_iload_n C dX7_conflicts_2 rfl ?_
  refine q_callV C (sp_X7_areCommits G M hR.1.1 hA.1 x y) vX7_areCommits lk_X7_186 rfl (by decide) rfl rfl (Nat.le_of_ble_eq_true rfl) (by decide) dX7_conflicts_3 ?_
  refine q_if_eq0 C 39 dX7_conflicts_6 (by decide) (fun h6 => ?_) (fun h6 => ?_)
  · refine j_iconst C (v := nI 0) dX7_conflicts_39 rfl ?_
    exact q_iretS C CM rfl (by decide) (by decide) dX7_conflicts_40 (by first | exact pom_v (ac_two (fConf A) h6) rfl | exact pom_v (show oTwo A (fConf A) (nI c) (nI o) = (0, fConf A c o, A) from by simp only [oTwo, hc, ho]) rfl) (by first | exact ac_pom hA hR h6 (ac_two (fConf A) h6) | exact pom_k (show oTwo A (fConf A) (nI c) (nI o) = (0, fConf A c o, A) from by simp only [oTwo, hc, ho]) hA hR1 (kt_trans hM2 (mg_kt hM3.1)))
  · obtain ⟨c, o, hc, ho, rfl, rfl, hcn, hon, e0⟩ := ac_0 hA h6
    rw [e0]
    have hR1 := rm_k hA hR (km_sF M (j := 7) (nI 0) (by decide))
    have h60 := hA.1.2
    refine j_aload_n C dX7_conflicts_9 rfl ?_
    refine j_aload_n C dX7_conflicts_10 rfl ?_
    refine q_get C fX7 0 rfl (by decide) (by decide) lf_X7_11 rfl rfl dX7_conflicts_11 ?_
    refine j_aload_n C dX7_conflicts_14 rfl ?_
    refine j_iload_n C dX7_conflicts_15 rfl ?_
    refine j_iload_n C dX7_conflicts_16 rfl ?_
    refine q_callVS C (sp_X7_bestBase G _ hA hR1.1 hcn hon) vX7_bestBase lk_X7_168 rfl (by decide) rfl rfl (Nat.le_of_ble_eq_true rfl) (by decide) dX7_conflicts_17 (fun M2 hM2 => ?_)
    have hR2 := rm_k hA hR1 hM2.1
    have hb := bb_some hA hcn hon
    rw [hb.1, show oI (some ((bbO A c o).getD 0)) = nI ((bbO A c o).getD 0) from rfl]
    refine q_aald157 C (by omega) dX7_conflicts_20 ?_
    refine j_aload_n C dX7_conflicts_21 rfl ?_
    refine q_get C fX7 0 rfl (by decide) (by decide) lf_X7_11 rfl rfl dX7_conflicts_22 ?_
    refine j_iload_n C dX7_conflicts_25 rfl ?_
    refine q_aald157 C (by omega) dX7_conflicts_26 ?_
    refine j_aload_n C dX7_conflicts_27 rfl ?_
    refine q_get C fX7 0 rfl (by decide) (by decide) lf_X7_11 rfl rfl dX7_conflicts_28 ?_
    refine j_iload_n C dX7_conflicts_31 rfl ?_
    refine q_aald157 C (by omega) dX7_conflicts_32 ?_
    refine q_callVS C (sp_X7_merges G M2 (a := (158 + (bbO A c o).getD 0)) (b := 158 + c) (c := 158 + o) ⟨gKd_row (by omega), by omega⟩ ⟨gKd_row (by omega), by omega⟩ ⟨gKd_row (by omega), by omega⟩ (by omega) (by omega) (by omega) (hR2.1.2.2 _ hb.2) (hR2.1.2.2 c hcn) (hR2.1.2.2 o hon) (hA.2.2.2 _) (hA.2.2.2 c) (hA.2.2.2 o)) vX7_merges lk_X7_171 rfl (by decide) rfl rfl (Nat.le_of_ble_eq_true rfl) (by decide) dX7_conflicts_33 (fun M3 hM3 => ?_)
    refine j_goto C 40 dX7_conflicts_36 ?_ (by decide)
    exact q_iretS C CM rfl (by decide) (by decide) dX7_conflicts_40 (by first | exact pom_v (ac_two (fConf A) h6) rfl | exact pom_v (show oTwo A (fConf A) (nI c) (nI o) = (0, fConf A c o, A) from by simp only [oTwo, hc, ho]) rfl) (by first | exact ac_pom hA hR h6 (ac_two (fConf A) h6) | exact pom_k (show oTwo A (fConf A) (nI c) (nI o) = (0, fConf A c o, A) from by simp only [oTwo, hc, ho]) hA hR1 (kt_trans hM2 (mg_kt hM3.1)))
set_option maxHeartbeats 4000000 in
set_option maxRecDepth 100000 in
theorem sp_X7_baseByWalking (G : gG) (M : gMem) {A : gSt0} (hA : gAi A) (hR : gRM A M) (x y : Int32) : SpS G mX7_baseByWalking (gRm 5 0) [.ref (gb G + 156), .int x, .int y] M (some (.int (oTwo A (fBase A) x y).2.1)) (gPom (oTwo A (fBase A) x y) M) := by
  refine Sp.of (by decide +kernel) (Nat.le_of_ble_eq_true rfl) (fun X C CM => ?_)
  have C : gC G X RX7 cX7_baseByWalking 3 (gRm 5 0) := C
  refine j_aload_n C dX7_baseByWalking_0 rfl ?_
  refine j_iload_n C dX7_baseByWalking_1 rfl ?_
  refine j_iload_n C dX7_baseByWalking_2 rfl ?_
  refine q_callVS C (sp_X7_base G M hA hR x y) vX7_base lk_X7_192 rfl (by decide) rfl rfl (Nat.le_of_ble_eq_true rfl) (by decide) dX7_baseByWalking_3 (fun M2 hM2 => ?_)
  exact q_iretS C CM rfl (by decide) (by decide) dX7_baseByWalking_6 rfl hM2
set_option maxHeartbeats 4000000 in
set_option maxRecDepth 100000 in
theorem sp_X7_isAncestor (G : gG) (M : gMem) {A : gSt0} (hA : gAi A) (hR : gRM A M) (x y : Int32) : SpS G mX7_isAncestor (gRm 3 0) [.ref (gb G + 156), .int x, .int y] M (some (.int (bI (ancQ A x y)))) (gPom (oTwo A (fAnc A) x y) M) := by
  refine Sp.of (by decide +kernel) (Nat.le_of_ble_eq_true rfl) (fun X C CM => ?_)
  have C : gC G X RX7 cX7_isAncestor 3 (gRm 3 0) := C
  refine j_aload_n C dX7_isAncestor_0 rfl ?_
  refine j_iload_n C dX7_isAncestor_1 rfl ?_
  refine j_iload_n C dX7_isAncestor_2 rfl ?_
  refine q_callV C (sp_X7_areCommits G M hR.1.1 hA.1 x y) vX7_areCommits lk_X7_186 rfl (by decide) rfl rfl (Nat.le_of_ble_eq_true rfl) (by decide) dX7_isAncestor_3 ?_
  refine q_if_eq0 C 22 dX7_isAncestor_6 (by decide) (fun h6 => ?_) (fun h6 => ?_)
  · refine j_iconst C (v := nI 0) dX7_isAncestor_22 rfl ?_
    exact q_zretS C CM rfl (by decide) (by decide) dX7_isAncestor_23 (by first | exact nI_bI0 (ancQ_0 h6) | exact nI_bI0 (show ancQ A (nI c) (nI o) = false from by simp only [ancQ, hc, ho, h15]) | exact nI_bI1 (show ancQ A (nI c) (nI o) = true from by simp only [ancQ, hc, ho, h15])) (by first | exact ac_pom hA hR h6 (ac_two (fAnc A) h6) | exact pom_k (show oTwo A (fAnc A) (nI c) (nI o) = (0, fAnc A c o, A) from by simp only [oTwo, hc, ho]) hA hR1 hM2)
  · obtain ⟨c, o, hc, ho, rfl, rfl, hcn, hon, e0⟩ := ac_0 hA h6
    rw [e0]
    have hR1 := rm_k hA hR (km_sF M (j := 7) (nI 0) (by decide))
    have h60 := hA.1.2
    refine j_aload_n C dX7_isAncestor_9 rfl ?_
    refine j_iload_n C dX7_isAncestor_10 rfl ?_
    refine j_iload_n C dX7_isAncestor_11 rfl ?_
    refine q_callVS C (sp_X7_isAbove G _ hA hR1.1 hcn hon) vX7_isAbove lk_X7_164 rfl (by decide) rfl rfl (Nat.le_of_ble_eq_true rfl) (by decide) dX7_isAncestor_12 (fun M2 hM2 => ?_)
    refine q_if_eq0 C 22 dX7_isAncestor_15 (by decide) (fun h15 => ?_) (fun h15 => ?_)
    · refine j_iconst C (v := nI 0) dX7_isAncestor_22 rfl ?_
      exact q_zretS C CM rfl (by decide) (by decide) dX7_isAncestor_23 (by first | exact nI_bI0 (ancQ_0 h6) | exact nI_bI0 (show ancQ A (nI c) (nI o) = false from by simp only [ancQ, hc, ho, h15]) | exact nI_bI1 (show ancQ A (nI c) (nI o) = true from by simp only [ancQ, hc, ho, h15])) (by first | exact ac_pom hA hR h6 (ac_two (fAnc A) h6) | exact pom_k (show oTwo A (fAnc A) (nI c) (nI o) = (0, fAnc A c o, A) from by simp only [oTwo, hc, ho]) hA hR1 hM2)
    · refine j_iconst C (v := nI 1) dX7_isAncestor_18 rfl ?_
      refine j_goto C 23 dX7_isAncestor_19 ?_ (by decide)
      exact q_zretS C CM rfl (by decide) (by decide) dX7_isAncestor_23 (by first | exact nI_bI0 (ancQ_0 h6) | exact nI_bI0 (show ancQ A (nI c) (nI o) = false from by simp only [ancQ, hc, ho, h15]) | exact nI_bI1 (show ancQ A (nI c) (nI o) = true from by simp only [ancQ, hc, ho, h15])) (by first | exact ac_pom hA hR h6 (ac_two (fAnc A) h6) | exact pom_k (show oTwo A (fAnc A) (nI c) (nI o) = (0, fAnc A c o, A) from by simp only [oTwo, hc, ho]) hA hR1 hM2)
set_option maxHeartbeats 4000000 in
set_option maxRecDepth 100000 in
theorem sp_X7_isAncestorByWalking (G : gG) (M : gMem) {A : gSt0} (hA : gAi A) (hR : gRM A M) (x y : Int32) : SpS G mX7_isAncestorByWalking (gRm 4 0) [.ref (gb G + 156), .int x, .int y] M (some (.int (bI (ancQ A x y)))) (gPom (oTwo A (fAnc A) x y) M) := by
  refine Sp.of (by decide +kernel) (Nat.le_of_ble_eq_true rfl) (fun X C CM => ?_)
  have C : gC G X RX7 cX7_isAncestorByWalking 3 (gRm 4 0) := C
  refine j_aload_n C dX7_isAncestorByWalking_0 rfl ?_
  refine j_iload_n C dX7_isAncestorByWalking_1 rfl ?_
  refine j_iload_n C dX7_isAncestorByWalking_2 rfl ?_
  refine q_callVS C (sp_X7_isAncestor G M hA hR x y) vX7_isAncestor lk_X7_189 rfl (by decide) rfl rfl (Nat.le_of_ble_eq_true rfl) (by decide) dX7_isAncestorByWalking_3 (fun M2 hM2 => ?_)
  exact q_zretS C CM rfl (by decide) (by decide) dX7_isAncestorByWalking_6 rfl hM2
