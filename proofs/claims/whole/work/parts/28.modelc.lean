theorem hd_M {A : gSt0} {M : gMem} (hB : gAb A) (hl : gRl A M) : M.1 220 (aC A) = nI (aHd A) := by
  rw [hl.1 _ hB.1, (ab_hd hB).1]
  rfl
theorem rm_take {A : gSt0} {M : gMem} {c : Nat} (hA : gAi A) (hR : gRM A M) (hc : c < aN A) : gRM (takeA A c) (sI (sI M 220 (upd (M.1 220) (aC A) (nI c))) 221 (cpF ((sI M 220 (upd (M.1 220) (aC A) (nI c))).1 (158 + c)) ((sI M 220 (upd (M.1 220) (aC A) (nI c))).1 221) 8)) :=
  ⟨k_take hA hR.1, l_take hR.2.1 (hR.1.2.2 c hc) (by have := hA.1.2; omega), hR.2.2⟩
theorem rm_mk {A : gSt0} {M M2 : gMem} {t : Nat → Option Nat} {f : Nat} {s : Option Nat} (hR : gRM A M) (h : gRk (mkA A t f s) M2) (k : gKc M M2) : gRM (mkA A t f s) M2 := by
  have hs := mk_same A t f s
  have hl := rl_kc hR.2.1 k
  refine ⟨h, ⟨fun b hb => by rw [hs.1]; exact hl.1 b hb, by rw [hs.2.1]; exact hl.2.1, ?_⟩, by rw [k.1 236 (by decide)]; exact hR.2.2⟩
  rw [hs.2.2.1]
  exact hl.2.2
/-- the work tree is the commit's already -/
theorem rm_head {A : gSt0} {M : gMem} {c : Nat} (hA : gAi A) (hR : gRM A M) (hc : c < aN A) (hT : ∀ p, p < 8 → aT A c p = aW A p) : gRM (takeA A c) (sI M 220 (upd (M.1 220) (aC A) (nI c))) := by
  have h60 := hA.1.2
  refine ⟨⟨hR.1.1, fun d hd => hR.1.2.1 d hd, fun d hd p hp => ?_⟩, ⟨fun b hb => ?_, hR.2.1.2.1, fun p hp => ?_⟩, hR.2.2⟩
  · have h1 : d < aN A := hd
    rw [sI_n _ _ (by omega)]
    exact hR.1.2.2 d hd p hp
  · rw [sI_s]
    show _ = oI (uO (aH A) (aC A) (some c) b)
    by_cases e : b = aC A
    · rw [e, upd_s, uO_s]; rfl
    · rw [upd_n _ _ e, uO_n _ _ e]; exact hR.2.1.1 b hb
  · rw [sI_n _ _ (by decide)]
    show _ = oI (aT A c p)
    rw [hT p hp]
    exact hR.2.1.2.2 p hp
theorem rm_cur {A : gSt0} {M : gMem} {b : Nat} (hA : gAi A) (hR : gRM A M) : gRM (setC A b) (sF M 156 5 (nI b)) := by
  refine ⟨⟨(sF_ne _ _ (by decide)).trans hR.1.1, fun d hd => hR.1.2.1 d hd, fun d hd p hp => hR.1.2.2 d hd p hp⟩, ⟨fun c hc => hR.2.1.1 c hc, sF_at _ _ _ _, fun p hp => hR.2.1.2.2 p hp⟩, hR.2.2⟩
theorem no_val {A : gSt0} {M : gMem} {x : Int32} {o : gRes} (hA : gAi A) (hR : gRM A M) (h : decide (0 < noN A x) = true) (h1 : inB x 5 = none → o = (1, 0, A)) (h2 : ∀ p, inB x 5 = some p → aH A p = none → o = (2, 0, A)) : nI 0 = o.2.1 ∧ gPom o M (sF M 156 7 (nI (noN A x))) := by
  rcases no_1 h with ⟨e1, e2⟩ | ⟨p, e0, e1, e2⟩
  · rw [e2]; exact ⟨pom_v (h1 e1) rfl, pom_x (h1 e1) hA hR⟩
  · rw [e2]; exact ⟨pom_v (h2 p e0 e1) rfl, pom_x (h2 p e0 e1) hA hR⟩
theorem uO_same {f : Nat → Option Nat} {k : Nat} {x : Option Nat} (h : f k = x) : uO f k x = f := by
  funext i
  by_cases e : i = k
  · rw [e, uO_s, h]
  · exact uO_n _ _ e
set_option maxHeartbeats 4000000 in
set_option maxRecDepth 100000 in
theorem sp_X7_changed (G : gG) (M : gMem) {A : gSt0} (hA : gAi A) (hB : gAb A) (hk : gRk A M) (hl : gRl A M) : SpR G mX7_changed (gRm 0 0) [.ref (gb G + 156)] M (some (.int (nI (chgA A)))) M := by
  refine Sp.of (by decide +kernel) (Nat.le_of_ble_eq_true rfl) (fun X C CM => ?_)
  have C : gC G X RX7 cX7_changed 3 (gRm 0 0) := C
  have hd := ab_hd hB
  have h60 := hA.1.2
  have h5 := hB.1
  refine j_iconst C (v := nI 0) dX7_changed_0 rfl ?_
  refine j_istore_n C dX7_changed_1 (by decide) rfl ?_
  refine j_iconst C (v := nI 0) dX7_changed_2 rfl ?_
  refine j_istore_n C dX7_changed_3 (by decide) rfl ?_
  have K4 : ∀ i, i ≤ 8 → Q G X 0 0 4 [some (.ref (gb G + 156)), some (.int (nI (cntN (fun p => decide (¬ aW A p = aT A (aHd A) p)) i))), some (.int (nI i))] [] (M) := by
    refine g_up _ _ (fun i hi ih => ?_)
    refine j_iload_n C dX7_changed_4 rfl ?_
    refine j_bipush C (v := nI 8) dX7_changed_5 rfl ?_
    refine q_icmp_ge C 49 dX7_changed_7 (by decide) (by omega) (by omega) (fun h7 => ?_) (fun h7 => ?_)
    · refine j_iload_n C dX7_changed_49 rfl ?_
      exact q_iret C CM rfl (by decide) (by decide) dX7_changed_50 (by rw [show i = 8 by omega]; rfl) rfl
    · refine j_iload_n C dX7_changed_10 rfl ?_
      refine j_aload_n C dX7_changed_11 rfl ?_
      refine q_get C fX7 6 rfl (by decide) (by decide) lf_X7_28 rfl rfl dX7_changed_12 ?_
      refine j_iload_n C dX7_changed_15 rfl ?_
      refine q_iald C rfl (by decide) (by decide) (by omega) dX7_changed_16 ?_
      refine j_aload_n C dX7_changed_17 rfl ?_
      refine q_get C fX7 0 rfl (by decide) (by decide) lf_X7_11 rfl rfl dX7_changed_18 ?_
      refine j_aload_n C dX7_changed_21 rfl ?_
      refine q_get C fX7 4 rfl (by decide) (by decide) lf_X7_25 rfl rfl dX7_changed_22 ?_
      refine j_aload_n C dX7_changed_25 rfl ?_
      refine q_get C fX7 5 rfl (by decide) (by decide) lf_X7_95 rfl rfl dX7_changed_26 ?_
      rw [hl.2.1]
      refine q_iald C rfl (by decide) (by decide) (by omega) dX7_changed_29 ?_
      rw [hd_M hB hl]
      refine q_aald157 C (by omega) dX7_changed_30 ?_
      refine j_iload_n C dX7_changed_31 rfl ?_
      refine q_iald C (gKd_row (show aHd A < 60 by omega)) (by omega) (by decide) (by omega) dX7_changed_32 ?_
      refine j_icmp_eq C 40 dX7_changed_33 (fun h33 => ?_) (fun h33 => ?_) (by decide)
      · refine j_iconst C (v := nI 0) dX7_changed_40 rfl ?_
        refine q_iadd C dX7_changed_41 ?_
        refine j_istore_n C dX7_changed_42 (by decide) rfl ?_
        refine q_iinc C dX7_changed_43 rfl (by decide) rfl ?_
        refine j_goto C 4 dX7_changed_46 ?_ (by decide)
        exact q_cast (ih (by omega)) (gLe_c rfl (gLe_c (by first | rw [cnt_t (decide_eq_true (mt (chg_row hA hB hk hl h7).mpr h33))] | (rw [cnt_f (decide_eq_false (fun q => q ((chg_row hA hB hk hl h7).mp h33)))]; rfl)) (gLe_c rfl gLe_0))) (rfl)
      · refine j_iconst C (v := nI 1) dX7_changed_36 rfl ?_
        refine j_goto C 41 dX7_changed_37 ?_ (by decide)
        refine q_iadd C dX7_changed_41 ?_
        refine j_istore_n C dX7_changed_42 (by decide) rfl ?_
        refine q_iinc C dX7_changed_43 rfl (by decide) rfl ?_
        refine j_goto C 4 dX7_changed_46 ?_ (by decide)
        exact q_cast (ih (by omega)) (gLe_c rfl (gLe_c (by first | rw [cnt_t (decide_eq_true (mt (chg_row hA hB hk hl h7).mpr h33))] | (rw [cnt_f (decide_eq_false (fun q => q ((chg_row hA hB hk hl h7).mp h33)))]; rfl)) (gLe_c rfl gLe_0))) (rfl)
  exact q_cast (K4 0 (by omega)) (gLe_c rfl (gLe_c rfl (gLe_c rfl gLe_0))) (rfl)
set_option maxHeartbeats 4000000 in
set_option maxRecDepth 100000 in
theorem sp_X7_changedPaths (G : gG) (M : gMem) {A : gSt0} (hA : gAi A) (hB : gAb A) (hR : gRM A M) : SpS G mX7_changedPaths (gRm 1 0) [.ref (gb G + 156)] M (some (.int (nI (chgA A)))) (gPom (0, nI (chgA A), A) M) := by
  refine Sp.of (by decide +kernel) (Nat.le_of_ble_eq_true rfl) (fun X C CM => ?_)
  have C : gC G X RX7 cX7_changedPaths 1 (gRm 1 0) := C
  have h1 := rm_k hA hR (km_sF M (j := 7) (nI 0) (by decide))
  refine j_aload_n C dX7_changedPaths_0 rfl ?_
  refine j_iconst C (v := nI 0) dX7_changedPaths_1 rfl ?_
  refine q_putI C fX7 7 rfl (by decide) (by decide) lf_X7_77 rfl rfl rfl (Nat.le_of_ble_eq_true rfl) rfl dX7_changedPaths_2 ?_
  refine j_aload_n C dX7_changedPaths_5 rfl ?_
  refine q_callV C (sp_X7_changed G _ hA hB h1.1 h1.2.1) vX7_changed lk_X7_98 rfl (by decide) rfl rfl (Nat.le_of_ble_eq_true rfl) (by decide) dX7_changedPaths_6 ?_
  exact q_iretS C CM rfl (by decide) (by decide) dX7_changedPaths_9 rfl (pom rfl (sF_at _ _ _ _) h1 (mod_sF M 7 _))
set_option maxHeartbeats 4000000 in
set_option maxRecDepth 100000 in
theorem sp_X7_isSame (G : gG) (M : gMem) {a b : Nat} (ha : gKd a = (0, 8)) (hla : a < 239) (hb : gKd b = (0, 8)) (hlb : b < 239) : SpR G mX7_isSame (gRm 0 0) [.ref (gb G + a), .ref (gb G + b)] M (some (.int (bI (decide (cntN (fun p => decide (¬ M.1 a p = M.1 b p)) 8 = 0))))) M := by
  refine Sp.of (by decide +kernel) (Nat.le_of_ble_eq_true rfl) (fun X C CM => ?_)
  have C : gC G X RX7 cX7_isSame 3 (gRm 0 0) := C
  refine j_iconst C (v := nI 0) dX7_isSame_0 rfl ?_
  refine j_istore_n C dX7_isSame_1 (by decide) rfl ?_
  have K2 : ∀ i, i ≤ 8 → (∀ j, j < i → decide (¬ M.1 a j = M.1 b j) = false) → Q G X 0 0 2 [some (.ref (gb G + a)), some (.ref (gb G + b)), some (.int (nI i))] [] (M) := by
    refine g_up _ _ (fun i hi ih => ?_)
    intro hm
    refine j_iload_n C dX7_isSame_2 rfl ?_
    refine j_bipush C (v := nI 8) dX7_isSame_3 rfl ?_
    refine q_icmp_ge C 25 dX7_isSame_5 (by decide) (by omega) (by omega) (fun h5 => ?_) (fun h5 => ?_)
    · refine j_iconst C (v := nI 1) dX7_isSame_25 rfl ?_
      exact q_zret C CM rfl (by decide) (by decide) dX7_isSame_26 (by rw [decide_eq_true (cnt_zero.mpr (fun j hj => hm j (by omega)))]; rfl) rfl
    · refine j_aload_n C dX7_isSame_8 rfl ?_
      refine j_iload_n C dX7_isSame_9 rfl ?_
      refine q_iald C ha hla (by decide) (by omega) dX7_isSame_10 ?_
      refine j_aload_n C dX7_isSame_11 rfl ?_
      refine j_iload_n C dX7_isSame_12 rfl ?_
      refine q_iald C hb hlb (by decide) (by omega) dX7_isSame_13 ?_
      refine j_icmp_eq C 19 dX7_isSame_14 (fun h14 => ?_) (fun h14 => ?_) (by decide)
      · refine q_iinc C dX7_isSame_19 rfl (by decide) rfl ?_
        refine j_goto C 2 dX7_isSame_22 ?_ (by decide)
        exact q_cast (ih (by omega) (fun j hj => if e : j = i then (by rw [e]; exact decide_eq_false (fun q => q h14)) else hm j (by omega))) (gLe_c rfl (gLe_c rfl (gLe_c rfl gLe_0))) (rfl)
      · refine j_iconst C (v := nI 0) dX7_isSame_17 rfl ?_
        exact q_zret C CM rfl (by decide) (by decide) dX7_isSame_18 (by rw [decide_eq_false (fun w => absurd (cnt_zero.mp w i h5) (by rw [decide_eq_true h14]; decide))]; rfl) rfl
  exact q_cast (K2 0 (by omega) (fun j hj => absurd hj (by omega))) (gLe_c rfl (gLe_c rfl (gLe_c rfl gLe_0))) (rfl)
set_option maxHeartbeats 4000000 in
set_option maxRecDepth 100000 in
theorem sp_X7_made (G : gG) (M : gMem) {A : gSt0} (hA : gAi A) (hk : gRk A M) {a f : Nat} {s : Option Nat} {t : Nat → Option Nat} (hka : gKd a = (0, 8)) (ha : 220 ≤ a ∧ a < 239) (hr : gRo M a t) (ht : gTn t) (hf : f < aN A) (hs : ∀ q, s = some q → q < aN A) : SpS G mX7_made (gRm 1 0) [.ref (gb G + 156), .ref (gb G + a), .int (nI f), .int (oI s)] M (some (.int (oI (mkO A t f s)))) (fun M2 => gRk (mkA A t f s) M2 ∧ gKc M M2) := by
  refine Sp.of (by decide +kernel) (Nat.le_of_ble_eq_true rfl) (fun X C CM => ?_)
  have C : gC G X RX7 cX7_made 5 (gRm 1 0) := C
  have h60 := hA.1.2
  refine j_iconst C (v := nI 0) dX7_made_0 rfl ?_
  refine j_istore C dX7_made_1 (by decide) rfl ?_
  have K3 : ∀ i, i ≤ aN A → (∀ j, j < i → sameB A t f s j = false) → Q G X 0 0 3 [some (.ref (gb G + 156)), some (.ref (gb G + a)), some (.int (nI f)), some (.int (oI s)), some (.int (nI i))] [] (M) := by
    refine g_up _ _ (fun i hi ih => ?_)
    intro hm
    refine j_iload C dX7_made_3 rfl ?_
    refine j_aload_n C dX7_made_5 rfl ?_
    refine q_get C fX7 3 rfl (by decide) (by decide) lf_X7_21 rfl rfl dX7_made_6 ?_
    rw [hk.1]
    refine q_icmp_ge C 57 dX7_made_9 (by decide) (by omega) (by omega) (fun h9 => ?_) (fun h9 => ?_)
    · have hF : firstN (sameB A t f s) (aN A) = none := first_none.mpr (fun j hj => hm j (by omega))
      refine j_aload_n C dX7_made_57 rfl ?_
      refine q_get C fX7 3 rfl (by decide) (by decide) lf_X7_21 rfl rfl dX7_made_58 ?_
      rw [hk.1]
      refine j_bipush C (v := nI 60) dX7_made_61 rfl ?_
      refine q_icmp_ne C 68 dX7_made_63 (by decide) (by omega) (by omega) (fun h63 => ?_) (fun h63 => ?_)
      · have h6 : aN A < 60 := by omega
        refine j_iconst C (v := nI 0) dX7_made_68 rfl ?_
        refine j_istore C dX7_made_69 (by decide) rfl ?_
        have K71 : ∀ j, j ≤ 8 → Q G X 0 0 71 [some (.ref (gb G + 156)), some (.ref (gb G + a)), some (.int (nI f)), some (.int (oI s)), some (.int (nI j))] [] (sI M (158 + aN A) (cpF (M.1 a) (M.1 (158 + aN A)) j)) := by
          refine g_up _ _ (fun j hj ihj => ?_)
          refine j_iload C dX7_made_71 rfl ?_
          refine j_bipush C (v := nI 8) dX7_made_73 rfl ?_
          refine q_icmp_ge C 100 dX7_made_75 (by decide) (by omega) (by omega) (fun h75 => ?_) (fun h75 => ?_)
          · obtain rfl : j = 8 := by omega
            refine j_aload_n C dX7_made_100 rfl ?_
            refine q_get C fX7 1 rfl (by decide) (by decide) lf_X7_14 rfl rfl dX7_made_101 ?_
            refine j_aload_n C dX7_made_104 rfl ?_
            refine q_get C fX7 3 rfl (by decide) (by decide) lf_X7_21 rfl rfl dX7_made_105 ?_
            simp only [sI_2]
            rw [hk.1]
            refine j_iload_n C dX7_made_108 rfl ?_
            refine q_iast C rfl (by decide) (by decide) (by omega) dX7_made_109 ?_
            refine j_aload_n C dX7_made_110 rfl ?_
            refine q_get C fX7 2 rfl (by decide) (by decide) lf_X7_18 rfl rfl dX7_made_111 ?_
            refine j_aload_n C dX7_made_114 rfl ?_
            refine q_get C fX7 3 rfl (by decide) (by decide) lf_X7_21 rfl rfl dX7_made_115 ?_
            simp only [sI_2]
            rw [hk.1]
            refine j_iload_n C dX7_made_118 rfl ?_
            refine q_iast C rfl (by decide) (by decide) (by omega) dX7_made_119 ?_
            refine j_aload_n C dX7_made_120 rfl ?_
            refine j_dup C dX7_made_121 rfl ?_
            refine q_get C fX7 3 rfl (by decide) (by decide) lf_X7_21 rfl rfl dX7_made_122 ?_
            simp only [sI_2]
            rw [hk.1]
            refine j_iconst C (v := nI 1) dX7_made_125 rfl ?_
            refine q_iadd C dX7_made_126 ?_
            refine q_putI C fX7 3 rfl (by decide) (by decide) lf_X7_21 rfl rfl rfl (Nat.le_of_ble_eq_true rfl) rfl dX7_made_127 ?_
            refine j_aload_n C dX7_made_130 rfl ?_
            refine q_get C fX7 3 rfl (by decide) (by decide) lf_X7_21 rfl rfl dX7_made_131 ?_
            rw [sF_at]
            refine j_iconst C (v := nI 1) dX7_made_134 rfl ?_
            refine q_isub C (by omega) dX7_made_135 ?_
            rw [sI_n _ _ (show (219 : Nat) ≠ 218 by decide), sI_n _ _ (show (219 : Nat) ≠ 158 + aN A by omega), sI_n _ _ (show (218 : Nat) ≠ 158 + aN A by omega)]
            exact q_iretS C CM rfl (by decide) (by decide) dX7_made_136 (by rw [(mk_new hF h63).1, Nat.add_sub_cancel]; rfl) ⟨by rw [(mk_new hF h63).2]; exact mad_rk (f := f) (s := s) hk hr h6, mad_kc M (nI f) (oI s) h6⟩
          · refine j_aload_n C dX7_made_78 rfl ?_
            refine q_get C fX7 0 rfl (by decide) (by decide) lf_X7_11 rfl rfl dX7_made_79 ?_
            refine j_aload_n C dX7_made_82 rfl ?_
            refine q_get C fX7 3 rfl (by decide) (by decide) lf_X7_21 rfl rfl dX7_made_83 ?_
            simp only [sI_2]
            rw [hk.1]
            refine q_aald157 C (by omega) dX7_made_86 ?_
            refine j_iload C dX7_made_87 rfl ?_
            refine j_aload_n C dX7_made_89 rfl ?_
            refine j_iload C dX7_made_90 rfl ?_
            refine q_iald C hka ha.2 (by decide) (by omega) dX7_made_92 ?_
            refine q_iast C (gKd_row h6) (by omega) (by decide) (by omega) dX7_made_93 ?_
            refine q_iinc C dX7_made_94 rfl (by decide) rfl ?_
            refine j_goto C 71 dX7_made_97 ?_ (by decide)
            exact q_cast (ihj (by omega)) (gLe_c rfl (gLe_c rfl (gLe_c rfl (gLe_c rfl (gLe_c rfl gLe_0))))) (by rw [sI_sI, sI_s, sI_n _ _ (show a ≠ 158 + aN A by omega), cpF_s])
        exact q_cast (K71 0 (by omega)) (gLe_c rfl (gLe_c rfl (gLe_c rfl (gLe_c rfl (gLe_c rfl gLe_0))))) (by rw [cpF_0, sI_id])
      · refine j_iconst C (v := -1) dX7_made_66 rfl ?_
        exact q_iretS C CM rfl (by decide) (by decide) dX7_made_67 (by rw [(mk_full hF h63).1]; rfl) ⟨by rw [(mk_full hF h63).2]; exact hk, kc_refl M⟩
    · refine j_aload_n C dX7_made_12 rfl ?_
      refine q_get C fX7 1 rfl (by decide) (by decide) lf_X7_14 rfl rfl dX7_made_13 ?_
      refine j_iload C dX7_made_16 rfl ?_
      refine q_iald C rfl (by decide) (by decide) (by omega) dX7_made_18 ?_
      rw [(hk.2.1 i h9).1]
      refine j_iload_n C dX7_made_19 rfl ?_
      refine j_icmp_ne C 51 dX7_made_20 (fun h20 => ?_) (fun h20 => ?_) (by decide)
      · refine q_iinc C dX7_made_51 rfl (by decide) rfl ?_
        refine j_goto C 3 dX7_made_54 ?_ (by decide)
        exact q_cast (ih (by omega) (fun j hj => if e : j = i then (by rw [e]; first | exact smB_1 h20 | exact smB_2 h31 | exact smB_3 h45) else hm j (by omega))) (gLe_c rfl (gLe_c rfl (gLe_c rfl (gLe_c rfl (gLe_c rfl gLe_0))))) (rfl)
      · refine j_aload_n C dX7_made_23 rfl ?_
        refine q_get C fX7 2 rfl (by decide) (by decide) lf_X7_18 rfl rfl dX7_made_24 ?_
        refine j_iload C dX7_made_27 rfl ?_
        refine q_iald C rfl (by decide) (by decide) (by omega) dX7_made_29 ?_
        rw [(hk.2.1 i h9).2]
        refine j_iload_n C dX7_made_30 rfl ?_
        refine j_icmp_ne C 51 dX7_made_31 (fun h31 => ?_) (fun h31 => ?_) (by decide)
        · refine q_iinc C dX7_made_51 rfl (by decide) rfl ?_
          refine j_goto C 3 dX7_made_54 ?_ (by decide)
          exact q_cast (ih (by omega) (fun j hj => if e : j = i then (by rw [e]; first | exact smB_1 h20 | exact smB_2 h31 | exact smB_3 h45) else hm j (by omega))) (gLe_c rfl (gLe_c rfl (gLe_c rfl (gLe_c rfl (gLe_c rfl gLe_0))))) (rfl)
        · refine j_aload_n C dX7_made_34 rfl ?_
          refine q_get C fX7 0 rfl (by decide) (by decide) lf_X7_11 rfl rfl dX7_made_35 ?_
          refine j_iload C dX7_made_38 rfl ?_
          refine q_aald157 C (by omega) dX7_made_40 ?_
          refine j_aload_n C dX7_made_41 rfl ?_
          refine q_callS C (sp_X7_isSame G M (gKd_row (show i < 60 by omega)) (by omega) hka ha.2) vX7_isSame lk_X7_102 rfl rfl (Nat.le_of_ble_eq_true rfl) (by decide) dX7_made_42 ?_
          rw [df_rows (hk.2.2 i h9) hr (hA.2.2.2 i) ht]
          refine q_if_eq0 C 51 dX7_made_45 (by decide) (fun h45 => ?_) (fun h45 => ?_)
          · refine q_iinc C dX7_made_51 rfl (by decide) rfl ?_
            refine j_goto C 3 dX7_made_54 ?_ (by decide)
            exact q_cast (ih (by omega) (fun j hj => if e : j = i then (by rw [e]; first | exact smB_1 h20 | exact smB_2 h31 | exact smB_3 h45) else hm j (by omega))) (gLe_c rfl (gLe_c rfl (gLe_c rfl (gLe_c rfl (gLe_c rfl gLe_0))))) (rfl)
          · refine j_iload C dX7_made_48 rfl ?_
            exact q_iretS C CM rfl (by decide) (by decide) dX7_made_50 (by rw [(mk_old (first_some.mpr ⟨h9, smB_t hA h9 hf hs (Classical.not_not.mp (fun q => q h20)) (Classical.not_not.mp (fun q => q h31)) h45, hm⟩)).1]; rfl) ⟨by rw [(mk_old (first_some.mpr ⟨h9, smB_t hA h9 hf hs h20 h31 h45, hm⟩)).2]; exact hk, kc_refl M⟩
  exact q_cast (K3 0 (by omega) (fun j hj => absurd hj (by omega))) (gLe_c rfl (gLe_c rfl (gLe_c rfl (gLe_c rfl (gLe_c rfl gLe_0))))) (rfl)
set_option maxHeartbeats 4000000 in
set_option maxRecDepth 100000 in
theorem sp_X7_becomes (G : gG) (M : gMem) {k c : Nat} (hcu : M.2.2.1 156 5 = nI k) (hk : k < 5) (hc : c < 60) : SpR G mX7_becomes (gRm 0 0) [.ref (gb G + 156), .int (nI c)] M (none) (sI (sI M 220 (upd (M.1 220) k (nI c))) 221 (cpF ((sI M 220 (upd (M.1 220) k (nI c))).1 (158 + c)) ((sI M 220 (upd (M.1 220) k (nI c))).1 221) 8)) := by
  refine Sp.of (by decide +kernel) (Nat.le_of_ble_eq_true rfl) (fun X C CM => ?_)
  have C : gC G X RX7 cX7_becomes 3 (gRm 0 0) := C
  refine j_aload_n C dX7_becomes_0 rfl ?_
  refine q_get C fX7 4 rfl (by decide) (by decide) lf_X7_25 rfl rfl dX7_becomes_1 ?_
  refine j_aload_n C dX7_becomes_4 rfl ?_
  refine q_get C fX7 5 rfl (by decide) (by decide) lf_X7_95 rfl rfl dX7_becomes_5 ?_
  rw [hcu]
  refine j_iload_n C dX7_becomes_8 rfl ?_
  refine q_iast C rfl (by decide) (by decide) (by omega) dX7_becomes_9 ?_
  refine j_iconst C (v := nI 0) dX7_becomes_10 rfl ?_
  refine j_istore_n C dX7_becomes_11 (by decide) rfl ?_
  have K12 : ∀ i, i ≤ 8 → Q G X 0 0 12 [some (.ref (gb G + 156)), some (.int (nI c)), some (.int (nI i))] [] ((sI (sI M 220 (upd (M.1 220) k (nI c))) 221 (cpF ((sI M 220 (upd (M.1 220) k (nI c))).1 (158 + c)) ((sI M 220 (upd (M.1 220) k (nI c))).1 221) i))) := by
    refine g_up _ _ (fun i hi ih => ?_)
    refine j_iload_n C dX7_becomes_12 rfl ?_
    refine j_bipush C (v := nI 8) dX7_becomes_13 rfl ?_
    refine q_icmp_ge C 38 dX7_becomes_15 (by decide) (by omega) (by omega) (fun h15 => ?_) (fun h15 => ?_)
    · exact q_vret C CM rfl (by decide) (by decide) dX7_becomes_38 (by rw [show i = 8 by omega])
    · refine j_aload_n C dX7_becomes_18 rfl ?_
      refine q_get C fX7 6 rfl (by decide) (by decide) lf_X7_28 rfl rfl dX7_becomes_19 ?_
      refine j_iload_n C dX7_becomes_22 rfl ?_
      refine j_aload_n C dX7_becomes_23 rfl ?_
      refine q_get C fX7 0 rfl (by decide) (by decide) lf_X7_11 rfl rfl dX7_becomes_24 ?_
      refine j_iload_n C dX7_becomes_27 rfl ?_
      refine q_aald157 C (by omega) dX7_becomes_28 ?_
      refine j_iload_n C dX7_becomes_29 rfl ?_
      refine q_iald C (gKd_row hc) (by omega) (by decide) (by omega) dX7_becomes_30 ?_
      refine q_iast C rfl (by decide) (by decide) (by omega) dX7_becomes_31 ?_
      refine q_iinc C dX7_becomes_32 rfl (by decide) rfl ?_
      refine j_goto C 12 dX7_becomes_35 ?_ (by decide)
      exact q_cast (ih (by omega)) (gLe_c rfl (gLe_c rfl (gLe_c rfl gLe_0))) (by rw [sI_sI, sI_s, sI_n _ _ (show 158 + c ≠ 221 by omega), cpF_s])
  exact q_cast (K12 0 (by omega)) (gLe_c rfl (gLe_c rfl (gLe_c rfl gLe_0))) (by rw [cpF_0, sI_id])
set_option maxHeartbeats 4000000 in
set_option maxRecDepth 100000 in
theorem sp_X7_commit (G : gG) (M : gMem) {A : gSt0} (hA : gAi A) (hB : gAb A) (hR : gRM A M) : SpS G mX7_commit (gRm 2 0) [.ref (gb G + 156)] M (some (.int (oCommit A).2.1)) (gPom (oCommit A) M) := by
  refine Sp.of (by decide +kernel) (Nat.le_of_ble_eq_true rfl) (fun X C CM => ?_)
  have C : gC G X RX7 cX7_commit 2 (gRm 2 0) := C
  have hR1 := rm_k hA hR (km_sF M (j := 7) (nI 0) (by decide))
  have hd := ab_hd hB
  have h60 := hA.1.2
  have h5 := hB.1
  refine j_aload_n C dX7_commit_0 rfl ?_
  refine j_iconst C (v := nI 0) dX7_commit_1 rfl ?_
  refine q_putI C fX7 7 rfl (by decide) (by decide) lf_X7_77 rfl rfl rfl (Nat.le_of_ble_eq_true rfl) rfl dX7_commit_2 ?_
  refine j_aload_n C dX7_commit_5 rfl ?_
  refine q_callV C (sp_X7_changed G _ hA hB hR1.1 hR1.2.1) vX7_changed lk_X7_98 rfl (by decide) rfl rfl (Nat.le_of_ble_eq_true rfl) (by decide) dX7_commit_6 ?_
  refine q_ifz_ne C 18 dX7_commit_9 (by decide) (chg_lt2 A) (fun h9 => ?_) (fun h9 => ?_)
  · refine j_aload_n C dX7_commit_18 rfl ?_
    refine j_aload_n C dX7_commit_19 rfl ?_
    refine q_get C fX7 6 rfl (by decide) (by decide) lf_X7_28 rfl rfl dX7_commit_20 ?_
    refine j_aload_n C dX7_commit_23 rfl ?_
    refine q_get C fX7 4 rfl (by decide) (by decide) lf_X7_25 rfl rfl dX7_commit_24 ?_
    refine j_aload_n C dX7_commit_27 rfl ?_
    refine q_get C fX7 5 rfl (by decide) (by decide) lf_X7_95 rfl rfl dX7_commit_28 ?_
    rw [hR1.2.1.2.1]
    refine q_iald C rfl (by decide) (by decide) (by omega) dX7_commit_31 ?_
    rw [hd_M hB hR1.2.1]
    refine j_iconst C (v := -1) dX7_commit_32 rfl ?_
    refine q_callVS C (sp_X7_made G _ (a := 221) (s := none) hA hR1.1 rfl (by decide) hR1.2.1.2.2 hB.2.2.2 hd.2 (fun q h => by cases h)) vX7_made lk_X7_106 rfl (by decide) rfl rfl (Nat.le_of_ble_eq_true rfl) (by decide) dX7_commit_33 (fun M2 hM2 => ?_)
    refine j_istore_n C dX7_commit_36 (by decide) rfl ?_
    refine j_iload_n C dX7_commit_37 rfl ?_
    refine j_iconst C (v := -1) dX7_commit_38 rfl ?_
    refine q_icmp_neN C 48 dX7_commit_39 (by decide) (fun v hv => by have h1 := (mk_ai (t := aW A) (s := none) hA hB.2.2.2 hd.2 (fun q h => by cases h)).2.2 v hv; have h2 := (mk_ai (t := aW A) (f := aHd A) (s := none) hA hB.2.2.2 hd.2 (fun q h => by cases h)).1.1.2; omega) (fun v39 h39 => ?_) (fun h39 => ?_)
    · rw [h39, show oI (some v39) = nI v39 from rfl]
      have hmk := mk_ai (s := none) hA hB.2.2.2 hd.2 (fun q h => by cases h)
      have hR2 := rm_mk hR1 hM2.1 hM2.2
      have hsm := mk_same A (aW A) (aHd A) none
      refine j_aload_n C dX7_commit_48 rfl ?_
      refine q_get C fX7 4 rfl (by decide) (by decide) lf_X7_25 rfl rfl dX7_commit_49 ?_
      refine j_aload_n C dX7_commit_52 rfl ?_
      refine q_get C fX7 5 rfl (by decide) (by decide) lf_X7_95 rfl rfl dX7_commit_53 ?_
      rw [show M2.2.2.1 156 5 = nI (aC A) from by rw [← hsm.2.1]; exact hR2.2.1.2.1]
      refine j_iload_n C dX7_commit_56 rfl ?_
      refine q_iast C rfl (by decide) (by decide) (by omega) dX7_commit_57 ?_
      refine j_iload_n C dX7_commit_58 rfl ?_
      exact q_iretS C CM rfl (by decide) (by decide) dX7_commit_59 (pom_v (show oCommit A = (0, nI v39, takeA (mkA A (aW A) (aHd A) none) v39) from by simp only [oCommit, h39, if_neg (show ¬ chgA A = 0 by omega)]) rfl) (pom (show oCommit A = (0, nI v39, takeA (mkA A (aW A) (aHd A) none) v39) from by simp only [oCommit, h39, if_neg (show ¬ chgA A = 0 by omega)]) ((hM2.2.2.1 7 (by decide)).trans (sF_at _ _ _ _)) (by rw [← hsm.2.1]; exact rm_head hmk.1 hR2 (hmk.2.2 _ h39) (fun p hp => (mk_tree h39 p hp).trans (by rw [hsm.2.2.1]))) (mod_trans (mod_trans (mod_sF M 7 _) hM2.2.2.2) (mod_sI _ _ (by decide))))
    · refine j_aload_n C dX7_commit_42 rfl ?_
      refine j_iconst C (v := nI 1) dX7_commit_43 rfl ?_
      refine q_callV C (sp_X7_raises G M2 1) vX7_raises lk_X7_91 rfl (by decide) rfl rfl (Nat.le_of_ble_eq_true rfl) (by decide) dX7_commit_44 ?_
      exact q_iretS C CM rfl (by decide) (by decide) dX7_commit_47 (pom_v (show oCommit A = (1, 0, A) from by simp only [oCommit, h39, if_neg (show ¬ chgA A = 0 by omega)]) rfl) (pom (show oCommit A = (1, 0, A) from by simp only [oCommit, h39, if_neg (show ¬ chgA A = 0 by omega)]) (sF_at _ _ _ _) (rm_k hA (by have := rm_mk hR1 hM2.1 hM2.2; rw [mk_none h39] at this; exact this) (km_sF _ _ (by decide))) (mod_trans (mod_trans (mod_sF M 7 _) hM2.2.2.2) (mod_sF _ 7 _)))
  · refine j_aload_n C dX7_commit_12 rfl ?_
    refine j_iconst C (v := nI 1) dX7_commit_13 rfl ?_
    refine q_callV C (sp_X7_raises G _ 1) vX7_raises lk_X7_91 rfl (by decide) rfl rfl (Nat.le_of_ble_eq_true rfl) (by decide) dX7_commit_14 ?_
    exact q_iretS C CM rfl (by decide) (by decide) dX7_commit_17 (pom_v (show oCommit A = (1, 0, A) from by simp only [oCommit, h9, if_true]) rfl) (pom (show oCommit A = (1, 0, A) from by simp only [oCommit, h9, if_true]) (sF_at _ _ _ _) (rm_k hA hR1 (km_sF _ _ (by decide))) (mod_trans (mod_sF M 7 _) (mod_sF _ 7 _)))
set_option maxHeartbeats 4000000 in
set_option maxRecDepth 100000 in
theorem sp_X7_branch (G : gG) (M : gMem) {A : gSt0} (hA : gAi A) (hB : gAb A) (hR : gRM A M) (x : Int32) : SpS G mX7_branch (gRm 1 0) [.ref (gb G + 156), .int x] M (some (.int (oBranch A x).2.1)) (gPom (oBranch A x) M) := by
  refine Sp.of (by decide +kernel) (Nat.le_of_ble_eq_true rfl) (fun X C CM => ?_)
  have C : gC G X RX7 cX7_branch 2 (gRm 1 0) := C
  have hd := ab_hd hB
  have h5 := hB.1
  refine j_aload_n C dX7_branch_0 rfl ?_
  refine j_iload_n C dX7_branch_1 rfl ?_
  refine j_iconst C (v := nI 0) dX7_branch_2 rfl ?_
  refine j_iconst C (v := nI 4) dX7_branch_3 rfl ?_
  refine q_callS C (sp_X7_in G M x (nI 0) (nI 4)) vX7_in lk_X7_80 rfl rfl (Nat.le_of_ble_eq_true rfl) (by decide) dX7_branch_4 ?_
  rw [in_inB (n := 5) (by decide) (by decide)]
  refine q_if_ne0 C 14 dX7_branch_7 (by decide) (fun h7 => ?_) (fun h7 => ?_)
  · obtain ⟨b, hb, rfl, hb8⟩ := inB_is (n := 5) (by decide) h7
    refine j_aload_n C dX7_branch_14 rfl ?_
    refine q_get C fX7 4 rfl (by decide) (by decide) lf_X7_25 rfl rfl dX7_branch_15 ?_
    refine j_iload_n C dX7_branch_18 rfl ?_
    refine q_iald C rfl (by decide) (by decide) (by omega) dX7_branch_19 ?_
    rw [hR.2.1.1 b hb8]
    refine j_iconst C (v := -1) dX7_branch_20 rfl ?_
    refine q_icmp_eqN C 28 dX7_branch_21 (by decide) (hd_lt hA hB hb8) (fun h21 => ?_) (fun v21 h21 => ?_)
    · refine j_iconst C (v := nI 0) dX7_branch_28 rfl ?_
      refine q_putI C fX7 7 rfl (by decide) (by decide) lf_X7_77 rfl rfl rfl (Nat.le_of_ble_eq_true rfl) rfl dX7_branch_29 ?_
      refine j_aload_n C dX7_branch_32 rfl ?_
      refine q_get C fX7 7 rfl (by decide) (by decide) lf_X7_77 rfl rfl dX7_branch_33 ?_
      rw [sF_at]
      refine j_if_le C 41 dX7_branch_36 (fun _ => ?_) (fun h => absurd (by decide) h) (by decide)
      have ho : oBranch A (nI b) = (0, nI (aHd A), setH A (uO (aH A) b (some (aHd A)))) := by simp only [oBranch, hb, h21]
      have hR1 := rm_k hA hR (km_sF M (j := 7) (nI 0) (by decide))
      refine j_aload_n C dX7_branch_41 rfl ?_
      refine q_get C fX7 4 rfl (by decide) (by decide) lf_X7_25 rfl rfl dX7_branch_42 ?_
      refine j_iload_n C dX7_branch_45 rfl ?_
      refine j_aload_n C dX7_branch_46 rfl ?_
      refine q_get C fX7 4 rfl (by decide) (by decide) lf_X7_25 rfl rfl dX7_branch_47 ?_
      refine j_aload_n C dX7_branch_50 rfl ?_
      refine q_get C fX7 5 rfl (by decide) (by decide) lf_X7_95 rfl rfl dX7_branch_51 ?_
      rw [hR1.2.1.2.1]
      refine q_iald C rfl (by decide) (by decide) (by omega) dX7_branch_54 ?_
      rw [hd_M hB hR1.2.1]
      refine q_iast C rfl (by decide) (by decide) (by omega) dX7_branch_55 ?_
      refine j_aload_n C dX7_branch_56 rfl ?_
      refine q_get C fX7 4 rfl (by decide) (by decide) lf_X7_25 rfl rfl dX7_branch_57 ?_
      refine j_iload_n C dX7_branch_60 rfl ?_
      refine q_iald C rfl (by decide) (by decide) (by omega) dX7_branch_61 ?_
      rw [sI_s, upd_s]
      exact q_iretS C CM rfl (by decide) (by decide) dX7_branch_62 (pom_v ho rfl) (pom ho (by exact sF_at M 156 7 (nI 0)) (rm_setH hA hR1) (mod_trans (mod_sF M 7 _) (mod_sI _ _ (by decide))))
    · refine j_iconst C (v := nI 2) dX7_branch_24 rfl ?_
      refine j_goto C 29 dX7_branch_25 ?_ (by decide)
      refine q_putI C fX7 7 rfl (by decide) (by decide) lf_X7_77 rfl rfl rfl (Nat.le_of_ble_eq_true rfl) rfl dX7_branch_29 ?_
      refine j_aload_n C dX7_branch_32 rfl ?_
      refine q_get C fX7 7 rfl (by decide) (by decide) lf_X7_77 rfl rfl dX7_branch_33 ?_
      rw [sF_at]
      refine j_if_le C 41 dX7_branch_36 (fun h => absurd h (by decide)) (fun _ => ?_) (by decide)
      refine j_iconst C (v := nI 0) dX7_branch_39 rfl ?_
      exact q_iretS C CM rfl (by decide) (by decide) dX7_branch_40 (by first | exact pom_v (show oBranch A x = (1, 0, A) from by simp only [oBranch, inB_nsome h7]) rfl | exact pom_v (show oBranch A (nI b) = (2, 0, A) from by simp only [oBranch, hb, h21]) rfl) (by first | exact pom_x (k := 1) (by simp only [oBranch, inB_nsome h7]) hA hR | exact pom_x (k := 2) (by simp only [oBranch, hb, h21]) hA hR)
  · refine j_iconst C (v := nI 1) dX7_branch_10 rfl ?_
    refine j_goto C 29 dX7_branch_11 ?_ (by decide)
    refine q_putI C fX7 7 rfl (by decide) (by decide) lf_X7_77 rfl rfl rfl (Nat.le_of_ble_eq_true rfl) rfl dX7_branch_29 ?_
    refine j_aload_n C dX7_branch_32 rfl ?_
    refine q_get C fX7 7 rfl (by decide) (by decide) lf_X7_77 rfl rfl dX7_branch_33 ?_
    rw [sF_at]
    refine j_if_le C 41 dX7_branch_36 (fun h => absurd h (by decide)) (fun _ => ?_) (by decide)
    refine j_iconst C (v := nI 0) dX7_branch_39 rfl ?_
    exact q_iretS C CM rfl (by decide) (by decide) dX7_branch_40 (by first | exact pom_v (show oBranch A x = (1, 0, A) from by simp only [oBranch, inB_nsome h7]) rfl | exact pom_v (show oBranch A (nI b) = (2, 0, A) from by simp only [oBranch, hb, h21]) rfl) (by first | exact pom_x (k := 1) (by simp only [oBranch, inB_nsome h7]) hA hR | exact pom_x (k := 2) (by simp only [oBranch, hb, h21]) hA hR)
set_option maxHeartbeats 4000000 in
set_option maxRecDepth 100000 in
theorem sp_X7_checkOut (G : gG) (M : gMem) {A : gSt0} (hA : gAi A) (hB : gAb A) (hR : gRM A M) (x : Int32) : SpS G mX7_checkOut (gRm 2 0) [.ref (gb G + 156), .int x] M (some (.int (oCheckOut A x).2.1)) (gPom (oCheckOut A x) M) := by
  refine Sp.of (by decide +kernel) (Nat.le_of_ble_eq_true rfl) (fun X C CM => ?_)
  have C : gC G X RX7 cX7_checkOut 2 (gRm 2 0) := C
  refine j_aload_n C dX7_checkOut_0 rfl ?_
  refine j_iload_n C dX7_checkOut_1 rfl ?_
  refine q_callV C (sp_X7_isNone G M hA hB hR.2.1.1 x) vX7_isNone lk_X7_110 rfl (by decide) rfl rfl (Nat.le_of_ble_eq_true rfl) (by decide) dX7_checkOut_2 ?_
  refine q_if_eq0 C 10 dX7_checkOut_5 (by decide) (fun h5 => ?_) (fun h5 => ?_)
  · obtain ⟨b, g, hb, rfl, hb5, hg, h0⟩ := no_0 h5
    rw [h0]
    have hR1 := rm_k hA hR (km_sF M (j := 7) (nI 0) (by decide))
    have hgn := hB.2.1 b g hb5 hg
    refine j_aload_n C dX7_checkOut_10 rfl ?_
    refine q_callV C (sp_X7_changed G _ hA hB hR1.1 hR1.2.1) vX7_changed lk_X7_98 rfl (by decide) rfl rfl (Nat.le_of_ble_eq_true rfl) (by decide) dX7_checkOut_11 ?_
    refine q_ifz_le C 23 dX7_checkOut_14 (by decide) (chg_lt2 A) (fun h14 => ?_) (fun h14 => ?_)
    · have ho : oCheckOut A (nI b) = (0, nI g, setW (setC A b) (aT A g)) := by simp only [oCheckOut, hb, hg, h14, if_true]
      have hR2 : gRM (setC A b) _ := rm_cur (b := b) hA hR1
      have e := rm_take (c := g) (A := setC A b) hA hR2 hgn
      have e2 : takeA (setC A b) g = setW (setC A b) (aT A g) := by unfold takeA; rw [show uO (aH (setC A b)) (aC (setC A b)) (some g) = aH A from uO_same hg]; rfl
      rw [e2] at e
      refine j_aload_n C dX7_checkOut_23 rfl ?_
      refine j_iload_n C dX7_checkOut_24 rfl ?_
      refine q_putI C fX7 5 rfl (by decide) (by decide) lf_X7_95 rfl rfl rfl (Nat.le_of_ble_eq_true rfl) rfl dX7_checkOut_25 ?_
      refine j_aload_n C dX7_checkOut_28 rfl ?_
      refine j_aload_n C dX7_checkOut_29 rfl ?_
      refine q_get C fX7 4 rfl (by decide) (by decide) lf_X7_25 rfl rfl dX7_checkOut_30 ?_
      refine j_iload_n C dX7_checkOut_33 rfl ?_
      refine q_iald C rfl (by decide) (by decide) (by omega) dX7_checkOut_34 ?_
      rw [show (sF (sF M 156 7 (nI 0)) 156 5 (nI b)).1 220 b = nI g from (hR.2.1.1 b hb5).trans (by rw [hg]; rfl)]
      refine q_callV C (sp_X7_becomes G _ (k := b) (sF_at _ _ _ _) hb5 (show g < 60 by have := hA.1.2; omega)) vX7_becomes lk_X7_113 rfl (by decide) rfl rfl (Nat.le_of_ble_eq_true rfl) (by decide) dX7_checkOut_35 ?_
      refine j_aload_n C dX7_checkOut_38 rfl ?_
      refine q_get C fX7 4 rfl (by decide) (by decide) lf_X7_25 rfl rfl dX7_checkOut_39 ?_
      refine j_iload_n C dX7_checkOut_42 rfl ?_
      refine q_iald C rfl (by decide) (by decide) (by omega) dX7_checkOut_43 ?_
      rw [sI_n _ _ (show (220 : Nat) ≠ 221 by decide), sI_s, upd_s]
      exact q_iretS C CM rfl (by decide) (by decide) dX7_checkOut_44 (pom_v ho rfl) (pom ho (by rw [sI_2, sI_2]; exact (sF_ne _ _ (by decide)).trans (sF_at _ _ _ _)) e (mod_trans (mod_trans (mod_sF M 7 _) (mod_sF _ 5 _)) (mod_take _ _ _)))
    · refine j_aload_n C dX7_checkOut_17 rfl ?_
      refine j_iconst C (v := nI 3) dX7_checkOut_18 rfl ?_
      refine q_callV C (sp_X7_raises G _ 3) vX7_raises lk_X7_91 rfl (by decide) rfl rfl (Nat.le_of_ble_eq_true rfl) (by decide) dX7_checkOut_19 ?_
      exact q_iretS C CM rfl (by decide) (by decide) dX7_checkOut_22 (pom_v (show oCheckOut A (nI b) = (3, 0, A) from by simp only [oCheckOut, hb, hg, if_neg (show ¬ chgA A = 0 by omega)]) rfl) (pom (show oCheckOut A (nI b) = (3, 0, A) from by simp only [oCheckOut, hb, hg, if_neg (show ¬ chgA A = 0 by omega)]) (sF_at _ _ _ _) (rm_k hA hR1 (km_sF _ _ (by decide))) (mod_trans (mod_sF M 7 _) (mod_sF _ 7 _)))
  · refine j_iconst C (v := nI 0) dX7_checkOut_8 rfl ?_
    exact q_iretS C CM rfl (by decide) (by decide) dX7_checkOut_9 (no_val (o := oCheckOut A x) hA hR h5 (fun e => by simp only [oCheckOut, e]) (fun p e0 e1 => by simp only [oCheckOut, e0, e1])).1 (no_val hA hR h5 (fun e => by simp only [oCheckOut, e]) (fun p e0 e1 => by simp only [oCheckOut, e0, e1])).2
set_option maxHeartbeats 4000000 in
set_option maxRecDepth 100000 in
theorem sp_X7_reset (G : gG) (M : gMem) {A : gSt0} (hA : gAi A) (hB : gAb A) (hR : gRM A M) (x : Int32) : SpS G mX7_reset (gRm 2 0) [.ref (gb G + 156), .int x] M (some (.int (oReset A x).2.1)) (gPom (oReset A x) M) := by
  refine Sp.of (by decide +kernel) (Nat.le_of_ble_eq_true rfl) (fun X C CM => ?_)
  have C : gC G X RX7 cX7_reset 3 (gRm 2 0) := C
  have hd := ab_hd hB
  have h60 := hA.1.2
  have h5 := hB.1
  refine j_aload_n C dX7_reset_0 rfl ?_
  refine j_aload_n C dX7_reset_1 rfl ?_
  refine j_iload_n C dX7_reset_2 rfl ?_
  refine q_callV C (sp_X7_isCommit G M hR.1.1 hA.1 x) vX7_isCommit lk_X7_117 rfl (by decide) rfl rfl (Nat.le_of_ble_eq_true rfl) (by decide) dX7_reset_3 ?_
  refine q_if_eq0 C 13 dX7_reset_6 (by decide) (fun h6 => ?_) (fun h6 => ?_)
  · refine j_iconst C (v := nI 1) dX7_reset_13 rfl ?_
    refine q_putI C fX7 7 rfl (by decide) (by decide) lf_X7_77 rfl rfl rfl (Nat.le_of_ble_eq_true rfl) rfl dX7_reset_14 ?_
    refine j_aload_n C dX7_reset_17 rfl ?_
    refine q_get C fX7 7 rfl (by decide) (by decide) lf_X7_77 rfl rfl dX7_reset_18 ?_
    rw [sF_at]
    refine j_if_le C 26 dX7_reset_21 (fun h => absurd h (by decide)) (fun _ => ?_) (by decide)
    refine j_iconst C (v := nI 0) dX7_reset_24 rfl ?_
    exact q_iretS C CM rfl (by decide) (by decide) dX7_reset_25 (pom_v (show oReset A x = (1, 0, A) from by simp only [oReset, inB_nsome h6]) rfl) (pom_x (k := 1) (by simp only [oReset, inB_nsome h6]) hA hR)
  · obtain ⟨c, hc, rfl, hc8⟩ := inB_is (n := aN A) (by omega) h6
    refine j_iconst C (v := nI 0) dX7_reset_9 rfl ?_
    refine j_goto C 14 dX7_reset_10 ?_ (by decide)
    refine q_putI C fX7 7 rfl (by decide) (by decide) lf_X7_77 rfl rfl rfl (Nat.le_of_ble_eq_true rfl) rfl dX7_reset_14 ?_
    refine j_aload_n C dX7_reset_17 rfl ?_
    refine q_get C fX7 7 rfl (by decide) (by decide) lf_X7_77 rfl rfl dX7_reset_18 ?_
    rw [sF_at]
    refine j_if_le C 26 dX7_reset_21 (fun _ => ?_) (fun h => absurd (by decide) h) (by decide)
    have ho : oReset A (nI c) = (0, nI (aHd A), takeA A c) := by simp only [oReset, hc]
    have hR1 := rm_k hA hR (km_sF M (j := 7) (nI 0) (by decide))
    refine j_aload_n C dX7_reset_26 rfl ?_
    refine q_get C fX7 4 rfl (by decide) (by decide) lf_X7_25 rfl rfl dX7_reset_27 ?_
    refine j_aload_n C dX7_reset_30 rfl ?_
    refine q_get C fX7 5 rfl (by decide) (by decide) lf_X7_95 rfl rfl dX7_reset_31 ?_
    rw [hR1.2.1.2.1]
    refine q_iald C rfl (by decide) (by decide) (by omega) dX7_reset_34 ?_
    rw [hd_M hB hR1.2.1]
    refine j_istore_n C dX7_reset_35 (by decide) rfl ?_
    refine j_aload_n C dX7_reset_36 rfl ?_
    refine j_iload_n C dX7_reset_37 rfl ?_
    refine q_callV C (sp_X7_becomes G _ (k := aC A) hR1.2.1.2.1 hB.1 (show c < 60 by omega)) vX7_becomes lk_X7_113 rfl (by decide) rfl rfl (Nat.le_of_ble_eq_true rfl) (by decide) dX7_reset_38 ?_
    refine j_iload_n C dX7_reset_41 rfl ?_
    exact q_iretS C CM rfl (by decide) (by decide) dX7_reset_42 (pom_v ho rfl) (pom ho (by exact sF_at M 156 7 (nI 0)) (rm_take hA hR1 hc8) (mod_trans (mod_sF M 7 _) (mod_take _ _ _)))
set_option maxHeartbeats 4000000 in
set_option maxRecDepth 100000 in
theorem sp_X7_head (G : gG) (M : gMem) {A : gSt0} (hA : gAi A) (hB : gAb A) (hR : gRM A M) (x : Int32) : SpS G mX7_head (gRm 2 0) [.ref (gb G + 156), .int x] M (some (.int (oHead A x).2.1)) (gPom (oHead A x) M) := by
  refine Sp.of (by decide +kernel) (Nat.le_of_ble_eq_true rfl) (fun X C CM => ?_)
  have C : gC G X RX7 cX7_head 2 (gRm 2 0) := C
  refine j_aload_n C dX7_head_0 rfl ?_
  refine j_iload_n C dX7_head_1 rfl ?_
  refine q_callV C (sp_X7_isNone G M hA hB hR.2.1.1 x) vX7_isNone lk_X7_110 rfl (by decide) rfl rfl (Nat.le_of_ble_eq_true rfl) (by decide) dX7_head_2 ?_
  refine q_if_eq0 C 12 dX7_head_5 (by decide) (fun h5 => ?_) (fun h5 => ?_)
  · obtain ⟨b, g, hb, rfl, hb5, hg, h0⟩ := no_0 h5
    rw [h0]
    have ho : oHead A (nI b) = (0, nI g, A) := by simp only [oHead, hb, hg]
    refine j_aload_n C dX7_head_12 rfl ?_
    refine q_get C fX7 4 rfl (by decide) (by decide) lf_X7_25 rfl rfl dX7_head_13 ?_
    refine j_iload_n C dX7_head_16 rfl ?_
    refine q_iald C rfl (by decide) (by decide) (by omega) dX7_head_17 ?_
    exact q_iretS C CM rfl (by decide) (by decide) dX7_head_18 (by first | exact (no_val (o := oHead A x) hA hR h5 (fun e => by simp only [oHead, e]) (fun p e0 e1 => by simp only [oHead, e0, e1])).1 | exact pom_v ho ((hR.2.1.1 b hb5).trans (by rw [hg]; rfl))) (by first | exact (no_val (o := oHead A x) hA hR h5 (fun e => by simp only [oHead, e]) (fun p e0 e1 => by simp only [oHead, e0, e1])).2 | exact pom ho (sF_at _ _ _ _) (rm_k hA hR (km_sF M (nI 0) (by decide))) (mod_sF M 7 _))
  · refine j_iconst C (v := nI 0) dX7_head_8 rfl ?_
    refine j_goto C 18 dX7_head_9 ?_ (by decide)
    exact q_iretS C CM rfl (by decide) (by decide) dX7_head_18 (by first | exact (no_val (o := oHead A x) hA hR h5 (fun e => by simp only [oHead, e]) (fun p e0 e1 => by simp only [oHead, e0, e1])).1 | exact pom_v ho ((hR.2.1.1 b hb5).trans (by rw [hg]; rfl))) (by first | exact (no_val (o := oHead A x) hA hR h5 (fun e => by simp only [oHead, e]) (fun p e0 e1 => by simp only [oHead, e0, e1])).2 | exact pom ho (sF_at _ _ _ _) (rm_k hA hR (km_sF M (nI 0) (by decide))) (mod_sF M 7 _))
set_option maxHeartbeats 4000000 in
set_option maxRecDepth 100000 in
theorem sp_X7_currentBranch (G : gG) (M : gMem) {A : gSt0} (hA : gAi A) (hB : gAb A) (hR : gRM A M) : SpS G mX7_currentBranch (gRm 0 0) [.ref (gb G + 156)] M (some (.int (nI (aC A)))) (gPom (0, nI (aC A), A) M) := by
  refine Sp.of (by decide +kernel) (Nat.le_of_ble_eq_true rfl) (fun X C CM => ?_)
  have C : gC G X RX7 cX7_currentBranch 1 (gRm 0 0) := C
  refine j_aload_n C dX7_currentBranch_0 rfl ?_
  refine j_iconst C (v := nI 0) dX7_currentBranch_1 rfl ?_
  refine q_putI C fX7 7 rfl (by decide) (by decide) lf_X7_77 rfl rfl rfl (Nat.le_of_ble_eq_true rfl) rfl dX7_currentBranch_2 ?_
  refine j_aload_n C dX7_currentBranch_5 rfl ?_
  refine q_get C fX7 5 rfl (by decide) (by decide) lf_X7_95 rfl rfl dX7_currentBranch_6 ?_
  exact q_iretS C CM rfl (by decide) (by decide) dX7_currentBranch_9 (by first | exact hR.2.1.2.1 | exact (rm_k hA hR (km_sF M (j := 7) (nI 0) (by decide))).2.1.2.1) (pom rfl (sF_at _ _ _ _) (rm_k hA hR (km_sF M (nI 0) (by decide))) (mod_sF M 7 _))
set_option maxHeartbeats 4000000 in
set_option maxRecDepth 100000 in
theorem sp_X7_commits (G : gG) (M : gMem) {A : gSt0} (hA : gAi A) (hB : gAb A) (hR : gRM A M) : SpS G mX7_commits (gRm 0 0) [.ref (gb G + 156)] M (some (.int (nI (aN A)))) (gPom (0, nI (aN A), A) M) := by
  refine Sp.of (by decide +kernel) (Nat.le_of_ble_eq_true rfl) (fun X C CM => ?_)
  have C : gC G X RX7 cX7_commits 1 (gRm 0 0) := C
  refine j_aload_n C dX7_commits_0 rfl ?_
  refine j_iconst C (v := nI 0) dX7_commits_1 rfl ?_
  refine q_putI C fX7 7 rfl (by decide) (by decide) lf_X7_77 rfl rfl rfl (Nat.le_of_ble_eq_true rfl) rfl dX7_commits_2 ?_
  refine j_aload_n C dX7_commits_5 rfl ?_
  refine q_get C fX7 3 rfl (by decide) (by decide) lf_X7_21 rfl rfl dX7_commits_6 ?_
  exact q_iretS C CM rfl (by decide) (by decide) dX7_commits_9 (rm_k hA hR (km_sF M (j := 7) (nI 0) (by decide))).1.1 (pom rfl (sF_at _ _ _ _) (rm_k hA hR (km_sF M (nI 0) (by decide))) (mod_sF M 7 _))
set_option maxHeartbeats 4000000 in
set_option maxRecDepth 100000 in
theorem sp_X7_thrown (G : gG) (M : gMem) : SpR G mX7_thrown (gRm 0 0) [.ref (gb G + 156)] M (some (.int (M.2.2.1 156 7))) M := by
  refine Sp.of (by decide +kernel) (Nat.le_of_ble_eq_true rfl) (fun X C CM => ?_)
  have C : gC G X RX7 cX7_thrown 1 (gRm 0 0) := C
  refine j_aload_n C dX7_thrown_0 rfl ?_
  refine q_get C fX7 7 rfl (by decide) (by decide) lf_X7_77 rfl rfl dX7_thrown_1 ?_
  exact q_iret C CM rfl (by decide) (by decide) dX7_thrown_4 rfl rfl
