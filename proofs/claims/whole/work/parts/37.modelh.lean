theorem km_236 {M : gMem} {f : Nat → Int32} (h : f 0 = M.1 236 0) : gKm M (sI M 236 f) := ⟨fun a ha => sI_n _ _ (by omega), by rw [sI_s]; exact h, rfl, rfl, mod_sI M f (by decide)⟩
theorem mx_nI {a b : Nat} (ha : a < 2 ^ 31) (hb : b < 2 ^ 31) : (if nI a < nI b then nI b else nI a) = nI (Nat.max a b) := by
  by_cases h : a < b
  · rw [if_pos ((nI_ltI ha hb).mpr h)]
    congr 1
    exact (Nat.max_eq_right (Nat.le_of_lt h)).symm
  · rw [if_neg (fun w => h ((nI_ltI ha hb).mp w))]
    congr 1
    exact (Nat.max_eq_left (Nat.le_of_not_lt h)).symm
theorem gj_max7 : Cond.methodLink RX7 178 Lib.Math.max.name ∈ gw := gw_t 1110 (by decide +kernel) rfl
theorem lc_0 {A : gSt0} (hA : gAi A) {D : Nat → Nat → Bool} (f : Nat) : lch D (aF A) f 0 = none := lch_none (ai_0 hA).1
theorem pom_x2 {o : gRes} {k w : Nat} {A : gSt0} {M : gMem} (ho : o = (k, 0, A)) (hA : gAi A) (hR : gRM A M) : gPom o M (sF (sF M 156 7 (nI w)) 156 7 (nI k)) := pom_3 ho hA (rm_k hA hR (km_sF M _ (by decide))) (mod_sF M 7 _)
theorem up_0 {f : Nat → Int32} {i : Nat} {x : Int32} (h : f 0 = 0) (hi : 1 ≤ i) : upd f i x 0 = 0 := by rw [upd_n _ _ (by omega)]; exact h
theorem gn_up1 {fp sp : Nat → Option Nat} (hl : gLow fp sp) {i p : Nat} {f : Nat → Int32} (hp : fp i = some p) (hs : sp i = none) (hf : ∀ c, c < i → f c = nI (gn fp sp c)) : ∀ c, c < i + 1 → upd f i (nI (1 + Nat.max (gn fp sp p) 0)) c = nI (gn fp sp c) := fun c hc => by
  by_cases e : c = i
  · rw [e, upd_s, gn_eq hl hp, hs]
  · rw [upd_n _ _ e]; exact hf c (by omega)
theorem gn_up2 {fp sp : Nat → Option Nat} (hl : gLow fp sp) {i p q : Nat} {f : Nat → Int32} (hp : fp i = some p) (hs : sp i = some q) (hf : ∀ c, c < i → f c = nI (gn fp sp c)) : ∀ c, c < i + 1 → upd f i (nI (1 + Nat.max (gn fp sp p) (gn fp sp q))) c = nI (gn fp sp c) := fun c hc => by
  by_cases e : c = i
  · rw [e, upd_s, gn_eq hl hp, hs]
  · rw [upd_n _ _ e]; exact hf c (by omega)
set_option maxHeartbeats 4000000 in
set_option maxRecDepth 100000 in
theorem sp_X7_contentIn (G : gG) (M : gMem) {A : gSt0} (hA : gAi A) (hR : gRM A M) (x y : Int32) : SpS G mX7_contentIn (gRm 3 0) [.ref (gb G + 156), .int x, .int y] M (some (.int (oContentIn A x y).2.1)) (gPom (oContentIn A x y) M) := by
  refine Sp.of (by decide +kernel) (Nat.le_of_ble_eq_true rfl) (fun X C CM => ?_)
  have C : gC G X RX7 cX7_contentIn 3 (gRm 3 0) := C
  have h60 := hA.1.2
  refine j_aload_n C dX7_contentIn_0 rfl ?_
  refine j_aload_n C dX7_contentIn_1 rfl ?_
  refine j_iload_n C dX7_contentIn_2 rfl ?_
  refine q_callV C (sp_X7_isCommit G M hR.1.1 hA.1 x) vX7_isCommit lk_X7_117 rfl (by decide) rfl rfl (Nat.le_of_ble_eq_true rfl) (by decide) dX7_contentIn_3 ?_
  refine q_if_eq0 C 16 dX7_contentIn_6 (by decide) (fun h6 => ?_) (fun h6 => ?_)
  · refine j_iconst C (v := nI 1) dX7_contentIn_16 rfl ?_
    refine j_goto C 37 dX7_contentIn_17 ?_ (by decide)
    refine q_putI C fX7 7 rfl (by decide) (by decide) lf_X7_77 rfl rfl rfl (Nat.le_of_ble_eq_true rfl) rfl dX7_contentIn_37 ?_
    refine j_aload_n C dX7_contentIn_40 rfl ?_
    refine q_get C fX7 7 rfl (by decide) (by decide) lf_X7_77 rfl rfl dX7_contentIn_41 ?_
    rw [sF_at]
    refine j_if_le C 51 dX7_contentIn_44 (fun h => absurd h (by decide)) (fun _ => ?_) (by decide)
    refine j_iconst C (v := nI 0) dX7_contentIn_47 rfl ?_
    refine j_goto C 59 dX7_contentIn_48 ?_ (by decide)
    exact q_iretS C CM rfl (by decide) (by decide) dX7_contentIn_59 (by first | exact pom_v (show oContentIn A x y = (1, 0, A) from by simp only [oContentIn, inB_nsome h6]) rfl | exact pom_v (show oContentIn A (nI c) y = (1, 0, A) from by simp only [oContentIn, hc, inB_nsome h13]) rfl | exact pom_v (show oContentIn A (nI c) (nI p) = (2, 0, A) from by simp only [oContentIn, hc, hp, h29]) rfl | exact pom_v (show oContentIn A (nI c) (nI p) = (0, nI v29, A) from by simp only [oContentIn, hc, hp, h29]) ((hR.1.2.2 c hc8 p hp8).trans (by rw [h29]; rfl))) (by first | exact pom_x (k := 1) (show oContentIn A x y = (1, 0, A) from by simp only [oContentIn, inB_nsome h6]) hA hR | exact pom_x (k := 1) (show oContentIn A (nI c) y = (1, 0, A) from by simp only [oContentIn, hc, inB_nsome h13]) hA hR | exact pom_x (k := 2) (show oContentIn A (nI c) (nI p) = (2, 0, A) from by simp only [oContentIn, hc, hp, h29]) hA hR | exact pom (show oContentIn A (nI c) (nI p) = (0, nI v29, A) from by simp only [oContentIn, hc, hp, h29]) (sF_at _ _ _ _) (rm_k hA hR (km_sF M (nI 0) (by decide))) (mod_sF M 7 _))
  · obtain ⟨c, hc, rfl, hc8⟩ := inB_is (n := aN A) (by omega) h6
    refine j_iload_n C dX7_contentIn_9 rfl ?_
    refine q_callS C (sp_X7_isPath G M y) vX7_isPath lk_X7_84 rfl rfl (Nat.le_of_ble_eq_true rfl) (by decide) dX7_contentIn_10 ?_
    refine q_if_ne0 C 20 dX7_contentIn_13 (by decide) (fun h13 => ?_) (fun h13 => ?_)
    · obtain ⟨p, hp, rfl, hp8⟩ := inB_is (n := 8) (by decide) h13
      refine j_aload_n C dX7_contentIn_20 rfl ?_
      refine q_get C fX7 0 rfl (by decide) (by decide) lf_X7_11 rfl rfl dX7_contentIn_21 ?_
      refine j_iload_n C dX7_contentIn_24 rfl ?_
      refine q_aald157 C (by omega) dX7_contentIn_25 ?_
      refine j_iload_n C dX7_contentIn_26 rfl ?_
      refine q_iald C (gKd_row (show c < 60 by omega)) (by omega) (by decide) (by omega) dX7_contentIn_27 ?_
      rw [hR.1.2.2 c hc8 p hp8]
      refine j_iconst C (v := -1) dX7_contentIn_28 rfl ?_
      refine q_icmp_neN C 36 dX7_contentIn_29 (by decide) (nI_lt8 (hA.2.2.2 c) hp8) (fun v29 h29 => ?_) (fun h29 => ?_)
      · refine j_iconst C (v := nI 0) dX7_contentIn_36 rfl ?_
        refine q_putI C fX7 7 rfl (by decide) (by decide) lf_X7_77 rfl rfl rfl (Nat.le_of_ble_eq_true rfl) rfl dX7_contentIn_37 ?_
        refine j_aload_n C dX7_contentIn_40 rfl ?_
        refine q_get C fX7 7 rfl (by decide) (by decide) lf_X7_77 rfl rfl dX7_contentIn_41 ?_
        rw [sF_at]
        refine j_if_le C 51 dX7_contentIn_44 (fun _ => ?_) (fun h => absurd (by decide) h) (by decide)
        refine j_aload_n C dX7_contentIn_51 rfl ?_
        refine q_get C fX7 0 rfl (by decide) (by decide) lf_X7_11 rfl rfl dX7_contentIn_52 ?_
        refine j_iload_n C dX7_contentIn_55 rfl ?_
        refine q_aald157 C (by omega) dX7_contentIn_56 ?_
        refine j_iload_n C dX7_contentIn_57 rfl ?_
        refine q_iald C (gKd_row (show c < 60 by omega)) (by omega) (by decide) (by omega) dX7_contentIn_58 ?_
        exact q_iretS C CM rfl (by decide) (by decide) dX7_contentIn_59 (by first | exact pom_v (show oContentIn A x y = (1, 0, A) from by simp only [oContentIn, inB_nsome h6]) rfl | exact pom_v (show oContentIn A (nI c) y = (1, 0, A) from by simp only [oContentIn, hc, inB_nsome h13]) rfl | exact pom_v (show oContentIn A (nI c) (nI p) = (2, 0, A) from by simp only [oContentIn, hc, hp, h29]) rfl | exact pom_v (show oContentIn A (nI c) (nI p) = (0, nI v29, A) from by simp only [oContentIn, hc, hp, h29]) ((hR.1.2.2 c hc8 p hp8).trans (by rw [h29]; rfl))) (by first | exact pom_x (k := 1) (show oContentIn A x y = (1, 0, A) from by simp only [oContentIn, inB_nsome h6]) hA hR | exact pom_x (k := 1) (show oContentIn A (nI c) y = (1, 0, A) from by simp only [oContentIn, hc, inB_nsome h13]) hA hR | exact pom_x (k := 2) (show oContentIn A (nI c) (nI p) = (2, 0, A) from by simp only [oContentIn, hc, hp, h29]) hA hR | exact pom (show oContentIn A (nI c) (nI p) = (0, nI v29, A) from by simp only [oContentIn, hc, hp, h29]) (sF_at _ _ _ _) (rm_k hA hR (km_sF M (nI 0) (by decide))) (mod_sF M 7 _))
      · refine j_iconst C (v := nI 2) dX7_contentIn_32 rfl ?_
        refine j_goto C 37 dX7_contentIn_33 ?_ (by decide)
        refine q_putI C fX7 7 rfl (by decide) (by decide) lf_X7_77 rfl rfl rfl (Nat.le_of_ble_eq_true rfl) rfl dX7_contentIn_37 ?_
        refine j_aload_n C dX7_contentIn_40 rfl ?_
        refine q_get C fX7 7 rfl (by decide) (by decide) lf_X7_77 rfl rfl dX7_contentIn_41 ?_
        rw [sF_at]
        refine j_if_le C 51 dX7_contentIn_44 (fun h => absurd h (by decide)) (fun _ => ?_) (by decide)
        refine j_iconst C (v := nI 0) dX7_contentIn_47 rfl ?_
        refine j_goto C 59 dX7_contentIn_48 ?_ (by decide)
        exact q_iretS C CM rfl (by decide) (by decide) dX7_contentIn_59 (by first | exact pom_v (show oContentIn A x y = (1, 0, A) from by simp only [oContentIn, inB_nsome h6]) rfl | exact pom_v (show oContentIn A (nI c) y = (1, 0, A) from by simp only [oContentIn, hc, inB_nsome h13]) rfl | exact pom_v (show oContentIn A (nI c) (nI p) = (2, 0, A) from by simp only [oContentIn, hc, hp, h29]) rfl | exact pom_v (show oContentIn A (nI c) (nI p) = (0, nI v29, A) from by simp only [oContentIn, hc, hp, h29]) ((hR.1.2.2 c hc8 p hp8).trans (by rw [h29]; rfl))) (by first | exact pom_x (k := 1) (show oContentIn A x y = (1, 0, A) from by simp only [oContentIn, inB_nsome h6]) hA hR | exact pom_x (k := 1) (show oContentIn A (nI c) y = (1, 0, A) from by simp only [oContentIn, hc, inB_nsome h13]) hA hR | exact pom_x (k := 2) (show oContentIn A (nI c) (nI p) = (2, 0, A) from by simp only [oContentIn, hc, hp, h29]) hA hR | exact pom (show oContentIn A (nI c) (nI p) = (0, nI v29, A) from by simp only [oContentIn, hc, hp, h29]) (sF_at _ _ _ _) (rm_k hA hR (km_sF M (nI 0) (by decide))) (mod_sF M 7 _))
    · refine j_iconst C (v := nI 1) dX7_contentIn_16 rfl ?_
      refine j_goto C 37 dX7_contentIn_17 ?_ (by decide)
      refine q_putI C fX7 7 rfl (by decide) (by decide) lf_X7_77 rfl rfl rfl (Nat.le_of_ble_eq_true rfl) rfl dX7_contentIn_37 ?_
      refine j_aload_n C dX7_contentIn_40 rfl ?_
      refine q_get C fX7 7 rfl (by decide) (by decide) lf_X7_77 rfl rfl dX7_contentIn_41 ?_
      rw [sF_at]
      refine j_if_le C 51 dX7_contentIn_44 (fun h => absurd h (by decide)) (fun _ => ?_) (by decide)
      refine j_iconst C (v := nI 0) dX7_contentIn_47 rfl ?_
      refine j_goto C 59 dX7_contentIn_48 ?_ (by decide)
      exact q_iretS C CM rfl (by decide) (by decide) dX7_contentIn_59 (by first | exact pom_v (show oContentIn A x y = (1, 0, A) from by simp only [oContentIn, inB_nsome h6]) rfl | exact pom_v (show oContentIn A (nI c) y = (1, 0, A) from by simp only [oContentIn, hc, inB_nsome h13]) rfl | exact pom_v (show oContentIn A (nI c) (nI p) = (2, 0, A) from by simp only [oContentIn, hc, hp, h29]) rfl | exact pom_v (show oContentIn A (nI c) (nI p) = (0, nI v29, A) from by simp only [oContentIn, hc, hp, h29]) ((hR.1.2.2 c hc8 p hp8).trans (by rw [h29]; rfl))) (by first | exact pom_x (k := 1) (show oContentIn A x y = (1, 0, A) from by simp only [oContentIn, inB_nsome h6]) hA hR | exact pom_x (k := 1) (show oContentIn A (nI c) y = (1, 0, A) from by simp only [oContentIn, hc, inB_nsome h13]) hA hR | exact pom_x (k := 2) (show oContentIn A (nI c) (nI p) = (2, 0, A) from by simp only [oContentIn, hc, hp, h29]) hA hR | exact pom (show oContentIn A (nI c) (nI p) = (0, nI v29, A) from by simp only [oContentIn, hc, hp, h29]) (sF_at _ _ _ _) (rm_k hA hR (km_sF M (nI 0) (by decide))) (mod_sF M 7 _))
set_option maxHeartbeats 4000000 in
set_option maxRecDepth 100000 in
theorem sp_X7_parentOf (G : gG) (M : gMem) {A : gSt0} (hA : gAi A) (hR : gRM A M) (x y : Int32) : SpS G mX7_parentOf (gRm 2 0) [.ref (gb G + 156), .int x, .int y] M (some (.int (oParentOf A x y).2.1)) (gPom (oParentOf A x y) M) := by
  refine Sp.of (by decide +kernel) (Nat.le_of_ble_eq_true rfl) (fun X C CM => ?_)
  have C : gC G X RX7 cX7_parentOf 4 (gRm 2 0) := C
  have h60 := hA.1.2
  refine j_aload_n C dX7_parentOf_0 rfl ?_
  refine j_iload_n C dX7_parentOf_1 rfl ?_
  refine q_callV C (sp_X7_isCommit G M hR.1.1 hA.1 x) vX7_isCommit lk_X7_117 rfl (by decide) rfl rfl (Nat.le_of_ble_eq_true rfl) (by decide) dX7_parentOf_2 ?_
  refine q_if_eq0 C 17 dX7_parentOf_5 (by decide) (fun h5 => ?_) (fun h5 => ?_)
  · refine j_aload_n C dX7_parentOf_17 rfl ?_
    refine j_iconst C (v := nI 1) dX7_parentOf_18 rfl ?_
    refine q_callV C (sp_X7_raises G M 1) vX7_raises lk_X7_91 rfl (by decide) rfl rfl (Nat.le_of_ble_eq_true rfl) (by decide) dX7_parentOf_19 ?_
    exact q_iretS C CM rfl (by decide) (by decide) dX7_parentOf_22 (by first | exact pom_v (show oParentOf A x y = (1, 0, A) from by simp only [oParentOf, inB_nsome h5]) rfl | exact pom_v (show oParentOf A (nI c) y = (1, 0, A) from by simp only [oParentOf, hc, inB_nsome h14]) rfl) (by first | exact pom_x (show oParentOf A x y = (1, 0, A) from by simp only [oParentOf, inB_nsome h5]) hA hR | exact pom_x (show oParentOf A (nI c) y = (1, 0, A) from by simp only [oParentOf, hc, inB_nsome h14]) hA hR)
  · obtain ⟨c, hc, rfl, hc8⟩ := inB_is (n := aN A) (by omega) h5
    refine j_iload_n C dX7_parentOf_8 rfl ?_
    refine j_iconst C (v := nI 0) dX7_parentOf_9 rfl ?_
    refine j_iconst C (v := nI 1) dX7_parentOf_10 rfl ?_
    refine q_callS C (sp_X7_in G M y (nI 0) (nI 1)) vX7_in lk_X7_80 rfl rfl (Nat.le_of_ble_eq_true rfl) (by decide) dX7_parentOf_11 ?_
    rw [in_inB (n := 2) (by decide) (by decide)]
    refine q_if_ne0 C 23 dX7_parentOf_14 (by decide) (fun h14 => ?_) (fun h14 => ?_)
    · obtain ⟨e, he, rfl, he2⟩ := inB_is (n := 2) (by decide) h14
      refine j_iload_n C dX7_parentOf_23 rfl ?_
      refine q_ifz_ne C 36 dX7_parentOf_24 (by decide) (by omega) (fun h24 => ?_) (fun h24 => ?_)
      · refine j_aload_n C dX7_parentOf_36 rfl ?_
        refine q_get C fX7 2 rfl (by decide) (by decide) lf_X7_18 rfl rfl dX7_parentOf_37 ?_
        refine j_iload_n C dX7_parentOf_40 rfl ?_
        refine q_iald C rfl (by decide) (by decide) (by omega) dX7_parentOf_41 ?_
        try rw [(hR.1.2.1 c hc8).2, show aS A c = parO A c e from (if_neg (by omega)).symm]
        refine j_istore_n C dX7_parentOf_42 (by decide) rfl ?_
        refine j_aload_n C dX7_parentOf_43 rfl ?_
        refine j_iconst C (v := nI 0) dX7_parentOf_44 rfl ?_
        refine q_putI C fX7 7 rfl (by decide) (by decide) lf_X7_77 rfl rfl rfl (Nat.le_of_ble_eq_true rfl) rfl dX7_parentOf_45 ?_
        refine j_iload_n C dX7_parentOf_48 rfl ?_
        refine j_iconst C (v := -1) dX7_parentOf_49 rfl ?_
        refine q_icmp_neN C 61 dX7_parentOf_50 (by decide) (par_lt hA hc8) (fun v50 h50 => ?_) (fun h50 => ?_)
        · refine j_iload_n C dX7_parentOf_61 rfl ?_
          exact q_iretS C CM rfl (by decide) (by decide) dX7_parentOf_62 (by first | exact pom_v (show oParentOf A (nI c) (nI e) = (2, 0, A) from by simp only [oParentOf, hc, he, h50]) rfl | exact pom_v (show oParentOf A (nI c) (nI e) = (0, nI v50, A) from by simp only [oParentOf, hc, he, h50]) (by rw [h50]; rfl)) (by first | exact pom_x2 (show oParentOf A (nI c) (nI e) = (2, 0, A) from by simp only [oParentOf, hc, he, h50]) hA hR | exact pom (show oParentOf A (nI c) (nI e) = (0, nI v50, A) from by simp only [oParentOf, hc, he, h50]) (sF_at _ _ _ _) (rm_k hA hR (km_sF M (nI 0) (by decide))) (mod_sF M 7 _))
        · refine j_aload_n C dX7_parentOf_53 rfl ?_
          refine j_iconst C (v := nI 2) dX7_parentOf_54 rfl ?_
          refine q_callV C (sp_X7_raises G _ 2) vX7_raises lk_X7_91 rfl (by decide) rfl rfl (Nat.le_of_ble_eq_true rfl) (by decide) dX7_parentOf_55 ?_
          refine j_goto C 62 dX7_parentOf_58 ?_ (by decide)
          exact q_iretS C CM rfl (by decide) (by decide) dX7_parentOf_62 (by first | exact pom_v (show oParentOf A (nI c) (nI e) = (2, 0, A) from by simp only [oParentOf, hc, he, h50]) rfl | exact pom_v (show oParentOf A (nI c) (nI e) = (0, nI v50, A) from by simp only [oParentOf, hc, he, h50]) (by rw [h50]; rfl)) (by first | exact pom_x2 (show oParentOf A (nI c) (nI e) = (2, 0, A) from by simp only [oParentOf, hc, he, h50]) hA hR | exact pom (show oParentOf A (nI c) (nI e) = (0, nI v50, A) from by simp only [oParentOf, hc, he, h50]) (sF_at _ _ _ _) (rm_k hA hR (km_sF M (nI 0) (by decide))) (mod_sF M 7 _))
      · refine j_aload_n C dX7_parentOf_27 rfl ?_
        refine q_get C fX7 1 rfl (by decide) (by decide) lf_X7_14 rfl rfl dX7_parentOf_28 ?_
        refine j_iload_n C dX7_parentOf_31 rfl ?_
        refine q_iald C rfl (by decide) (by decide) (by omega) dX7_parentOf_32 ?_
        rw [(hR.1.2.1 c hc8).1, show aF A c = parO A c e from (if_pos h24).symm]
        refine j_goto C 42 dX7_parentOf_33 ?_ (by decide)
        try rw [(hR.1.2.1 c hc8).2, show aS A c = parO A c e from (if_neg (by omega)).symm]
        refine j_istore_n C dX7_parentOf_42 (by decide) rfl ?_
        refine j_aload_n C dX7_parentOf_43 rfl ?_
        refine j_iconst C (v := nI 0) dX7_parentOf_44 rfl ?_
        refine q_putI C fX7 7 rfl (by decide) (by decide) lf_X7_77 rfl rfl rfl (Nat.le_of_ble_eq_true rfl) rfl dX7_parentOf_45 ?_
        refine j_iload_n C dX7_parentOf_48 rfl ?_
        refine j_iconst C (v := -1) dX7_parentOf_49 rfl ?_
        refine q_icmp_neN C 61 dX7_parentOf_50 (by decide) (par_lt hA hc8) (fun v50 h50 => ?_) (fun h50 => ?_)
        · refine j_iload_n C dX7_parentOf_61 rfl ?_
          exact q_iretS C CM rfl (by decide) (by decide) dX7_parentOf_62 (by first | exact pom_v (show oParentOf A (nI c) (nI e) = (2, 0, A) from by simp only [oParentOf, hc, he, h50]) rfl | exact pom_v (show oParentOf A (nI c) (nI e) = (0, nI v50, A) from by simp only [oParentOf, hc, he, h50]) (by rw [h50]; rfl)) (by first | exact pom_x2 (show oParentOf A (nI c) (nI e) = (2, 0, A) from by simp only [oParentOf, hc, he, h50]) hA hR | exact pom (show oParentOf A (nI c) (nI e) = (0, nI v50, A) from by simp only [oParentOf, hc, he, h50]) (sF_at _ _ _ _) (rm_k hA hR (km_sF M (nI 0) (by decide))) (mod_sF M 7 _))
        · refine j_aload_n C dX7_parentOf_53 rfl ?_
          refine j_iconst C (v := nI 2) dX7_parentOf_54 rfl ?_
          refine q_callV C (sp_X7_raises G _ 2) vX7_raises lk_X7_91 rfl (by decide) rfl rfl (Nat.le_of_ble_eq_true rfl) (by decide) dX7_parentOf_55 ?_
          refine j_goto C 62 dX7_parentOf_58 ?_ (by decide)
          exact q_iretS C CM rfl (by decide) (by decide) dX7_parentOf_62 (by first | exact pom_v (show oParentOf A (nI c) (nI e) = (2, 0, A) from by simp only [oParentOf, hc, he, h50]) rfl | exact pom_v (show oParentOf A (nI c) (nI e) = (0, nI v50, A) from by simp only [oParentOf, hc, he, h50]) (by rw [h50]; rfl)) (by first | exact pom_x2 (show oParentOf A (nI c) (nI e) = (2, 0, A) from by simp only [oParentOf, hc, he, h50]) hA hR | exact pom (show oParentOf A (nI c) (nI e) = (0, nI v50, A) from by simp only [oParentOf, hc, he, h50]) (sF_at _ _ _ _) (rm_k hA hR (km_sF M (nI 0) (by decide))) (mod_sF M 7 _))
    · refine j_aload_n C dX7_parentOf_17 rfl ?_
      refine j_iconst C (v := nI 1) dX7_parentOf_18 rfl ?_
      refine q_callV C (sp_X7_raises G M 1) vX7_raises lk_X7_91 rfl (by decide) rfl rfl (Nat.le_of_ble_eq_true rfl) (by decide) dX7_parentOf_19 ?_
      exact q_iretS C CM rfl (by decide) (by decide) dX7_parentOf_22 (by first | exact pom_v (show oParentOf A x y = (1, 0, A) from by simp only [oParentOf, inB_nsome h5]) rfl | exact pom_v (show oParentOf A (nI c) y = (1, 0, A) from by simp only [oParentOf, hc, inB_nsome h14]) rfl) (by first | exact pom_x (show oParentOf A x y = (1, 0, A) from by simp only [oParentOf, inB_nsome h5]) hA hR | exact pom_x (show oParentOf A (nI c) y = (1, 0, A) from by simp only [oParentOf, hc, inB_nsome h14]) hA hR)
set_option maxHeartbeats 4000000 in
set_option maxRecDepth 100000 in
theorem sp_X7_findsGenerations (G : gG) (M : gMem) {A : gSt0} (hA : gAi A) (hk : gRk A M) (h0 : M.1 236 0 = 0) : SpS G mX7_findsGenerations (gRm 0 0) [.ref (gb G + 156)] M (none) (fun M2 => ∃ f, M2 = sI M 236 f ∧ f 0 = 0 ∧ ∀ c, c < aN A → f c = nI (gn (aF A) (aS A) c)) := by
  refine Sp.of (by decide +kernel) (Nat.le_of_ble_eq_true rfl) (fun X C CM => ?_)
  have C : gC G X RX7 cX7_findsGenerations 3 (gRm 0 0) := C
  have h60 := hA.1.2
  have h1n := hA.1.1
  refine j_iconst C (v := nI 1) dX7_findsGenerations_0 rfl ?_
  refine j_istore_n C dX7_findsGenerations_1 (by decide) rfl ?_
  have K2 : ∀ i, i ≤ aN A → ∀ f, f 0 = 0 → 1 ≤ i → (∀ c, c < i → f c = nI (gn (aF A) (aS A) c)) → Q G X 0 0 2 [some (.ref (gb G + 156)), some (.int (nI i)), none] [] (sI M 236 f) := by
    refine g_up _ _ (fun i hi ih => ?_)
    intro f f0 hi1 hf
    refine j_iload_n C dX7_findsGenerations_2 rfl ?_
    refine j_aload_n C dX7_findsGenerations_3 rfl ?_
    refine q_get C fX7 3 rfl (by decide) (by decide) lf_X7_21 rfl rfl dX7_findsGenerations_4 ?_
    rw [show (sI M 236 f).2.2.1 156 3 = nI (aN A) from hk.1]
    refine q_icmp_ge C 65 dX7_findsGenerations_7 (by decide) (by omega) (by omega) (fun h7 => ?_) (fun h7 => ?_)
    · exact q_vretS C CM rfl (by decide) (by decide) dX7_findsGenerations_65 ⟨f, rfl, f0, fun c hc => hf c (by omega)⟩
    · obtain ⟨p, hp⟩ := Option.isSome_iff_exists.mp (hA.2.2.1 i h7 (by omega))
      have hpl := hA.2.1.1 _ _ hp
      have hgp := gn_le hA.2.1 p
      refine j_aload_n C dX7_findsGenerations_10 rfl ?_
      refine q_get C fX7 2 rfl (by decide) (by decide) lf_X7_18 rfl rfl dX7_findsGenerations_11 ?_
      refine j_iload_n C dX7_findsGenerations_14 rfl ?_
      refine q_iald C rfl (by decide) (by decide) (by omega) dX7_findsGenerations_15 ?_
      rw [show (sI M 236 f).1 219 i = oI (aS A i) from (hk.2.1 i h7).2]
      refine j_iconst C (v := -1) dX7_findsGenerations_16 rfl ?_
      refine q_icmp_neN C 24 dX7_findsGenerations_17 (by decide) (fun v hv => by have := hA.2.1.2 _ _ hv; omega) (fun v17 h17 => ?_) (fun h17 => ?_)
      · refine j_aload_n C dX7_findsGenerations_24 rfl ?_
        refine q_get C fX7 24 rfl (by decide) (by decide) lf_X7_74 rfl rfl dX7_findsGenerations_25 ?_
        refine j_aload_n C dX7_findsGenerations_28 rfl ?_
        refine q_get C fX7 2 rfl (by decide) (by decide) lf_X7_18 rfl rfl dX7_findsGenerations_29 ?_
        refine j_iload_n C dX7_findsGenerations_32 rfl ?_
        refine q_iald C rfl (by decide) (by decide) (by omega) dX7_findsGenerations_33 ?_
        rw [show (sI M 236 f).1 219 i = nI v17 from (hk.2.1 i h7).2.trans (by rw [h17]; rfl)]
        have hql := hA.2.1.2 _ _ h17
        have hgq := gn_le hA.2.1 v17
        refine q_iald C rfl (by decide) (by decide) (by omega) dX7_findsGenerations_34 ?_
        try rw [sI_s, hf v17 (by omega)]
        refine j_istore_n C dX7_findsGenerations_35 (by decide) rfl ?_
        refine j_aload_n C dX7_findsGenerations_36 rfl ?_
        refine q_get C fX7 24 rfl (by decide) (by decide) lf_X7_74 rfl rfl dX7_findsGenerations_37 ?_
        refine j_iload_n C dX7_findsGenerations_40 rfl ?_
        refine j_iconst C (v := nI 1) dX7_findsGenerations_41 rfl ?_
        refine j_aload_n C dX7_findsGenerations_42 rfl ?_
        refine q_get C fX7 24 rfl (by decide) (by decide) lf_X7_74 rfl rfl dX7_findsGenerations_43 ?_
        refine j_aload_n C dX7_findsGenerations_46 rfl ?_
        refine q_get C fX7 1 rfl (by decide) (by decide) lf_X7_14 rfl rfl dX7_findsGenerations_47 ?_
        refine j_iload_n C dX7_findsGenerations_50 rfl ?_
        refine q_iald C rfl (by decide) (by decide) (by omega) dX7_findsGenerations_51 ?_
        rw [show (sI M 236 f).1 218 i = nI p from (hk.2.1 i h7).1.trans (by rw [hp]; rfl)]
        refine q_iald C rfl (by decide) (by decide) (by omega) dX7_findsGenerations_52 ?_
        rw [sI_s, hf p (by omega)]
        refine j_iload_n C dX7_findsGenerations_53 rfl ?_
        refine q_mmax C gj_max7 gj_maxs gj_maxi gj_maxc (by decide) (by decide) (Nat.le_of_ble_eq_true rfl) (by decide) (by decide) dX7_findsGenerations_54 ?_
        first | rw [mx_nI (a := gn (aF A) (aS A) p) (b := 0) (by omega) (by decide)] | rw [mx_nI (a := gn (aF A) (aS A) p) (b := gn (aF A) (aS A) v17) (by omega) (by omega)]
        refine q_iadd C dX7_findsGenerations_57 ?_
        refine q_iast C rfl (by decide) (by decide) (by omega) dX7_findsGenerations_58 ?_
        refine q_iinc C dX7_findsGenerations_59 rfl (by decide) rfl ?_
        refine j_goto C 2 dX7_findsGenerations_62 ?_ (by decide)
        exact q_cast (ih (by omega) _ (up_0 f0 hi1) (by omega) (by first | exact gn_up1 hA.2.1 hp h17 hf | exact gn_up2 hA.2.1 hp h17 hf)) (gLe_c rfl (gLe_c rfl (gLe_n gLe_0))) (by rw [sI_sI, sI_s])
      · refine j_iconst C (v := nI 0) dX7_findsGenerations_20 rfl ?_
        refine j_goto C 35 dX7_findsGenerations_21 ?_ (by decide)
        try rw [sI_s, hf v17 (by omega)]
        refine j_istore_n C dX7_findsGenerations_35 (by decide) rfl ?_
        refine j_aload_n C dX7_findsGenerations_36 rfl ?_
        refine q_get C fX7 24 rfl (by decide) (by decide) lf_X7_74 rfl rfl dX7_findsGenerations_37 ?_
        refine j_iload_n C dX7_findsGenerations_40 rfl ?_
        refine j_iconst C (v := nI 1) dX7_findsGenerations_41 rfl ?_
        refine j_aload_n C dX7_findsGenerations_42 rfl ?_
        refine q_get C fX7 24 rfl (by decide) (by decide) lf_X7_74 rfl rfl dX7_findsGenerations_43 ?_
        refine j_aload_n C dX7_findsGenerations_46 rfl ?_
        refine q_get C fX7 1 rfl (by decide) (by decide) lf_X7_14 rfl rfl dX7_findsGenerations_47 ?_
        refine j_iload_n C dX7_findsGenerations_50 rfl ?_
        refine q_iald C rfl (by decide) (by decide) (by omega) dX7_findsGenerations_51 ?_
        rw [show (sI M 236 f).1 218 i = nI p from (hk.2.1 i h7).1.trans (by rw [hp]; rfl)]
        refine q_iald C rfl (by decide) (by decide) (by omega) dX7_findsGenerations_52 ?_
        rw [sI_s, hf p (by omega)]
        refine j_iload_n C dX7_findsGenerations_53 rfl ?_
        refine q_mmax C gj_max7 gj_maxs gj_maxi gj_maxc (by decide) (by decide) (Nat.le_of_ble_eq_true rfl) (by decide) (by decide) dX7_findsGenerations_54 ?_
        first | rw [mx_nI (a := gn (aF A) (aS A) p) (b := 0) (by omega) (by decide)] | rw [mx_nI (a := gn (aF A) (aS A) p) (b := gn (aF A) (aS A) v17) (by omega) (by omega)]
        refine q_iadd C dX7_findsGenerations_57 ?_
        refine q_iast C rfl (by decide) (by decide) (by omega) dX7_findsGenerations_58 ?_
        refine q_iinc C dX7_findsGenerations_59 rfl (by decide) rfl ?_
        refine j_goto C 2 dX7_findsGenerations_62 ?_ (by decide)
        exact q_cast (ih (by omega) _ (up_0 f0 hi1) (by omega) (by first | exact gn_up1 hA.2.1 hp h17 hf | exact gn_up2 hA.2.1 hp h17 hf)) (gLe_c rfl (gLe_c rfl (gLe_n gLe_0))) (by rw [sI_sI, sI_s])
  exact q_cast (K2 1 (by omega) (M.1 236) h0 (Nat.le_refl 1) (fun c hc => by rw [show c = 0 by omega, h0]; rfl)) (gLe_c rfl (gLe_c rfl (gLe_n gLe_0))) (by rw [sI_id])
set_option maxHeartbeats 4000000 in
set_option maxRecDepth 100000 in
theorem sp_X7_generation (G : gG) (M : gMem) {A : gSt0} (hA : gAi A) (hR : gRM A M) (x : Int32) : SpS G mX7_generation (gRm 2 0) [.ref (gb G + 156), .int x] M (some (.int (oGeneration A x).2.1)) (gPom (oGeneration A x) M) := by
  refine Sp.of (by decide +kernel) (Nat.le_of_ble_eq_true rfl) (fun X C CM => ?_)
  have C : gC G X RX7 cX7_generation 2 (gRm 2 0) := C
  have h60 := hA.1.2
  refine j_aload_n C dX7_generation_0 rfl ?_
  refine j_aload_n C dX7_generation_1 rfl ?_
  refine j_iload_n C dX7_generation_2 rfl ?_
  refine q_callV C (sp_X7_isCommit G M hR.1.1 hA.1 x) vX7_isCommit lk_X7_117 rfl (by decide) rfl rfl (Nat.le_of_ble_eq_true rfl) (by decide) dX7_generation_3 ?_
  refine q_if_eq0 C 13 dX7_generation_6 (by decide) (fun h6 => ?_) (fun h6 => ?_)
  · refine j_iconst C (v := nI 1) dX7_generation_13 rfl ?_
    refine q_putI C fX7 7 rfl (by decide) (by decide) lf_X7_77 rfl rfl rfl (Nat.le_of_ble_eq_true rfl) rfl dX7_generation_14 ?_
    refine j_aload_n C dX7_generation_17 rfl ?_
    refine q_get C fX7 7 rfl (by decide) (by decide) lf_X7_77 rfl rfl dX7_generation_18 ?_
    rw [sF_at]
    refine j_if_le C 26 dX7_generation_21 (fun h => absurd h (by decide)) (fun _ => ?_) (by decide)
    refine j_iconst C (v := nI 0) dX7_generation_24 rfl ?_
    exact q_iretS C CM rfl (by decide) (by decide) dX7_generation_25 (pom_v (show oGeneration A x = (1, 0, A) from by simp only [oGeneration, inB_nsome h6]) rfl) (pom_x (k := 1) (by simp only [oGeneration, inB_nsome h6]) hA hR)
  · obtain ⟨c, hc, rfl, hc8⟩ := inB_is (n := aN A) (by omega) h6
    refine j_iconst C (v := nI 0) dX7_generation_9 rfl ?_
    refine j_goto C 14 dX7_generation_10 ?_ (by decide)
    refine q_putI C fX7 7 rfl (by decide) (by decide) lf_X7_77 rfl rfl rfl (Nat.le_of_ble_eq_true rfl) rfl dX7_generation_14 ?_
    refine j_aload_n C dX7_generation_17 rfl ?_
    refine q_get C fX7 7 rfl (by decide) (by decide) lf_X7_77 rfl rfl dX7_generation_18 ?_
    rw [sF_at]
    refine j_if_le C 26 dX7_generation_21 (fun _ => ?_) (fun h => absurd (by decide) h) (by decide)
    have hR1 := rm_k hA hR (km_sF M (j := 7) (nI 0) (by decide))
    refine j_aload_n C dX7_generation_26 rfl ?_
    refine q_callVS C (sp_X7_findsGenerations G _ hA hR1.1 (by exact hR.2.2)) vX7_findsGenerations lk_X7_183 rfl (by decide) rfl rfl (Nat.le_of_ble_eq_true rfl) (by decide) dX7_generation_27 (fun M2 hM2 => ?_)
    obtain ⟨f, rfl, hf0, hf⟩ := hM2
    refine j_aload_n C dX7_generation_30 rfl ?_
    refine q_get C fX7 24 rfl (by decide) (by decide) lf_X7_74 rfl rfl dX7_generation_31 ?_
    refine j_iload_n C dX7_generation_34 rfl ?_
    refine q_iald C rfl (by decide) (by decide) (by omega) dX7_generation_35 ?_
    exact q_iretS C CM rfl (by decide) (by decide) dX7_generation_36 (pom_v (show oGeneration A (nI c) = (0, nI (gn (aF A) (aS A) c), A) from by simp only [oGeneration, hc]) (by rw [sI_s]; exact hf c hc8)) (pom_k (show oGeneration A (nI c) = (0, nI (gn (aF A) (aS A) c), A) from by simp only [oGeneration, hc]) hA hR1 ⟨km_236 (by rw [hf0]; exact hR.2.2.symm), rfl⟩)
