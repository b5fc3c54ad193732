theorem kz_sF (M : gMem) : gKz (sF M 156 7 (nI 0)) (sF M 156 7 (nI 0)) := kt_refl _
theorem o_mg3 {A : gSt0} {b h : Nat} (hb : inB (nI b) 5 = some b) (hh : aH A b = some h) (hq : 0 < chgA A ∨ anc (aF A) (aS A) (aHd A) h = true) : oMerge A (nI b) = (3, 0, A) := by
  simp only [oMerge, hb, hh]
  rcases hq with hq | hq
  · exact if_neg (by omega)
  · rw [hq]
    split <;> rfl
theorem o_po3 {A : gSt0} {b h : Nat} (hb : inB (nI b) 5 = some b) (hh : aH A b = some h) (hq : 0 < chgA A ∨ anc (aF A) (aS A) h (aHd A) = true) : oPutOnto A (nI b) = (3, 0, A) := by
  simp only [oPutOnto, hb, hh]
  rcases hq with hq | hq
  · exact if_neg (by omega)
  · rw [hq]
    split <;> rfl
theorem pom_3 {o : gRes} {k : Nat} {A : gSt0} {M M2 : gMem} (ho : o = (k, 0, A)) (hA : gAi A) (hR : gRM A M2) (hm : gMod M M2) : gPom o M (sF M2 156 7 (nI k)) := pom ho (sF_at _ _ _ _) (rm_k hA hR (km_sF M2 _ (by decide))) (mod_trans hm (mod_sF M2 7 _))
set_option maxHeartbeats 4000000 in
set_option maxRecDepth 100000 in
theorem sp_X7_merge (G : gG) (M : gMem) {A : gSt0} (hA : gAi A) (hB : gAb A) (hR : gRM A M) (x : Int32) : SpS G mX7_merge (gRm 4 0) [.ref (gb G + 156), .int x] M (some (.int (oMerge A x).2.1)) (gPom (oMerge A x) M) := by
  refine Sp.of (by decide +kernel) (Nat.le_of_ble_eq_true rfl) (fun X C CM => ?_)
  have C : gC G X RX7 cX7_merge 5 (gRm 4 0) := C
  refine j_aload_n C dX7_merge_0 rfl ?_
  refine j_iload_n C dX7_merge_1 rfl ?_
  refine q_callV C (sp_X7_isNone G M hA hB hR.2.1.1 x) vX7_isNone lk_X7_110 rfl (by decide) rfl rfl (Nat.le_of_ble_eq_true rfl) (by decide) dX7_merge_2 ?_
  refine q_if_eq0 C 10 dX7_merge_5 (by decide) (fun h5 => ?_) (fun h5 => ?_)
  · obtain ⟨b, h, hb, rfl, hb5, hh, h0⟩ := no_0 h5
    rw [h0]
    have hR1 := rm_k hA hR (km_sF M (j := 7) (nI 0) (by decide))
    have hhn := hB.2.1 b h hb5 hh
    have hd := ab_hd hB
    have h60 := hA.1.2
    have hc5 := hB.1
    have ht1 : (sF M 156 7 (nI 0)).2.2.1 156 7 = nI 0 := sF_at _ _ _ _
    refine j_aload_n C dX7_merge_10 rfl ?_
    refine q_get C fX7 4 rfl (by decide) (by decide) lf_X7_25 rfl rfl dX7_merge_11 ?_
    refine j_aload_n C dX7_merge_14 rfl ?_
    refine q_get C fX7 5 rfl (by decide) (by decide) lf_X7_95 rfl rfl dX7_merge_15 ?_
    rw [hR1.2.1.2.1]
    refine q_iald C rfl (by decide) (by decide) (by omega) dX7_merge_18 ?_
    rw [hd_M hB hR1.2.1]
    refine j_istore_n C dX7_merge_19 (by decide) rfl ?_
    refine j_aload_n C dX7_merge_20 rfl ?_
    refine q_get C fX7 4 rfl (by decide) (by decide) lf_X7_25 rfl rfl dX7_merge_21 ?_
    refine j_iload_n C dX7_merge_24 rfl ?_
    refine q_iald C rfl (by decide) (by decide) (by omega) dX7_merge_25 ?_
    rw [show (sF M 156 7 (nI 0)).1 220 b = nI h from (hR.2.1.1 b hb5).trans (by rw [hh]; rfl)]
    refine j_istore_n C dX7_merge_26 (by decide) rfl ?_
    refine j_aload_n C dX7_merge_27 rfl ?_
    refine q_callV C (sp_X7_changed G _ hA hB hR1.1 hR1.2.1) vX7_changed lk_X7_98 rfl (by decide) rfl rfl (Nat.le_of_ble_eq_true rfl) (by decide) dX7_merge_28 ?_
    refine q_ifz_gt C 43 dX7_merge_31 (by decide) (chg_lt2 A) (fun h31 => ?_) (fun h31 => ?_)
    · refine j_aload_n C dX7_merge_43 rfl ?_
      refine j_iconst C (v := nI 3) dX7_merge_44 rfl ?_
      refine q_callV C (sp_X7_raises G _ 3) vX7_raises lk_X7_91 rfl (by decide) rfl rfl (Nat.le_of_ble_eq_true rfl) (by decide) dX7_merge_45 ?_
      exact q_iretS C CM rfl (by decide) (by decide) dX7_merge_48 (pom_v (o_mg3 hb hh (by first | exact Or.inl h31 | exact Or.inr h40)) rfl) (by first | exact pom_3 (o_mg3 hb hh (Or.inl h31)) hA hR1 (mod_sF M 7 _) | exact pom_3 (o_mg3 hb hh (Or.inr h40)) hA hR2 (mod_trans (mod_sF M 7 _) hM2.1.2.2.2.2))
    · refine j_aload_n C dX7_merge_34 rfl ?_
      refine j_iload_n C dX7_merge_35 rfl ?_
      refine j_iload_n C dX7_merge_36 rfl ?_
      refine q_callVS C (sp_X7_isAbove G _ hA hR1.1 hhn hd.2) vX7_isAbove lk_X7_164 rfl (by decide) rfl rfl (Nat.le_of_ble_eq_true rfl) (by decide) dX7_merge_37 (fun M2 hM2 => ?_)
      have hR2 := rm_k hA hR1 hM2.1
      refine q_if_eq0 C 49 dX7_merge_40 (by decide) (fun h40 => ?_) (fun h40 => ?_)
      · refine j_aload_n C dX7_merge_49 rfl ?_
        refine j_iload_n C dX7_merge_50 rfl ?_
        refine j_iload_n C dX7_merge_51 rfl ?_
        refine q_callVS C (sp_X7_isAbove G M2 hA hR2.1 hd.2 hhn) vX7_isAbove lk_X7_164 rfl (by decide) rfl rfl (Nat.le_of_ble_eq_true rfl) (by decide) dX7_merge_52 (fun M3 hM3 => ?_)
        have hR3 := rm_k hA hR2 hM3.1
        refine q_if_eq0 C 65 dX7_merge_55 (by decide) (fun h55 => ?_) (fun h55 => ?_)
        · refine j_aload_n C dX7_merge_65 rfl ?_
          refine j_aload_n C dX7_merge_66 rfl ?_
          refine q_get C fX7 0 rfl (by decide) (by decide) lf_X7_11 rfl rfl dX7_merge_67 ?_
          refine j_aload_n C dX7_merge_70 rfl ?_
          refine j_iload_n C dX7_merge_71 rfl ?_
          refine j_iload_n C dX7_merge_72 rfl ?_
          refine q_callVS C (sp_X7_bestBase G M3 hA hR3.1 hd.2 hhn) vX7_bestBase lk_X7_168 rfl (by decide) rfl rfl (Nat.le_of_ble_eq_true rfl) (by decide) dX7_merge_73 (fun M4 hM4 => ?_)
          have hR4 := rm_k hA hR3 hM4.1
          have hbb := bb_some hA hd.2 hhn
          rw [hbb.1, show oI (some ((bbO A (aHd A) h).getD 0)) = nI ((bbO A (aHd A) h).getD 0) from rfl]
          refine q_aald157 C (by omega) dX7_merge_76 ?_
          refine j_aload_n C dX7_merge_77 rfl ?_
          refine q_get C fX7 0 rfl (by decide) (by decide) lf_X7_11 rfl rfl dX7_merge_78 ?_
          refine j_iload_n C dX7_merge_81 rfl ?_
          refine q_aald157 C (by omega) dX7_merge_82 ?_
          refine j_aload_n C dX7_merge_83 rfl ?_
          refine q_get C fX7 0 rfl (by decide) (by decide) lf_X7_11 rfl rfl dX7_merge_84 ?_
          refine j_iload_n C dX7_merge_87 rfl ?_
          refine q_aald157 C (by omega) dX7_merge_88 ?_
          refine q_callVS C (sp_X7_merges G M4 (a := (158 + (bbO A (aHd A) h).getD 0)) (b := 158 + aHd A) (c := 158 + h) ⟨gKd_row (by omega), by omega⟩ ⟨gKd_row (by omega), by omega⟩ ⟨gKd_row (by omega), by omega⟩ (by omega) (by omega) (by omega) (hR4.1.2.2 _ hbb.2) (hR4.1.2.2 _ hd.2) (hR4.1.2.2 h hhn) (hA.2.2.2 _) (hA.2.2.2 _) (hA.2.2.2 h)) vX7_merges lk_X7_171 rfl (by decide) rfl rfl (Nat.le_of_ble_eq_true rfl) (by decide) dX7_merge_89 (fun M5 hM5 => ?_)
          rw [show mgN (aT A ((bbO A (aHd A) h).getD 0)) (aT A (aHd A)) (aT A h) = mgA A (aHd A) h from rfl]
          have hR5 := rm_k hA hR4 (mg_km hM5.1)
          have ht5 : M5.2.2.1 156 7 = nI 0 := by rw [hM5.1.2.2.1 _ _ (by decide), hM4.2, hM3.2, hM2.2, ht1]
          have hmd := mod_trans (mod_trans (mod_trans (mod_trans (mod_sF M 7 (nI 0)) hM2.1.2.2.2.2) hM3.1.2.2.2.2) hM4.1.2.2.2.2) (mg_km hM5.1).2.2.2.2
          refine q_ifz_le C 101 dX7_merge_92 (by decide) (by unfold mgA; exact mg_lt _ _ _) (fun h92 => ?_) (fun h92 => ?_)
          · refine j_aload_n C dX7_merge_101 rfl ?_
            refine j_aload_n C dX7_merge_102 rfl ?_
            refine q_get C fX7 10 rfl (by decide) (by decide) lf_X7_37 rfl rfl dX7_merge_103 ?_
            refine j_iload_n C dX7_merge_106 rfl ?_
            refine j_iload_n C dX7_merge_107 rfl ?_
            refine q_callVS C (sp_X7_made G M5 (a := 224) (s := some h) hA hR5.1 rfl (by decide) (hM5.2 h92) (mgR_tn (hA.2.2.2 _) (hA.2.2.2 _)) hd.2 (fun q e => by cases e; exact hhn)) vX7_made lk_X7_106 rfl (by decide) rfl rfl (Nat.le_of_ble_eq_true rfl) (by decide) dX7_merge_108 (fun M6 hM6 => ?_)
            have hra : rmA A (aHd A) h = mkA A (mtA A (aHd A) h) (aHd A) (some h) := if_pos h92
            have hro : rmO A (aHd A) h = mkO A (mtA A (aHd A) h) (aHd A) (some h) := if_pos h92
            have hR6 := rm_mk hR5 hM6.1 hM6.2
            have hk := rm_ai hA hd.2 hhn
            have hsm := rm_same A (aHd A) h
            rw [show mkO A (mgR (aT A ((bbO A (aHd A) h).getD 0)) (aT A (aHd A)) (aT A h)) (aHd A) (some h) = rmO A (aHd A) h from hro.symm]
            have hR6 : gRM (rmA A (aHd A) h) M6 := by rw [hra]; exact hR6
            refine j_istore C dX7_merge_111 (by decide) rfl ?_
            refine j_iload C dX7_merge_113 rfl ?_
            refine j_iconst C (v := -1) dX7_merge_115 rfl ?_
            refine q_icmp_neN C 125 dX7_merge_116 (by decide) (fun v hv => by have h1 := hk.2.2 v hv; have h2 := hk.1.1.2; omega) (fun v116 h116 => ?_) (fun h116 => ?_)
            · rw [h116, show oI (some v116) = nI v116 from rfl]
              refine j_aload_n C dX7_merge_125 rfl ?_
              refine j_iload C dX7_merge_126 rfl ?_
              refine q_callV C (sp_X7_becomes G M6 (k := aC A) (by rw [← hsm.2.1]; exact hR6.2.1.2.1) hB.1 (by have h1 := hk.2.2 v116 h116; have h2 := hk.1.1.2; omega)) vX7_becomes lk_X7_113 rfl (by decide) rfl rfl (Nat.le_of_ble_eq_true rfl) (by decide) dX7_merge_128 ?_
              refine j_iload C dX7_merge_131 rfl ?_
              exact q_iretS C CM rfl (by decide) (by decide) dX7_merge_133 (pom_v (show oMerge A (nI b) = (0, nI v116, takeA (rmA A (aHd A) h) v116) from by simp only [oMerge, hb, hh, h31, if_true, h40, h55, h116]) rfl) (pom (show oMerge A (nI b) = (0, nI v116, takeA (rmA A (aHd A) h) v116) from by simp only [oMerge, hb, hh, h31, if_true, h40, h55, h116]) (by rw [sI_2, sI_2, hM6.2.2.1 7 (by decide), ht5]) (by have e := rm_take hk.1 hR6 (hk.2.2 v116 h116); rw [hsm.2.1] at e; exact e) (mod_trans (mod_trans hmd hM6.2.2.2) (mod_take _ _ _)))
            · refine j_aload_n C dX7_merge_119 rfl ?_
              refine j_iconst C (v := nI 4) dX7_merge_120 rfl ?_
              refine q_callV C (sp_X7_raises G M6 4) vX7_raises lk_X7_91 rfl (by decide) rfl rfl (Nat.le_of_ble_eq_true rfl) (by decide) dX7_merge_121 ?_
              exact q_iretS C CM rfl (by decide) (by decide) dX7_merge_124 (pom_v (show oMerge A (nI b) = (4, 0, A) from by simp only [oMerge, hb, hh, h31, if_true, h40, h55, h116]) rfl) (pom_3 (show oMerge A (nI b) = (4, 0, A) from by simp only [oMerge, hb, hh, h31, if_true, h40, h55, h116]) hA (by rw [rm_none h116] at hR6; exact hR6) (mod_trans hmd hM6.2.2.2))
          · refine j_aload_n C dX7_merge_95 rfl ?_
            refine j_iconst C (v := nI 4) dX7_merge_96 rfl ?_
            refine q_callV C (sp_X7_raises G _ 4) vX7_raises lk_X7_91 rfl (by decide) rfl rfl (Nat.le_of_ble_eq_true rfl) (by decide) dX7_merge_97 ?_
            exact q_iretS C CM rfl (by decide) (by decide) dX7_merge_100 (pom_v (show oMerge A (nI b) = (4, 0, A) from by simp only [oMerge, hb, hh, h31, if_true, h40, h55, show rmO A (aHd A) h = none from if_neg (by omega)]) rfl) (pom_3 (show oMerge A (nI b) = (4, 0, A) from by simp only [oMerge, hb, hh, h31, if_true, h40, h55, show rmO A (aHd A) h = none from if_neg (by omega)]) hA hR5 hmd)
        · refine j_aload_n C dX7_merge_58 rfl ?_
          refine j_iload_n C dX7_merge_59 rfl ?_
          refine q_callV C (sp_X7_becomes G M3 (k := aC A) hR3.2.1.2.1 hB.1 (show h < 60 by omega)) vX7_becomes lk_X7_113 rfl (by decide) rfl rfl (Nat.le_of_ble_eq_true rfl) (by decide) dX7_merge_60 ?_
          refine j_iload_n C dX7_merge_63 rfl ?_
          exact q_iretS C CM rfl (by decide) (by decide) dX7_merge_64 (pom_v (show oMerge A (nI b) = (0, nI h, takeA A h) from by simp only [oMerge, hb, hh, h31, if_true, h40, h55]) rfl) (pom (show oMerge A (nI b) = (0, nI h, takeA A h) from by simp only [oMerge, hb, hh, h31, if_true, h40, h55]) (by rw [sI_2, sI_2, hM3.2, hM2.2, ht1]) (rm_take hA hR3 hhn) (mod_trans (mod_trans (mod_trans (mod_sF M 7 _) hM2.1.2.2.2.2) hM3.1.2.2.2.2) (mod_take _ _ _)))
      · refine j_aload_n C dX7_merge_43 rfl ?_
        refine j_iconst C (v := nI 3) dX7_merge_44 rfl ?_
        refine q_callV C (sp_X7_raises G _ 3) vX7_raises lk_X7_91 rfl (by decide) rfl rfl (Nat.le_of_ble_eq_true rfl) (by decide) dX7_merge_45 ?_
        exact q_iretS C CM rfl (by decide) (by decide) dX7_merge_48 (pom_v (o_mg3 hb hh (by first | exact Or.inl h31 | exact Or.inr h40)) rfl) (by first | exact pom_3 (o_mg3 hb hh (Or.inl h31)) hA hR1 (mod_sF M 7 _) | exact pom_3 (o_mg3 hb hh (Or.inr h40)) hA hR2 (mod_trans (mod_sF M 7 _) hM2.1.2.2.2.2))
  · refine j_iconst C (v := nI 0) dX7_merge_8 rfl ?_
    exact q_iretS C CM rfl (by decide) (by decide) dX7_merge_9 (no_val (o := oMerge A x) hA hR h5 (fun e => by simp only [oMerge, e]) (fun p e0 e1 => by simp only [oMerge, e0, e1])).1 (no_val hA hR h5 (fun e => by simp only [oMerge, e]) (fun p e0 e1 => by simp only [oMerge, e0, e1])).2
