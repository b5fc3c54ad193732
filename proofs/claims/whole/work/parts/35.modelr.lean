/-- the state that goes on after the loop -/
theorem ke_226 {M : gMem} {f : Nat → Int32} : ∀ o, o ≠ 226 → (sI M 226 f).1 o = M.1 o := fun _ h => sI_n _ _ h
theorem po_none {A : gSt0} {h i : Nat} (hi : i < chL A h (aHd A)) (e : (apK A (chn (aF A) (aHd A)) (chL A h (aHd A)) h (chL A h (aHd A) - i)).1 = none) : (poR A h).1 = none := by
  unfold poR
  rw [apK_stop (Nat.sub_le _ i) e]
  exact e
set_option maxHeartbeats 4000000 in
set_option maxRecDepth 100000 in
theorem sp_X7_putOnto (G : gG) (M : gMem) {A : gSt0} (hA : gAi A) (hB : gAb A) (hR : gRM A M) (x : Int32) : SpS G mX7_putOnto (gRm 5 0) [.ref (gb G + 156), .int x] M (some (.int (oPutOnto A x).2.1)) (gPom (oPutOnto A x) M) := by
  refine Sp.of (by decide +kernel) (Nat.le_of_ble_eq_true rfl) (fun X C CM => ?_)
  have C : gC G X RX7 cX7_putOnto 7 (gRm 5 0) := C
  refine j_aload_n C dX7_putOnto_0 rfl ?_
  refine j_iload_n C dX7_putOnto_1 rfl ?_
  refine q_callV C (sp_X7_isNone G M hA hB hR.2.1.1 x) vX7_isNone lk_X7_110 rfl (by decide) rfl rfl (Nat.le_of_ble_eq_true rfl) (by decide) dX7_putOnto_2 ?_
  refine q_if_eq0 C 10 dX7_putOnto_5 (by decide) (fun h5 => ?_) (fun h5 => ?_)
  · obtain ⟨b, h, hb, rfl, hb5, hh, h0⟩ := no_0 h5
    rw [h0]
    have hR1 := rm_k hA hR (km_sF M (j := 7) (nI 0) (by decide))
    have hhn := hB.2.1 b h hb5 hh
    have hd := ab_hd hB
    have h60 := hA.1.2
    have hc5 := hB.1
    have ht1 : (sF M 156 7 (nI 0)).2.2.1 156 7 = nI 0 := sF_at _ _ _ _
    refine j_aload_n C dX7_putOnto_10 rfl ?_
    refine q_get C fX7 4 rfl (by decide) (by decide) lf_X7_25 rfl rfl dX7_putOnto_11 ?_
    refine j_iload_n C dX7_putOnto_14 rfl ?_
    refine q_iald C rfl (by decide) (by decide) (by omega) dX7_putOnto_15 ?_
    rw [show (sF M 156 7 (nI 0)).1 220 b = nI h from (hR.2.1.1 b hb5).trans (by rw [hh]; rfl)]
    refine j_istore_n C dX7_putOnto_16 (by decide) rfl ?_
    refine j_aload_n C dX7_putOnto_17 rfl ?_
    refine q_callV C (sp_X7_changed G _ hA hB hR1.1 hR1.2.1) vX7_changed lk_X7_98 rfl (by decide) rfl rfl (Nat.le_of_ble_eq_true rfl) (by decide) dX7_putOnto_18 ?_
    refine q_ifz_gt C 41 dX7_putOnto_21 (by decide) (chg_lt2 A) (fun h21 => ?_) (fun h21 => ?_)
    · refine j_aload_n C dX7_putOnto_41 rfl ?_
      refine j_iconst C (v := nI 3) dX7_putOnto_42 rfl ?_
      refine q_callV C (sp_X7_raises G _ 3) vX7_raises lk_X7_91 rfl (by decide) rfl rfl (Nat.le_of_ble_eq_true rfl) (by decide) dX7_putOnto_43 ?_
      exact q_iretS C CM rfl (by decide) (by decide) dX7_putOnto_46 (pom_v (o_po3 hb hh (by first | exact Or.inl h21 | exact Or.inr h38)) rfl) (by first | exact pom_3 (o_po3 hb hh (Or.inl h21)) hA hR1 (mod_sF M 7 _) | exact pom_3 (o_po3 hb hh (Or.inr h38)) hA hR3 hmd)
    · refine j_aload_n C dX7_putOnto_24 rfl ?_
      refine j_aload_n C dX7_putOnto_25 rfl ?_
      refine q_get C fX7 4 rfl (by decide) (by decide) lf_X7_25 rfl rfl dX7_putOnto_26 ?_
      refine j_aload_n C dX7_putOnto_29 rfl ?_
      refine q_get C fX7 5 rfl (by decide) (by decide) lf_X7_95 rfl rfl dX7_putOnto_30 ?_
      rw [hR1.2.1.2.1]
      refine q_iald C rfl (by decide) (by decide) (by omega) dX7_putOnto_33 ?_
      rw [hd_M hB hR1.2.1]
      refine j_iload_n C dX7_putOnto_34 rfl ?_
      refine q_callVS C (sp_X7_isAbove G _ hA hR1.1 hd.2 hhn) vX7_isAbove lk_X7_164 rfl (by decide) rfl rfl (Nat.le_of_ble_eq_true rfl) (by decide) dX7_putOnto_35 (fun M3 hM3 => ?_)
      have hR3 := rm_k hA hR1 hM3.1
      have hmd := mod_trans (mod_sF M 7 (nI 0)) hM3.1.2.2.2.2
      refine q_if_eq0 C 47 dX7_putOnto_38 (by decide) (fun h38 => ?_) (fun h38 => ?_)
      · refine j_aload_n C dX7_putOnto_47 rfl ?_
        refine j_iload_n C dX7_putOnto_48 rfl ?_
        refine j_aload_n C dX7_putOnto_49 rfl ?_
        refine q_get C fX7 21 rfl (by decide) (by decide) lf_X7_65 rfl rfl dX7_putOnto_50 ?_
        refine q_callVS C (sp_X7_findsAbove G M3 hA hR3.1 (a := 233) rfl (by decide) (by decide) hhn) vX7_findsAbove lk_X7_120 rfl (by decide) rfl rfl (Nat.le_of_ble_eq_true rfl) (by decide) dX7_putOnto_53 (fun M4 hM4 => ?_)
        obtain ⟨f, rfl, hf⟩ := hM4
        have hL := chL_ok hA hhn hd.2
        have hR4 := rm_k hA hR3 (km_sI (o := 233) M3 f (by decide))
        have ht4 : (sI M3 233 f).2.2.1 156 7 = nI 0 := hM3.2.trans ht1
        refine j_iconst C (v := nI 0) dX7_putOnto_56 rfl ?_
        refine j_istore_n C dX7_putOnto_57 (by decide) rfl ?_
        refine j_aload_n C dX7_putOnto_58 rfl ?_
        refine q_get C fX7 4 rfl (by decide) (by decide) lf_X7_25 rfl rfl dX7_putOnto_59 ?_
        refine j_aload_n C dX7_putOnto_62 rfl ?_
        refine q_get C fX7 5 rfl (by decide) (by decide) lf_X7_95 rfl rfl dX7_putOnto_63 ?_
        rw [hR4.2.1.2.1]
        refine q_iald C rfl (by decide) (by decide) (by omega) dX7_putOnto_66 ?_
        rw [hd_M hB hR4.2.1]
        refine j_istore C dX7_putOnto_67 (by decide) rfl ?_
        have K69 : ∀ i, i ≤ 60 → ∀ g, (∀ j, j < i → g j = nI (chn (aF A) (aHd A) j)) → (∀ j, j < i → anc (aF A) (aS A) h (chn (aF A) (aHd A) j) = false) → Q G X 0 0 69 [some (.ref (gb G + 156)), some (.int (nI b)), some (.int (nI h)), some (.int (nI i)), some (.int (nI (chn (aF A) (aHd A) i))), none, none] [] (sI (sI M3 233 f) 226 g) := by
          refine g_up _ _ (fun i hi ih => ?_)
          intro g hg hn
          refine j_aload_n C dX7_putOnto_69 rfl ?_
          refine q_get C fX7 21 rfl (by decide) (by decide) lf_X7_65 rfl rfl dX7_putOnto_70 ?_
          refine j_iload C dX7_putOnto_73 rfl ?_
          have hcl := chn_lt hA hd.2 i
          refine q_zald C rfl (by decide) (by decide) (by omega) dX7_putOnto_75 ?_
          rw [sI_n _ _ (show (233 : Nat) ≠ 226 by decide), sI_s, hf _ (by omega)]
          refine q_if_ne0 C 102 dX7_putOnto_76 (by decide) (fun h76 => ?_) (fun h76 => ?_)
          · have hiL : (chL A h (aHd A)) = i := chL_eq hA hhn hd.2 h76 hn
            subst hiL
            refine j_aload_n C dX7_putOnto_102 rfl ?_
            refine q_get C fX7 3 rfl (by decide) (by decide) lf_X7_21 rfl rfl dX7_putOnto_103 ?_
            rw [show (sI (sI M3 233 f) 226 g).2.2.1 156 3 = nI (aN A) from hR4.1.1]
            refine j_istore C dX7_putOnto_106 (by decide) rfl ?_
            refine j_iload_n C dX7_putOnto_108 rfl ?_
            refine j_istore C dX7_putOnto_109 (by decide) rfl ?_
            refine j_iload_n C dX7_putOnto_111 rfl ?_
            refine j_iconst C (v := nI 1) dX7_putOnto_112 rfl ?_
            refine j_isub C dX7_putOnto_113 ?_
            rw [sub_pI]
            refine j_istore C dX7_putOnto_114 (by decide) rfl ?_
            have K116 : ∀ i, i ≤ (chL A h (aHd A)) → ∀ l M5, (apK A (chn (aF A) (aHd A)) (chL A h (aHd A)) h (chL A h (aHd A) - i)).1 = some l → gRk (apK A (chn (aF A) (aHd A)) (chL A h (aHd A)) h (chL A h (aHd A) - i)).2 M5 → gKe (sI (sI M3 233 f) 226 g) M5 → Q G X 0 0 116 [some (.ref (gb G + 156)), some (.int (nI b)), some (.int (nI h)), some (.int (nI (chL A h (aHd A)))), some (.int (nI (aN A))), some (.int (nI l)), some (.int (pI i))] [] (M5) := by
              refine g_dn _ ?_ (fun i ih => ?_)
              · intro hi
                intro l M5 hl k5 k6
                refine j_iload C dX7_putOnto_116 rfl ?_
                refine j_if_lt C 160 dX7_putOnto_118 (fun _ => ?_) (fun h => absurd (by decide) h) (by decide)
                have hP : gAi (poR A h).2 ∧ gExt A (poR A h).2 ∧ ∀ v, (poR A h).1 = some v → v < aN (poR A h).2 := apK_ok (A := A) (ch := chn (aF A) (aHd A)) (L := (chL A h (aHd A))) (onto := h) hA hhn (chL A h (aHd A))
                have hl : (poR A h).1 = some l := hl
                have k5 : gRk (poR A h).2 M5 := k5
                refine j_aload_n C dX7_putOnto_160 rfl ?_
                refine j_iload C dX7_putOnto_161 rfl ?_
                refine q_callV C (sp_X7_becomes G M5 (k := aC A) (by rw [k6.2.1]; exact hR4.2.1.2.1) hB.1 (by have h1 := hP.2.2 l hl; have h2 := hP.1.1.2; omega)) vX7_becomes lk_X7_113 rfl (by decide) rfl rfl (Nat.le_of_ble_eq_true rfl) (by decide) dX7_putOnto_163 ?_
                refine j_iload_n C dX7_putOnto_166 rfl ?_
                exact q_iretS C CM rfl (by decide) (by decide) dX7_putOnto_167 (pom_v (show oPutOnto A (nI b) = (0, nI (chL A h (aHd A)), takeA (poR A h).2 l) from by simp only [oPutOnto, hb, hh, h21, if_true, h38, hl]) rfl) (pom (show oPutOnto A (nI b) = (0, nI (chL A h (aHd A)), takeA (poR A h).2 l) from by simp only [oPutOnto, hb, hh, h21, if_true, h38, hl]) (by rw [sI_2, sI_2, k6.2.2.1]; exact ht4) (by have e := rm_take hP.1 (rm_ext hP.2.1 (M := sI (sI M3 233 f) 226 g) ⟨⟨hR4.1.1, fun c hc => hR4.1.2.1 c hc, fun c hc p hp => by rw [sI_n _ _ (show 158 + c ≠ 226 by have : c < aN A := hc; omega)]; exact hR4.1.2.2 c hc p hp⟩, hR4.2⟩ k5 k6) (hP.2.2 l hl); rw [hP.2.1.2.2.2.1] at e; exact e) (mod_trans (mod_trans (mod_trans (mod_trans hmd (mod_sI M3 f (by decide))) (mod_sI _ g (by decide))) k6.2.2.2) (mod_take _ _ _)))
              · intro hi
                intro l M5 hl k5 k6
                refine q_cast (lv' := [some (.ref (gb G + 156)), some (.int (nI b)), some (.int (nI h)), some (.int (nI (chL A h (aHd A)))), some (.int (nI (aN A))), some (.int (nI l)), some (.int (nI i))]) ?_ (gLe_c rfl (gLe_c rfl (gLe_c rfl (gLe_c rfl (gLe_c rfl (gLe_c rfl (gLe_c rfl gLe_0))))))) rfl
                refine j_iload C dX7_putOnto_116 rfl ?_
                refine j_if_lt C 160 dX7_putOnto_118 (fun h => absurd h (nI_pos (by omega))) (fun _ => ?_) (by decide)
                have hBi := apK_ok (ch := chn (aF A) (aHd A)) (L := (chL A h (aHd A))) hA hhn ((chL A h (aHd A)) - (i + 1))
                have hci := Nat.lt_of_lt_of_le (chn_lt hA hd.2 i) hBi.2.1.1
                have hpp : (aF (apK A (chn (aF A) (aHd A)) (chL A h (aHd A)) h (chL A h (aHd A) - (i + 1))).2 (chn (aF A) (aHd A) i)).isSome = true := by rw [(hBi.2.1.2.1 _ (chn_lt hA hd.2 i)).1, chn_par hA hhn hd.2 (hn i (by omega))]; rfl
                refine j_aload_n C dX7_putOnto_121 rfl ?_
                refine j_aload_n C dX7_putOnto_122 rfl ?_
                refine q_get C fX7 13 rfl (by decide) (by decide) lf_X7_43 rfl rfl dX7_putOnto_123 ?_
                refine j_iload C dX7_putOnto_126 rfl ?_
                refine q_iald C rfl (by decide) (by decide) (by have := hL.1; omega) dX7_putOnto_128 ?_
                rw [k6.1 226 (by decide), sI_s, hg i (by omega)]
                refine j_iload C dX7_putOnto_129 rfl ?_
                refine q_callVS C (sp_X7_applied G M5 hBi.1 k5 hci (hBi.2.2 l hl) hpp) vX7_applied lk_X7_175 rfl (by decide) rfl rfl (Nat.le_of_ble_eq_true rfl) (by decide) dX7_putOnto_131 (fun M6 hM6 => ?_)
                have hst : (apK A (chn (aF A) (aHd A)) (chL A h (aHd A)) h (chL A h (aHd A) - i)) = ap1 (apK A (chn (aF A) (aHd A)) (chL A h (aHd A)) h (chL A h (aHd A) - (i + 1))).2 (chn (aF A) (aHd A) i) l := by have := apK_s hl; rw [show (chL A h (aHd A)) - (i + 1) + 1 = (chL A h (aHd A)) - i by omega, show (chL A h (aHd A)) - 1 - ((chL A h (aHd A)) - (i + 1)) = i by omega] at this; exact this
                refine j_istore C dX7_putOnto_134 (by decide) rfl ?_
                refine j_iload C dX7_putOnto_136 rfl ?_
                refine j_iconst C (v := -1) dX7_putOnto_138 rfl ?_
                refine q_icmp_neN C 154 dX7_putOnto_139 (by decide) (fun v hv => by have h1 := (ap1_ok (c := chn (aF A) (aHd A) i) hBi.1 (hBi.2.2 l hl)); have h2 := h1.2.2 v hv; have h3 := h1.1.1.2; omega) (fun v139 h139 => ?_) (fun h139 => ?_)
                · rw [h139, show oI (some v139) = nI v139 from rfl]
                  refine j_iinc C dX7_putOnto_154 rfl (by decide) rfl ?_
                  refine j_goto C 116 dX7_putOnto_157 ?_ (by decide)
                  exact q_cast (ih (by omega) v139 _ (by rw [hst]; exact h139) (by rw [hst]; exact hM6.1) (ke_trans k6 hM6.2)) (gLe_c rfl (gLe_c rfl (gLe_c rfl (gLe_c rfl (gLe_c rfl (gLe_c rfl (gLe_c (by rw [pI_dec]) gLe_0))))))) (rfl)
                · refine j_aload_n C dX7_putOnto_142 rfl ?_
                  refine j_iload C dX7_putOnto_143 rfl ?_
                  refine q_putI C fX7 3 rfl (by decide) (by decide) lf_X7_21 rfl rfl rfl (Nat.le_of_ble_eq_true rfl) rfl dX7_putOnto_145 ?_
                  refine j_aload_n C dX7_putOnto_148 rfl ?_
                  refine j_iconst C (v := nI 4) dX7_putOnto_149 rfl ?_
                  refine q_callV C (sp_X7_raises G _ 4) vX7_raises lk_X7_91 rfl (by decide) rfl rfl (Nat.le_of_ble_eq_true rfl) (by decide) dX7_putOnto_150 ?_
                  exact q_iretS C CM rfl (by decide) (by decide) dX7_putOnto_153 (pom_v (show oPutOnto A (nI b) = (4, 0, A) from by simp only [oPutOnto, hb, hh, h21, if_true, h38, po_none (A := A) (h := h) (i := i) (by omega) (by rw [hst]; exact h139)]) rfl) (pom_3 (show oPutOnto A (nI b) = (4, 0, A) from by simp only [oPutOnto, hb, hh, h21, if_true, h38, po_none (A := A) (h := h) (i := i) (by omega) (by rw [hst]; exact h139)]) hA (rm_ext (ext_refl A) (M := sI (sI M3 233 f) 226 g) ⟨⟨hR4.1.1, fun c hc => hR4.1.2.1 c hc, fun c hc p hp => by rw [sI_n _ _ (show 158 + c ≠ 226 by have : c < aN A := hc; omega)]; exact hR4.1.2.2 c hc p hp⟩, hR4.2⟩ (rk_ext (ext_trans hBi.2.1 (ap1_ok (c := chn (aF A) (aHd A) i) hBi.1 (hBi.2.2 l hl)).2.1) hM6.1) (ke_trans (ke_trans k6 hM6.2) (ke_17 _ _))) (mod_trans (mod_trans (mod_trans hmd (mod_sI M3 f (by decide))) (mod_sI _ g (by decide))) (ke_trans (ke_trans k6 hM6.2) (ke_17 _ _)).2.2.2))
            exact q_cast (K116 (chL A h (aHd A)) (by omega) h _ (by rw [Nat.sub_self]; rfl) (by rw [Nat.sub_self]; exact ⟨hR4.1.1, fun c hc => hR4.1.2.1 c hc, fun c hc p hp => by rw [sI_n _ _ (show 158 + c ≠ 226 by have : c < aN A := hc; omega)]; exact hR4.1.2.2 c hc p hp⟩) (ke_refl _)) (gLe_c rfl (gLe_c rfl (gLe_c rfl (gLe_c rfl (gLe_c rfl (gLe_c rfl (gLe_c rfl gLe_0))))))) (rfl)
          · have hiL : i < 60 := by
              have q : ¬ (chL A h (aHd A)) < i := fun q => by have := hn _ q; rw [hL.2.1] at this; cases this
              omega
            refine j_aload_n C dX7_putOnto_79 rfl ?_
            refine q_get C fX7 13 rfl (by decide) (by decide) lf_X7_43 rfl rfl dX7_putOnto_80 ?_
            refine j_iload_n C dX7_putOnto_83 rfl ?_
            refine j_iload C dX7_putOnto_84 rfl ?_
            refine q_iast C rfl (by decide) (by decide) (by omega) dX7_putOnto_86 ?_
            refine q_iinc C dX7_putOnto_87 rfl (by decide) rfl ?_
            refine j_aload_n C dX7_putOnto_90 rfl ?_
            refine q_get C fX7 1 rfl (by decide) (by decide) lf_X7_14 rfl rfl dX7_putOnto_91 ?_
            refine j_iload C dX7_putOnto_94 rfl ?_
            refine q_iald C rfl (by decide) (by decide) (by omega) dX7_putOnto_96 ?_
            rw [show (sI (sI (sI M3 233 f) 226 g) 226 (upd ((sI (sI M3 233 f) 226 g).1 226) i (nI (chn (aF A) (aHd A) i)))).1 218 (chn (aF A) (aHd A) i) = nI (chn (aF A) (aHd A) (i + 1)) from (hR4.1.2.1 _ hcl).1.trans (by rw [chn_par hA hhn hd.2 h76]; rfl)]
            refine j_istore C dX7_putOnto_97 (by decide) rfl ?_
            refine j_goto C 69 dX7_putOnto_99 ?_ (by decide)
            exact q_cast (ih (by omega) (upd g i (nI (chn (aF A) (aHd A) i))) (fun j hj => if e : j = i then (by rw [e, upd_s]) else (by rw [upd_n _ _ e]; exact hg j (by omega))) (fun j hj => if e : j = i then (by rw [e]; exact h76) else hn j (by omega))) (gLe_c rfl (gLe_c rfl (gLe_c rfl (gLe_c rfl (gLe_c rfl (gLe_n (gLe_n gLe_0))))))) (by rw [sI_sI, sI_s])
        exact q_cast (K69 0 (by omega) (M3.1 226) (fun j hj => absurd hj (by omega)) (fun j hj => absurd hj (by omega))) (gLe_c rfl (gLe_c rfl (gLe_c rfl (gLe_c rfl (gLe_c rfl (gLe_n (gLe_n gLe_0))))))) (by rw [show M3.1 226 = (sI M3 233 f).1 226 from rfl, sI_id])
      · refine j_aload_n C dX7_putOnto_41 rfl ?_
        refine j_iconst C (v := nI 3) dX7_putOnto_42 rfl ?_
        refine q_callV C (sp_X7_raises G _ 3) vX7_raises lk_X7_91 rfl (by decide) rfl rfl (Nat.le_of_ble_eq_true rfl) (by decide) dX7_putOnto_43 ?_
        exact q_iretS C CM rfl (by decide) (by decide) dX7_putOnto_46 (pom_v (o_po3 hb hh (by first | exact Or.inl h21 | exact Or.inr h38)) rfl) (by first | exact pom_3 (o_po3 hb hh (Or.inl h21)) hA hR1 (mod_sF M 7 _) | exact pom_3 (o_po3 hb hh (Or.inr h38)) hA hR3 hmd)
  · refine j_iconst C (v := nI 0) dX7_putOnto_8 rfl ?_
    exact q_iretS C CM rfl (by decide) (by decide) dX7_putOnto_9 (no_val (o := oPutOnto A x) hA hR h5 (fun e => by simp only [oPutOnto, e]) (fun p e0 e1 => by simp only [oPutOnto, e0, e1])).1 (no_val hA hR h5 (fun e => by simp only [oPutOnto, e]) (fun p e0 e1 => by simp only [oPutOnto, e0, e1])).2
