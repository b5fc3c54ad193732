theorem oI_sm {o : Option Nat} {v : Nat} (h : o = some v) : oI o = nI v := by rw [h]; rfl
theorem lc_s {A : gSt0} {x : Int32} {p c : Nat} (hp : inB x 8 = some p) (h : lcO A p (aHd A) = some c) : oLastChange A x = (0, nI c, A) := by simp only [oLastChange, hp, h]
theorem lc_n {A : gSt0} {x : Int32} {p : Nat} (hp : inB x 8 = some p) (h : lcO A p (aHd A) = none) : oLastChange A x = (2, 0, A) := by simp only [oLastChange, hp, h]
set_option maxHeartbeats 4000000 in
set_option maxRecDepth 100000 in
theorem sp_X7_movedTo (G : gG) (M : gMem) {A : gSt0} (hA : gAi A) (hR : gRM A M) (x y z : Int32) : SpS G mX7_movedTo (gRm 3 0) [.ref (gb G + 156), .int x, .int y, .int z] M (some (.int (oMovedTo A x y z).2.1)) (gPom (oMovedTo A x y z) M) := by
  refine Sp.of (by decide +kernel) (Nat.le_of_ble_eq_true rfl) (fun X C CM => ?_)
  have C : gC G X RX7 cX7_movedTo 4 (gRm 3 0) := C
  have h60 := hA.1.2
  refine j_aload_n C dX7_movedTo_0 rfl ?_
  refine j_iload_n C dX7_movedTo_1 rfl ?_
  refine j_iload_n C dX7_movedTo_2 rfl ?_
  refine q_callV C (sp_X7_areCommits G M hR.1.1 hA.1 x y) vX7_areCommits lk_X7_186 rfl (by decide) rfl rfl (Nat.le_of_ble_eq_true rfl) (by decide) dX7_movedTo_3 ?_
  refine q_if_eq0 C 16 dX7_movedTo_6 (by decide) (fun h6 => ?_) (fun h6 => ?_)
  · refine j_aload_n C dX7_movedTo_16 rfl ?_
    refine j_iconst C (v := nI 1) dX7_movedTo_17 rfl ?_
    refine q_callV C (sp_X7_raises G _ 1) vX7_raises lk_X7_91 rfl (by decide) rfl rfl (Nat.le_of_ble_eq_true rfl) (by decide) dX7_movedTo_18 ?_
    exact q_iretS C CM rfl (by decide) (by decide) dX7_movedTo_21 (by first | exact pom_v (ac_mv z h6) rfl | exact pom_v (show oMovedTo A (nI c) (nI o) z = (1, 0, A) from by simp only [oMovedTo, hc, ho, inB_nsome h13]) rfl) (by first | exact pom_x2 (ac_mv z h6) hA hR | exact pom_x2 (show oMovedTo A (nI c) (nI o) z = (1, 0, A) from by simp only [oMovedTo, hc, ho, inB_nsome h13]) hA hR)
  · obtain ⟨c, o, hc, ho, rfl, rfl, hcn, hon, e0⟩ := ac_0 hA h6
    rw [e0]
    have hR1 := rm_k hA hR (km_sF M (j := 7) (nI 0) (by decide))
    refine j_iload_n C dX7_movedTo_9 rfl ?_
    refine q_callS C (sp_X7_isPath G _ z) vX7_isPath lk_X7_84 rfl rfl (Nat.le_of_ble_eq_true rfl) (by decide) dX7_movedTo_10 ?_
    refine q_if_ne0 C 22 dX7_movedTo_13 (by decide) (fun h13 => ?_) (fun h13 => ?_)
    · obtain ⟨p, hp, rfl, hp8⟩ := inB_is (n := 8) (by decide) h13
      refine j_aload_n C dX7_movedTo_22 rfl ?_
      refine j_aload_n C dX7_movedTo_23 rfl ?_
      refine q_get C fX7 0 rfl (by decide) (by decide) lf_X7_11 rfl rfl dX7_movedTo_24 ?_
      refine j_iload_n C dX7_movedTo_27 rfl ?_
      refine q_aald157 C (by omega) dX7_movedTo_28 ?_
      refine j_aload_n C dX7_movedTo_29 rfl ?_
      refine q_get C fX7 0 rfl (by decide) (by decide) lf_X7_11 rfl rfl dX7_movedTo_30 ?_
      refine j_iload_n C dX7_movedTo_33 rfl ?_
      refine q_aald157 C (by omega) dX7_movedTo_34 ?_
      refine j_aload_n C dX7_movedTo_35 rfl ?_
      refine q_get C fX7 8 rfl (by decide) (by decide) lf_X7_31 rfl rfl dX7_movedTo_36 ?_
      refine q_callVS C (sp_X7_findsMoves G _ (a := 158 + c) (b := 158 + o) (m := 222) (gKd_row (by omega)) (by omega) (gKd_row (by omega)) (by omega) rfl (by decide) (by omega) (by omega) (hR1.1.2.2 c hcn) (hR1.1.2.2 o hon) (hA.2.2.2 c) (hA.2.2.2 o)) vX7_findsMoves lk_X7_150 rfl (by decide) rfl rfl (Nat.le_of_ble_eq_true rfl) (by decide) dX7_movedTo_39 (fun M2 hM2 => ?_)
      obtain ⟨f, rfl, hf⟩ := hM2
      refine j_aload_n C dX7_movedTo_42 rfl ?_
      refine q_get C fX7 8 rfl (by decide) (by decide) lf_X7_31 rfl rfl dX7_movedTo_43 ?_
      refine j_iload_n C dX7_movedTo_46 rfl ?_
      refine q_iald C rfl (by decide) (by decide) (by omega) dX7_movedTo_47 ?_
      rw [sI_s, hf p hp8]
      refine j_iconst C (v := -1) dX7_movedTo_48 rfl ?_
      refine q_icmp_neN C 60 dX7_movedTo_49 (by decide) (fun w hw => Nat.lt_trans (mv_all _ _ p w hp8 hw).1 (by decide)) (fun v49 h49 => ?_) (fun h49 => ?_)
      · refine j_aload_n C dX7_movedTo_60 rfl ?_
        refine q_get C fX7 8 rfl (by decide) (by decide) lf_X7_31 rfl rfl dX7_movedTo_61 ?_
        refine j_iload_n C dX7_movedTo_64 rfl ?_
        refine q_iald C rfl (by decide) (by decide) (by omega) dX7_movedTo_65 ?_
        exact q_iretS C CM rfl (by decide) (by decide) dX7_movedTo_66 (by first | exact pom_v (show oMovedTo A (nI c) (nI o) (nI p) = (2, 0, A) from by simp only [oMovedTo, hc, ho, hp, h49]) rfl | exact pom_v (show oMovedTo A (nI c) (nI o) (nI p) = (0, nI v49, A) from by simp only [oMovedTo, hc, ho, hp, h49]) (by rw [sI_s, hf p hp8]; exact oI_sm h49)) (by first | exact pom_3 (show oMovedTo A (nI c) (nI o) (nI p) = (2, 0, A) from by simp only [oMovedTo, hc, ho, hp, h49]) hA (rm_k hA hR1 (km_sI _ f (by decide))) (mod_trans (mod_sF M 7 _) (mod_sI _ f (by decide))) | exact pom_k (show oMovedTo A (nI c) (nI o) (nI p) = (0, nI v49, A) from by simp only [oMovedTo, hc, ho, hp, h49]) hA hR1 (kt_sI _ f (by decide)))
      · refine j_aload_n C dX7_movedTo_52 rfl ?_
        refine j_iconst C (v := nI 2) dX7_movedTo_53 rfl ?_
        refine q_callV C (sp_X7_raises G _ 2) vX7_raises lk_X7_91 rfl (by decide) rfl rfl (Nat.le_of_ble_eq_true rfl) (by decide) dX7_movedTo_54 ?_
        refine j_goto C 66 dX7_movedTo_57 ?_ (by decide)
        exact q_iretS C CM rfl (by decide) (by decide) dX7_movedTo_66 (by first | exact pom_v (show oMovedTo A (nI c) (nI o) (nI p) = (2, 0, A) from by simp only [oMovedTo, hc, ho, hp, h49]) rfl | exact pom_v (show oMovedTo A (nI c) (nI o) (nI p) = (0, nI v49, A) from by simp only [oMovedTo, hc, ho, hp, h49]) (by rw [sI_s, hf p hp8]; exact oI_sm h49)) (by first | exact pom_3 (show oMovedTo A (nI c) (nI o) (nI p) = (2, 0, A) from by simp only [oMovedTo, hc, ho, hp, h49]) hA (rm_k hA hR1 (km_sI _ f (by decide))) (mod_trans (mod_sF M 7 _) (mod_sI _ f (by decide))) | exact pom_k (show oMovedTo A (nI c) (nI o) (nI p) = (0, nI v49, A) from by simp only [oMovedTo, hc, ho, hp, h49]) hA hR1 (kt_sI _ f (by decide)))
    · refine j_aload_n C dX7_movedTo_16 rfl ?_
      refine j_iconst C (v := nI 1) dX7_movedTo_17 rfl ?_
      refine q_callV C (sp_X7_raises G _ 1) vX7_raises lk_X7_91 rfl (by decide) rfl rfl (Nat.le_of_ble_eq_true rfl) (by decide) dX7_movedTo_18 ?_
      exact q_iretS C CM rfl (by decide) (by decide) dX7_movedTo_21 (by first | exact pom_v (ac_mv z h6) rfl | exact pom_v (show oMovedTo A (nI c) (nI o) z = (1, 0, A) from by simp only [oMovedTo, hc, ho, inB_nsome h13]) rfl) (by first | exact pom_x2 (ac_mv z h6) hA hR | exact pom_x2 (show oMovedTo A (nI c) (nI o) z = (1, 0, A) from by simp only [oMovedTo, hc, ho, inB_nsome h13]) hA hR)
set_option maxHeartbeats 4000000 in
set_option maxRecDepth 100000 in
theorem sp_X7_lastChange (G : gG) (M : gMem) {A : gSt0} (hA : gAi A) (hB : gAb A) (hR : gRM A M) (x : Int32) : SpS G mX7_lastChange (gRm 2 0) [.ref (gb G + 156), .int x] M (some (.int (oLastChange A x).2.1)) (gPom (oLastChange A x) M) := by
  refine Sp.of (by decide +kernel) (Nat.le_of_ble_eq_true rfl) (fun X C CM => ?_)
  have C : gC G X RX7 cX7_lastChange 3 (gRm 2 0) := C
  have hn60 := hA.1.2
  have hd := ab_hd hB
  have h5c := hB.1
  refine j_aload_n C dX7_lastChange_0 rfl ?_
  refine j_iload_n C dX7_lastChange_1 rfl ?_
  refine q_callS C (sp_X7_isPath G M x) vX7_isPath lk_X7_84 rfl rfl (Nat.le_of_ble_eq_true rfl) (by decide) dX7_lastChange_2 ?_
  refine q_if_eq0 C 12 dX7_lastChange_5 (by decide) (fun h5 => ?_) (fun h5 => ?_)
  · refine j_iconst C (v := nI 1) dX7_lastChange_12 rfl ?_
    refine q_putI C fX7 7 rfl (by decide) (by decide) lf_X7_77 rfl rfl rfl (Nat.le_of_ble_eq_true rfl) rfl dX7_lastChange_13 ?_
    refine j_aload_n C dX7_lastChange_16 rfl ?_
    refine q_get C fX7 7 rfl (by decide) (by decide) lf_X7_77 rfl rfl dX7_lastChange_17 ?_
    rw [sF_at]
    refine j_if_le C 25 dX7_lastChange_20 (fun h => absurd h (by decide)) (fun _ => ?_) (by decide)
    refine j_iconst C (v := nI 0) dX7_lastChange_23 rfl ?_
    exact q_iretS C CM rfl (by decide) (by decide) dX7_lastChange_24 (pom_v (show oLastChange A x = (1, 0, A) from by simp only [oLastChange, inB_nsome h5]) rfl) (pom_x (k := 1) (by simp only [oLastChange, inB_nsome h5]) hA hR)
  · obtain ⟨p, hp, rfl, hp8⟩ := inB_is (n := 8) (by decide) h5
    refine j_iconst C (v := nI 0) dX7_lastChange_8 rfl ?_
    refine j_goto C 13 dX7_lastChange_9 ?_ (by decide)
    refine q_putI C fX7 7 rfl (by decide) (by decide) lf_X7_77 rfl rfl rfl (Nat.le_of_ble_eq_true rfl) rfl dX7_lastChange_13 ?_
    refine j_aload_n C dX7_lastChange_16 rfl ?_
    refine q_get C fX7 7 rfl (by decide) (by decide) lf_X7_77 rfl rfl dX7_lastChange_17 ?_
    rw [sF_at]
    refine j_if_le C 25 dX7_lastChange_20 (fun _ => ?_) (fun h => absurd (by decide) h) (by decide)
    have hR1 := rm_k hA hR (km_sF M (j := 7) (nI 0) (by decide))
    refine j_aload_n C dX7_lastChange_25 rfl ?_
    refine q_get C fX7 4 rfl (by decide) (by decide) lf_X7_25 rfl rfl dX7_lastChange_26 ?_
    refine j_aload_n C dX7_lastChange_29 rfl ?_
    refine q_get C fX7 5 rfl (by decide) (by decide) lf_X7_95 rfl rfl dX7_lastChange_30 ?_
    rw [hR1.2.1.2.1]
    refine q_iald C rfl (by decide) (by decide) (by omega) dX7_lastChange_33 ?_
    rw [hd_M hB hR1.2.1]
    refine j_istore_n C dX7_lastChange_34 (by decide) rfl ?_
    have K35 : ∀ d c, c ≤ d → c < aN A → lch (fun c q => decide (¬ aT A c p = aT A q p)) (aF A) d c = lcO A p (aHd A) → Q G X 0 0 35 [some (.ref (gb G + 156)), some (.int (nI p)), some (.int (nI c))] [] (sF M 156 7 (nI 0)) := by
      intro d
      induction d with
      | zero =>
        intro c hcd hcn hl
        refine j_iload_n C dX7_lastChange_35 rfl ?_
        refine q_ifz_le C 75 dX7_lastChange_36 (by decide) (by omega) (fun h36 => ?_) (fun h36 => ?_)
        · refine j_aload_n C dX7_lastChange_75 rfl ?_
          refine j_iconst C (v := nI 2) dX7_lastChange_76 rfl ?_
          refine q_callV C (sp_X7_raises G _ 2) vX7_raises lk_X7_91 rfl (by decide) rfl rfl (Nat.le_of_ble_eq_true rfl) (by decide) dX7_lastChange_77 ?_
          exact q_iretS C CM rfl (by decide) (by decide) dX7_lastChange_80 (pom_v (lc_n hp (hl.symm.trans (by rw [h36]; exact lc_0 hA _))) rfl) (pom_x2 (lc_n hp (hl.symm.trans (by rw [h36]; exact lc_0 hA _))) hA hR)
        · omega
      | succ d ihd =>
        intro c hcd hcn hl
        refine j_iload_n C dX7_lastChange_35 rfl ?_
        refine q_ifz_le C 75 dX7_lastChange_36 (by decide) (by omega) (fun h36 => ?_) (fun h36 => ?_)
        · refine j_aload_n C dX7_lastChange_75 rfl ?_
          refine j_iconst C (v := nI 2) dX7_lastChange_76 rfl ?_
          refine q_callV C (sp_X7_raises G _ 2) vX7_raises lk_X7_91 rfl (by decide) rfl rfl (Nat.le_of_ble_eq_true rfl) (by decide) dX7_lastChange_77 ?_
          exact q_iretS C CM rfl (by decide) (by decide) dX7_lastChange_80 (pom_v (lc_n hp (hl.symm.trans (by rw [h36]; exact lc_0 hA _))) rfl) (pom_x2 (lc_n hp (hl.symm.trans (by rw [h36]; exact lc_0 hA _))) hA hR)
        · obtain ⟨q, hq⟩ := Option.isSome_iff_exists.mp (hA.2.2.1 c hcn h36)
          have hql := hA.2.1.1 _ _ hq
          refine j_aload_n C dX7_lastChange_39 rfl ?_
          refine q_get C fX7 0 rfl (by decide) (by decide) lf_X7_11 rfl rfl dX7_lastChange_40 ?_
          refine j_iload_n C dX7_lastChange_43 rfl ?_
          refine q_aald157 C (by omega) dX7_lastChange_44 ?_
          refine j_iload_n C dX7_lastChange_45 rfl ?_
          refine q_iald C (gKd_row (show c < 60 by omega)) (by omega) (by decide) (by omega) dX7_lastChange_46 ?_
          rw [hR1.1.2.2 c hcn p hp8]
          refine j_aload_n C dX7_lastChange_47 rfl ?_
          refine q_get C fX7 0 rfl (by decide) (by decide) lf_X7_11 rfl rfl dX7_lastChange_48 ?_
          refine j_aload_n C dX7_lastChange_51 rfl ?_
          refine q_get C fX7 1 rfl (by decide) (by decide) lf_X7_14 rfl rfl dX7_lastChange_52 ?_
          refine j_iload_n C dX7_lastChange_55 rfl ?_
          refine q_iald C rfl (by decide) (by decide) (by omega) dX7_lastChange_56 ?_
          rw [(hR1.1.2.1 c hcn).1, hq, show oI (some q) = nI q from rfl]
          refine q_aald157 C (by omega) dX7_lastChange_57 ?_
          refine j_iload_n C dX7_lastChange_58 rfl ?_
          refine q_iald C (gKd_row (show q < 60 by omega)) (by omega) (by decide) (by omega) dX7_lastChange_59 ?_
          rw [hR1.1.2.2 q (by omega) p hp8]
          refine j_icmp_eq C 65 dX7_lastChange_60 (fun h60 => ?_) (fun h60 => ?_) (by decide)
          · refine j_aload_n C dX7_lastChange_65 rfl ?_
            refine q_get C fX7 1 rfl (by decide) (by decide) lf_X7_14 rfl rfl dX7_lastChange_66 ?_
            refine j_iload_n C dX7_lastChange_69 rfl ?_
            refine q_iald C rfl (by decide) (by decide) (by omega) dX7_lastChange_70 ?_
            rw [(hR1.1.2.1 c hcn).1, hq, show oI (some q) = nI q from rfl]
            refine j_istore_n C dX7_lastChange_71 (by decide) rfl ?_
            refine j_goto C 35 dX7_lastChange_72 ?_ (by decide)
            exact q_cast (ihd q (by omega) (by omega) (by rw [← hl, lch_go hq (decide_eq_false (fun w => w ((oI_eq (nI_lt8 (hA.2.2.2 c) hp8) (nI_lt8 (hA.2.2.2 q) hp8)).mp h60)))])) (gLe_c rfl (gLe_c rfl (gLe_c rfl gLe_0))) rfl
          · refine j_iload_n C dX7_lastChange_63 rfl ?_
            exact q_iretS C CM rfl (by decide) (by decide) dX7_lastChange_64 (pom_v (lc_s hp (hl.symm.trans (lch_hit hq (decide_eq_true (fun w => h60 (by rw [w])))))) rfl) (pom_k (lc_s hp (hl.symm.trans (lch_hit hq (decide_eq_true (fun w => h60 (by rw [w])))))) hA hR1 (kt_refl _))
    exact q_cast (K35 60 (aHd A) (by omega) hd.2 rfl) (gLe_c rfl (gLe_c rfl (gLe_c rfl gLe_0))) rfl
