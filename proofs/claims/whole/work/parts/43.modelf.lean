theorem q_dretS {G : gG} {X : gX} {own : String} {cc : ByteArray} {nL : Nat} {R : Room} {k n pc : Nat} {lv : List (Option Value)} {M : gMem} {μ : gM} {rm : Room} {S : gMem → Prop} (C : gC G X own cc nL R) {v v' : UInt64} (CM : gCM G X μ rm false (RtS G (some (.double v')) S)) (hret : μ.2.2.2.1 = some .double) (hk : k ≤ rm.cells) (hn : n ≤ rm.slots) (d : decode cc pc = .ok (.dreturn, 1)) (hv : v = v') (hM : S M) : Q G X k n pc lv [.double v] M :=
  j_dret C CM hret hk hn d ⟨by rw [hv], rfl, M, hM, rfl⟩
set_option maxHeartbeats 4000000 in
set_option maxRecDepth 100000 in
theorem sp_X7_packShare (G : gG) (M : gMem) {A : gSt0} (hA : gAi A) (hR : gRM A M) : SpS G mX7_packShare (gRm 4 0) [.ref (gb G + 156)] M (some (.float (if (aP A).1 = 0 then FP.fconst0 else shF A))) (gPom (if (aP A).1 = 0 then 1 else 0, 0, A) M) := by
  refine Sp.of (by decide +kernel) (Nat.le_of_ble_eq_true rfl) (fun X C CM => ?_)
  have C : gC G X RX7 cX7_packShare 1 (gRm 4 0) := C
  have hR1 := rm_k hA hR (km_sF M (j := 7) (nI 0) (by decide))
  refine j_aload_n C dX7_packShare_0 rfl ?_
  refine q_callVS C (sp_X7_packsAll G M hA hR.1) vX7_packsAll lk_X7_204 rfl (by decide) rfl rfl (Nat.le_of_ble_eq_true rfl) (by decide) dX7_packShare_1 (fun M2 hM2 => ?_)
  have hl := pk_lim hA
  have hl1 := hl.2
  have hsl := sh_lim hA
  refine j_aload_n C dX7_packShare_4 rfl ?_
  refine q_get C fX7 20 rfl (by decide) (by decide) lf_X7_195 rfl rfl dX7_packShare_5 ?_
  rw [hM2.1.1]
  refine q_ifz_ne C 19 dX7_packShare_8 (by decide) (by omega) (fun h8 => ?_) (fun h8 => ?_)
  · refine j_aload_n C dX7_packShare_19 rfl ?_
    refine q_callV C (sp_X7_sum G M2 hM2.1 hl.1 hl.2) vX7_sum lk_X7_207 rfl (by decide) rfl rfl (Nat.le_of_ble_eq_true rfl) (by decide) dX7_packShare_20 ?_
    refine j_l2f C dX7_packShare_23 ?_
    rw [f_lI (show sumN (aP A).2.2.1 (aP A).1 < 2 ^ 31 by omega)]
    refine j_iconst C (v := nI 4) dX7_packShare_24 rfl ?_
    refine j_aload_n C dX7_packShare_25 rfl ?_
    refine q_get C fX7 20 rfl (by decide) (by decide) lf_X7_195 rfl rfl dX7_packShare_26 ?_
    rw [hM2.1.1]
    refine q_imul C dX7_packShare_29 ?_
    refine j_i2f C dX7_packShare_30 ?_
    refine j_fdiv C dX7_packShare_31 (f_div32 hsl (show 4 * (aP A).1 < 1921 by omega) (by omega)) ?_
    exact q_fretS C CM rfl (by decide) (by decide) dX7_packShare_32 (by rw [if_neg (show ¬ (aP A).1 = 0 by omega)]; rfl) (by rw [if_neg (show ¬ (aP A).1 = 0 by omega)]; exact pom_k rfl hA hR1 hM2.2)
  · refine j_aload_n C dX7_packShare_11 rfl ?_
    refine j_iconst C (v := nI 1) dX7_packShare_12 rfl ?_
    refine q_callV C (sp_X7_raises G M2 1) vX7_raises lk_X7_91 rfl (by decide) rfl rfl (Nat.le_of_ble_eq_true rfl) (by decide) dX7_packShare_13 ?_
    refine j_pop C dX7_packShare_16 rfl ?_
    refine j_fconst0 C dX7_packShare_17 ?_
    exact q_fretS C CM rfl (by decide) (by decide) dX7_packShare_18 (by rw [if_pos h8]) (by rw [if_pos h8]; exact pom_3 rfl hA (rm_k hA hR1 hM2.2.1) (mod_trans (mod_sF M 7 _) hM2.2.1.2.2.2.2))
set_option maxHeartbeats 4000000 in
set_option maxRecDepth 100000 in
theorem sp_X7_meanFiles (G : gG) (M : gMem) {A : gSt0} (hA : gAi A) (hR : gRM A M) : SpS G mX7_meanFiles (gRm 0 0) [.ref (gb G + 156)] M (some (.double (mnD A))) (gPom (0, 0, A) M) := by
  refine Sp.of (by decide +kernel) (Nat.le_of_ble_eq_true rfl) (fun X C CM => ?_)
  have C : gC G X RX7 cX7_meanFiles 4 (gRm 0 0) := C
  have hR1 := rm_k hA hR (km_sF M (j := 7) (nI 0) (by decide))
  have h60 := hA.1.2
  have h1n := hA.1.1
  have hfl := fl_lim hA
  refine j_aload_n C dX7_meanFiles_0 rfl ?_
  refine j_iconst C (v := nI 0) dX7_meanFiles_1 rfl ?_
  refine q_putI C fX7 7 rfl (by decide) (by decide) lf_X7_77 rfl rfl rfl (Nat.le_of_ble_eq_true rfl) rfl dX7_meanFiles_2 ?_
  refine j_iconst C (v := nI 0) dX7_meanFiles_5 rfl ?_
  refine j_istore_n C dX7_meanFiles_6 (by decide) rfl ?_
  refine j_iconst C (v := nI 0) dX7_meanFiles_7 rfl ?_
  refine j_istore_n C dX7_meanFiles_8 (by decide) rfl ?_
  have K9 : ∀ i, i ≤ aN A → Q G X 0 0 9 [some (.ref (gb G + 156)), some (.int (nI (sumN (fun c => cntN (fun p => decide (¬ aT A c p = none)) 8) i))), some (.int (nI i)), none] [] (sF M 156 7 (nI 0)) := by
    refine g_up _ _ (fun i hi ih => ?_)
    refine j_iload_n C dX7_meanFiles_9 rfl ?_
    refine j_aload_n C dX7_meanFiles_10 rfl ?_
    refine q_get C fX7 3 rfl (by decide) (by decide) lf_X7_21 rfl rfl dX7_meanFiles_11 ?_
    rw [hR1.1.1]
    refine q_icmp_ge C 57 dX7_meanFiles_14 (by decide) (by omega) (by omega) (fun h14 => ?_) (fun h14 => ?_)
    · refine j_iload_n C dX7_meanFiles_57 rfl ?_
      refine j_i2d C dX7_meanFiles_58 ?_
      refine j_aload_n C dX7_meanFiles_59 rfl ?_
      refine q_get C fX7 3 rfl (by decide) (by decide) lf_X7_21 rfl rfl dX7_meanFiles_60 ?_
      rw [hR1.1.1]
      refine j_i2d C dX7_meanFiles_63 ?_
      refine j_ddiv C dX7_meanFiles_64 (f_div64 (by rw [show i = aN A by omega]; exact hfl) (show aN A < 481 by omega) (by omega)) ?_
      exact q_dretS C CM rfl (by decide) (by decide) dX7_meanFiles_65 (by unfold mnD; rw [show i = aN A by omega]) (pom rfl (sF_at _ _ _ _) hR1 (mod_sF M 7 _))
    · refine j_iconst C (v := nI 0) dX7_meanFiles_17 rfl ?_
      refine j_istore_n C dX7_meanFiles_18 (by decide) rfl ?_
      have K19 : ∀ j, j ≤ 8 → Q G X 0 0 19 [some (.ref (gb G + 156)), some (.int (nI (sumN (fun c => cntN (fun p => decide (¬ aT A c p = none)) 8) i + cntN (fun p => decide (¬ aT A i p = none)) j))), some (.int (nI i)), some (.int (nI j))] [] (sF M 156 7 (nI 0)) := by
        refine g_up _ _ (fun j hj ihj => ?_)
        refine j_iload_n C dX7_meanFiles_19 rfl ?_
        refine j_bipush C (v := nI 8) dX7_meanFiles_20 rfl ?_
        refine q_icmp_ge C 51 dX7_meanFiles_22 (by decide) (by omega) (by omega) (fun h22 => ?_) (fun h22 => ?_)
        · refine q_iinc C dX7_meanFiles_51 rfl (by decide) rfl ?_
          refine j_goto C 9 dX7_meanFiles_54 ?_ (by decide)
          exact q_cast (ih (by omega)) (gLe_c rfl (gLe_c (by rw [show j = 8 by omega]; rfl) (gLe_c rfl (gLe_n gLe_0)))) (rfl)
        · refine j_iload_n C dX7_meanFiles_25 rfl ?_
          refine j_aload_n C dX7_meanFiles_26 rfl ?_
          refine q_get C fX7 0 rfl (by decide) (by decide) lf_X7_11 rfl rfl dX7_meanFiles_27 ?_
          refine j_iload_n C dX7_meanFiles_30 rfl ?_
          refine q_aald157 C (by omega) dX7_meanFiles_31 ?_
          refine j_iload_n C dX7_meanFiles_32 rfl ?_
          refine q_iald C (gKd_row (show i < 60 by omega)) (by omega) (by decide) (by omega) dX7_meanFiles_33 ?_
          rw [hR1.1.2.2 i h14 j h22]
          refine j_iconst C (v := -1) dX7_meanFiles_34 rfl ?_
          refine q_icmp_neN C 42 dX7_meanFiles_35 (by decide) (nI_lt8 (hA.2.2.2 i) h22) (fun v35 h35 => ?_) (fun h35 => ?_)
          · refine j_iconst C (v := nI 1) dX7_meanFiles_42 rfl ?_
            refine q_iadd C dX7_meanFiles_43 ?_
            refine j_istore_n C dX7_meanFiles_44 (by decide) rfl ?_
            refine q_iinc C dX7_meanFiles_45 rfl (by decide) rfl ?_
            refine j_goto C 19 dX7_meanFiles_48 ?_ (by decide)
            exact q_cast (ihj (by omega)) (gLe_c rfl (gLe_c (by first | rw [cnt_t (P := (fun p => decide (¬ aT A i p = none))) (decide_eq_true (fun e => by rw [e] at h35; cases h35))]; rfl | (rw [cnt_f (P := (fun p => decide (¬ aT A i p = none))) (decide_eq_false (fun e => e h35))]; rfl)) (gLe_c rfl (gLe_c rfl gLe_0)))) (rfl)
          · refine j_iconst C (v := nI 0) dX7_meanFiles_38 rfl ?_
            refine j_goto C 43 dX7_meanFiles_39 ?_ (by decide)
            refine q_iadd C dX7_meanFiles_43 ?_
            refine j_istore_n C dX7_meanFiles_44 (by decide) rfl ?_
            refine q_iinc C dX7_meanFiles_45 rfl (by decide) rfl ?_
            refine j_goto C 19 dX7_meanFiles_48 ?_ (by decide)
            exact q_cast (ihj (by omega)) (gLe_c rfl (gLe_c (by first | rw [cnt_t (P := (fun p => decide (¬ aT A i p = none))) (decide_eq_true (fun e => by rw [e] at h35; cases h35))]; rfl | (rw [cnt_f (P := (fun p => decide (¬ aT A i p = none))) (decide_eq_false (fun e => e h35))]; rfl)) (gLe_c rfl (gLe_c rfl gLe_0)))) (rfl)
      exact q_cast (K19 0 (by omega)) (gLe_c rfl (gLe_c rfl (gLe_c rfl (gLe_c rfl gLe_0)))) (rfl)
  exact q_cast (K9 0 (by omega)) (gLe_c rfl (gLe_c rfl (gLe_c rfl (gLe_n gLe_0)))) (rfl)
