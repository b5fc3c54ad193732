set_option maxHeartbeats 4000000 in
set_option maxRecDepth 100000 in
theorem sp_L_at (G : gG) (M : gMem) (hL : gSl G ≤ 260) {k : Nat} (hk : k < 1000) : SpR G mL_at (gRm 0 0) [.ref (gSb G), .int (nI k)] M (some (.int (atN G k))) M := by
  refine Sp.of (by decide +kernel) (Nat.le_of_ble_eq_true rfl) (fun X C CM => ?_)
  have C : gC G X RL cL_at 2 (gRm 0 0) := C
  refine j_iload_n C dL_at_0 rfl ?_
  refine j_aload_n C dL_at_1 rfl ?_
  refine s_len C dL_at_2 ?_
  refine q_icmp_ge C 12 dL_at_3 (by decide) (by omega) (by omega) (fun h => ?_) (fun h => ?_)
  · refine j_iconst C (v := nI 0) dL_at_12 rfl ?_
    exact q_iret C CM rfl (by decide) (by decide) dL_at_13 (if_neg (Nat.not_lt.mpr h)).symm rfl
  · skip
    refine j_aload_n C dL_at_6 rfl ?_
    refine j_iload_n C dL_at_7 rfl ?_
    refine s_ld C h hL dL_at_8 ?_
    refine j_goto C 13 dL_at_9 ?_ (by decide)
    exact q_iret C CM rfl (by decide) (by decide) dL_at_13 (if_pos h).symm rfl
set_option maxHeartbeats 4000000 in
set_option maxRecDepth 100000 in
theorem sp_L_some (G : gG) (M : gMem) (x y : Int32) (hy : ¬ y = 0) : SpR G mL_some (gRm 0 0) [.int x, .int y] M (some (.int (fmv x y))) M := by
  refine Sp.of (by decide +kernel) (Nat.le_of_ble_eq_true rfl) (fun X C CM => ?_)
  have C : gC G X RL cL_some 3 (gRm 0 0) := C
  refine j_iload_n C dL_some_0 rfl ?_
  refine j_iload_n C dL_some_1 rfl ?_
  refine j_irem C dL_some_2 hy ?_
  refine j_istore_n C dL_some_3 (by decide) rfl ?_
  refine j_iload_n C dL_some_4 rfl ?_
  refine j_if_ge C 14 dL_some_5 (fun h => ?_) (fun h => ?_) (by decide)
  · refine j_iload_n C dL_some_14 rfl ?_
    exact q_iret C CM rfl (by decide) (by decide) dL_some_15 (fm_ge h) rfl
  · skip
    refine j_iload_n C dL_some_8 rfl ?_
    refine j_iload_n C dL_some_9 rfl ?_
    refine j_iadd C dL_some_10 ?_
    refine j_goto C 15 dL_some_11 ?_ (by decide)
    exact q_iret C CM rfl (by decide) (by decide) dL_some_15 (fm_lt h) rfl
theorem sp_some (G : gG) (M : gMem) (x : Int32) {n : Nat} (h0 : 0 < n) (h : n < 2 ^ 31) : SpR G mL_some (gRm 0 0) [.int x, .int (nI n)] M (some (.int (nI (smN x n)))) M := by
  rw [← (sm_eq x h0 h).1]
  exact sp_L_some G M x (nI n) (nI_ne0 h0 h)
set_option maxHeartbeats 4000000 in
set_option maxRecDepth 100000 in
theorem sp_L_text (G : gG) (M : gMem) (t : Nat) : SpR G mL_text (gRm 1 0) [.int (nI t)] M (some (.int (nI (txN (smN (nI t) 1000000))))) M := by
  refine Sp.of (by decide +kernel) (Nat.le_of_ble_eq_true rfl) (fun X C CM => ?_)
  have C : gC G X RL cL_text 2 (gRm 1 0) := C
  have hv : smN (nI t) 1000000 < 1000000 := (sm_eq (nI t) (by decide) (by decide)).2
  have ht := tx_lt (smN (nI t) 1000000)
  refine j_iload_n C dL_text_0 rfl ?_
  refine j_ldc C (nI 1000000) gl_1000000 dL_text_1 ?_
  refine q_callS C (sp_some G M (nI t) (n := 1000000) (by decide) (by decide)) vL_some lk_L_75 rfl rfl (Nat.le_of_ble_eq_true rfl) ⟨⟨(Nat.le_of_ble_eq_true rfl), (Nat.le_of_ble_eq_true rfl)⟩, (by show _ ≤ (0 : Nat); simp only [gRm]; omega), (by show _ ≤ (0 : Nat); simp only [gRm]; omega)⟩ dL_text_3 ?_
  refine j_istore_n C dL_text_6 (by decide) rfl ?_
  refine j_sipush C (v := nI 1000) dL_text_7 rfl ?_
  refine j_iload_n C dL_text_10 rfl ?_
  refine j_iconst C (v := nI 2) dL_text_11 rfl ?_
  refine q_irem C (by omega) (by decide) (by decide) dL_text_12 ?_
  refine q_imul C dL_text_13 ?_
  refine j_bipush C (v := nI 100) dL_text_14 rfl ?_
  refine j_iload_n C dL_text_16 rfl ?_
  refine j_iconst C (v := nI 2) dL_text_17 rfl ?_
  refine q_idiv C (by omega) (by decide) (by decide) dL_text_18 ?_
  refine j_iconst C (v := nI 2) dL_text_19 rfl ?_
  refine q_irem C (by omega) (by decide) (by decide) dL_text_20 ?_
  refine q_imul C dL_text_21 ?_
  refine q_iadd C dL_text_22 ?_
  refine j_bipush C (v := nI 10) dL_text_23 rfl ?_
  refine j_iload_n C dL_text_25 rfl ?_
  refine j_iconst C (v := nI 4) dL_text_26 rfl ?_
  refine q_idiv C (by omega) (by decide) (by decide) dL_text_27 ?_
  refine j_iconst C (v := nI 3) dL_text_28 rfl ?_
  refine q_irem C (by omega) (by decide) (by decide) dL_text_29 ?_
  refine q_imul C dL_text_30 ?_
  refine q_iadd C dL_text_31 ?_
  refine j_iload_n C dL_text_32 rfl ?_
  refine j_bipush C (v := nI 12) dL_text_33 rfl ?_
  refine q_idiv C (by omega) (by decide) (by decide) dL_text_35 ?_
  refine j_iconst C (v := nI 4) dL_text_36 rfl ?_
  refine q_irem C (by omega) (by decide) (by decide) dL_text_37 ?_
  refine q_iadd C dL_text_38 ?_
  exact q_iret C CM rfl (by decide) (by decide) dL_text_39 rfl rfl
set_option maxHeartbeats 4000000 in
set_option maxRecDepth 100000 in
theorem sp_L_sum (G : gG) (M : gMem) {A : gSt0} (hO : gOk A) (hC : gRC A M) : SpS G mL_sum (gRm 8 2500) [.ref (gb G + 0)] M (some (.long (sumA A))) (gRC A) := by
  refine Sp.of (by decide +kernel) (Nat.le_of_ble_eq_true rfl) (fun X C CM => ?_)
  have C : gC G X RL cL_sum 5 (gRm 8 2500) := C
  have h60 := hO.1.1.2
  refine j_aload_n C dL_sum_0 rfl ?_
  refine q_callV C (sp_X6_commits G M hC) vX6_commits lk_L_80 rfl (by decide) rfl rfl (Nat.le_of_ble_eq_true rfl) ⟨⟨(Nat.le_of_ble_eq_true rfl), (Nat.le_of_ble_eq_true rfl)⟩, (by show _ ≤ (2500 : Nat); simp only [gRm]; omega), (by show _ ≤ (20000 : Nat); simp only [gRm]; omega)⟩ dL_sum_1 ?_
  refine j_i2l C dL_sum_4 ?_
  refine j_ldc2 C (31) ll_L_83 dL_sum_5 ?_
  refine j_aload_n C dL_sum_8 rfl ?_
  refine q_callV C (sp_X6_currentBranch G M hC) vX6_currentBranch lk_L_85 rfl (by decide) rfl rfl (Nat.le_of_ble_eq_true rfl) ⟨⟨(Nat.le_of_ble_eq_true rfl), (Nat.le_of_ble_eq_true rfl)⟩, (by show _ ≤ (2500 : Nat); simp only [gRm]; omega), (by show _ ≤ (20000 : Nat); simp only [gRm]; omega)⟩ dL_sum_9 ?_
  refine j_i2l C dL_sum_12 ?_
  refine j_lmul C dL_sum_13 ?_
  refine j_ladd C dL_sum_14 ?_
  refine j_ldc2 C (961) ll_L_88 dL_sum_15 ?_
  refine j_aload_n C dL_sum_18 rfl ?_
  refine q_callV C (sp_X6_changedPaths G M hO.1 hO.2 hC.1 hC.2.1) vX6_changedPaths lk_L_90 rfl (by decide) rfl rfl (Nat.le_of_ble_eq_true rfl) ⟨⟨(Nat.le_of_ble_eq_true rfl), (Nat.le_of_ble_eq_true rfl)⟩, (by show _ ≤ (2500 : Nat); simp only [gRm]; omega), (by show _ ≤ (20000 : Nat); simp only [gRm]; omega)⟩ dL_sum_19 ?_
  refine j_i2l C dL_sum_22 ?_
  refine j_lmul C dL_sum_23 ?_
  refine j_ladd C dL_sum_24 ?_
  refine j_ldc2 C (7) ll_L_93 dL_sum_25 ?_
  refine j_aload_n C dL_sum_28 rfl ?_
  refine q_callV C (sp_X6_packed G M hC) vX6_packed lk_L_95 rfl (by decide) rfl rfl (Nat.le_of_ble_eq_true rfl) ⟨⟨(Nat.le_of_ble_eq_true rfl), (Nat.le_of_ble_eq_true rfl)⟩, (by show _ ≤ (2500 : Nat); simp only [gRm]; omega), (by show _ ≤ (20000 : Nat); simp only [gRm]; omega)⟩ dL_sum_29 ?_
  refine j_i2l C dL_sum_32 ?_
  refine j_lmul C dL_sum_33 ?_
  refine j_ladd C dL_sum_34 ?_
  refine j_ldc2 C (11) ll_L_98 dL_sum_35 ?_
  refine j_aload_n C dL_sum_38 rfl ?_
  refine q_callV C (sp_X6_packSize G M hC) vX6_packSize lk_L_100 rfl (by decide) rfl rfl (Nat.le_of_ble_eq_true rfl) ⟨⟨(Nat.le_of_ble_eq_true rfl), (Nat.le_of_ble_eq_true rfl)⟩, (by show _ ≤ (2500 : Nat); simp only [gRm]; omega), (by show _ ≤ (20000 : Nat); simp only [gRm]; omega)⟩ dL_sum_39 ?_
  refine j_lmul C dL_sum_42 ?_
  refine j_ladd C dL_sum_43 ?_
  refine j_lstore_n C dL_sum_44 (by decide) rfl ?_
  refine j_iconst C (v := nI 0) dL_sum_45 rfl ?_
  refine j_istore_n C dL_sum_46 (by decide) rfl ?_
  have K120 : ∀ p, p ≤ 8 → ∀ M, gRC A M → Q G X (2400 + 12 * p) (19200 + 96 * p) 120 [some (.ref (gb G + 0)), some (.long (smW A p)), none, some (.int (nI p)), none] [] M := by
    refine g_up _ _ (fun p hp ih M hC => ?_)
    refine j_iload_n C dL_sum_120 rfl ?_
    refine j_bipush C (v := nI 8) dL_sum_121 rfl ?_
    refine q_icmp_ge C 170 dL_sum_123 (by decide) (by omega) (by omega) (fun h => ?_) (fun h => ?_)
    · obtain rfl : p = 8 := by omega
      refine j_lload_n C dL_sum_170 rfl ?_
      exact q_lretS C CM rfl (Nat.le_of_ble_eq_true rfl) (Nat.le_of_ble_eq_true rfl) dL_sum_171 rfl hC
    · skip
      refine j_ldc2 C (31) ll_L_83 dL_sum_126 ?_
      refine j_lload_n C dL_sum_129 rfl ?_
      refine j_lmul C dL_sum_130 ?_
      refine j_aload_n C dL_sum_131 rfl ?_
      refine j_iload_n C dL_sum_132 rfl ?_
      refine q_callHS C (sp_L_lies G M hO hC (nI p)) rfl kL_lies tL_lies lk_L_113 rfl rfl (Nat.le_of_ble_eq_true rfl) ⟨⟨(Nat.le_of_ble_eq_true rfl), (Nat.le_of_ble_eq_true rfl)⟩, (by show _ ≤ (2500 : Nat); simp only [gRm]; omega), (by show _ ≤ (20000 : Nat); simp only [gRm]; omega)⟩ dL_sum_133 (fun M1 h1 => ?_)
      have h1 := rc_eq h1 (st_content A _)
      refine j_i2l C dL_sum_136 ?_
      refine j_ladd C dL_sum_137 ?_
      refine j_ldc2 C (5) ll_L_117 dL_sum_138 ?_
      refine j_aload_n C dL_sum_141 rfl ?_
      refine j_iload_n C dL_sum_142 rfl ?_
      refine q_callHS C (sp_L_last G M1 hO h1 (nI p)) rfl kL_last tL_last lk_L_119 rfl rfl (Nat.le_of_ble_eq_true rfl) ⟨⟨(Nat.le_of_ble_eq_true rfl), (Nat.le_of_ble_eq_true rfl)⟩, (by show _ ≤ (2500 : Nat); simp only [gRm]; omega), (by show _ ≤ (20000 : Nat); simp only [gRm]; omega)⟩ dL_sum_143 (fun M2 h2 => ?_)
      have h2 := rc_eq h2 (st_lastChange A _)
      refine j_i2l C dL_sum_146 ?_
      refine j_lmul C dL_sum_147 ?_
      refine j_ladd C dL_sum_148 ?_
      refine j_ldc2 C (7) ll_L_93 dL_sum_149 ?_
      refine j_aload_n C dL_sum_152 rfl ?_
      refine j_iload_n C dL_sum_153 rfl ?_
      refine j_bipush C (v := nI 6) dL_sum_154 rfl ?_
      refine q_irem C (by omega) (by decide) (by decide) dL_sum_156 ?_
      refine q_callHS C (sp_L_head G M2 hO h2 (nI (p % 6))) rfl kL_head tL_head lk_L_122 rfl rfl (Nat.le_of_ble_eq_true rfl) ⟨⟨(Nat.le_of_ble_eq_true rfl), (Nat.le_of_ble_eq_true rfl)⟩, (by show _ ≤ (2500 : Nat); simp only [gRm]; omega), (by show _ ≤ (20000 : Nat); simp only [gRm]; omega)⟩ dL_sum_157 (fun M3 h3 => ?_)
      have h3 := rc_eq h3 (st_head A _)
      refine j_i2l C dL_sum_160 ?_
      refine j_lmul C dL_sum_161 ?_
      refine j_ladd C dL_sum_162 ?_
      refine j_lstore_n C dL_sum_163 (by decide) rfl ?_
      refine q_iinc C dL_sum_164 rfl (by decide) rfl ?_
      refine j_goto C 120 dL_sum_167 ?_ (by decide)
      exact j_wide (k' := 2400 + 12 * (p + 1)) (n' := 19200 + 96 * (p + 1)) (by simp only [gRm]; omega) (by simp only [gRm]; omega) (j_sub (gLe_c rfl (gLe_c rfl (gLe_n (gLe_c rfl (gLe_n gLe_0))))) (ih h M3 h3))
  have K47 : ∀ c, c ≤ aN A → ∀ M, gRC A M → Q G X (40 * c) (320 * c) 47 [some (.ref (gb G + 0)), some (.long (smC A c)), none, some (.int (nI c)), none] [] M := by
    refine g_up _ _ (fun c hc ih M hC => ?_)
    refine j_iload_n C dL_sum_47 rfl ?_
    refine j_aload_n C dL_sum_48 rfl ?_
    refine q_callV C (sp_X6_commits G M hC) vX6_commits lk_L_80 rfl (by decide) rfl rfl (Nat.le_of_ble_eq_true rfl) ⟨⟨(Nat.le_of_ble_eq_true rfl), (Nat.le_of_ble_eq_true rfl)⟩, (by show _ ≤ (2500 : Nat); simp only [gRm]; omega), (by show _ ≤ (20000 : Nat); simp only [gRm]; omega)⟩ dL_sum_49 ?_
    refine q_icmp_ge C 118 dL_sum_52 (by decide) (by omega) (by omega) (fun h => ?_) (fun h => ?_)
    · obtain rfl : c = aN A := by omega
      refine j_iconst C (v := nI 0) dL_sum_118 rfl ?_
      refine j_istore_n C dL_sum_119 (by decide) rfl ?_
      exact j_wide (k' := 2400 + 12 * 0) (n' := 19200 + 96 * 0) (by simp only [gRm]; omega) (by simp only [gRm]; omega) (j_sub (gLe_c rfl (gLe_c rfl (gLe_n (gLe_c rfl (gLe_n gLe_0))))) (K120 0 (by decide) M hC))
    · skip
      refine j_ldc2 C (31) ll_L_83 dL_sum_55 ?_
      refine j_lload_n C dL_sum_58 rfl ?_
      refine j_lmul C dL_sum_59 ?_
      refine j_aload_n C dL_sum_60 rfl ?_
      refine j_iload_n C dL_sum_61 rfl ?_
      refine j_iconst C (v := nI 0) dL_sum_62 rfl ?_
      refine q_callHS C (sp_L_parent G M hO hC (nI c) (nI 0)) rfl kL_parent tL_parent lk_L_104 rfl rfl (Nat.le_of_ble_eq_true rfl) ⟨⟨(Nat.le_of_ble_eq_true rfl), (Nat.le_of_ble_eq_true rfl)⟩, (by show _ ≤ (2500 : Nat); simp only [gRm]; omega), (by show _ ≤ (20000 : Nat); simp only [gRm]; omega)⟩ dL_sum_63 (fun M1 h1 => ?_)
      have h1 := rc_eq h1 (st_parentOf A _ _)
      refine j_i2l C dL_sum_66 ?_
      refine j_ladd C dL_sum_67 ?_
      refine j_ldc2 C (3) ll_L_108 dL_sum_68 ?_
      refine j_aload_n C dL_sum_71 rfl ?_
      refine j_iload_n C dL_sum_72 rfl ?_
      refine j_iconst C (v := nI 1) dL_sum_73 rfl ?_
      refine q_callHS C (sp_L_parent G M1 hO h1 (nI c) (nI 1)) rfl kL_parent tL_parent lk_L_104 rfl rfl (Nat.le_of_ble_eq_true rfl) ⟨⟨(Nat.le_of_ble_eq_true rfl), (Nat.le_of_ble_eq_true rfl)⟩, (by show _ ≤ (2500 : Nat); simp only [gRm]; omega), (by show _ ≤ (20000 : Nat); simp only [gRm]; omega)⟩ dL_sum_74 (fun M2 h2 => ?_)
      have h2 := rc_eq h2 (st_parentOf A _ _)
      refine j_i2l C dL_sum_77 ?_
      refine j_lmul C dL_sum_78 ?_
      refine j_ladd C dL_sum_79 ?_
      refine j_lstore_n C dL_sum_80 (by decide) rfl ?_
      refine j_iconst C (v := nI 0) dL_sum_81 rfl ?_
      refine j_istore C dL_sum_82 (by decide) rfl ?_
      have K84 : ∀ p, p ≤ 8 → ∀ M, gRC A M → Q G X (40 * c + 8 + 4 * p) (320 * c + 64 + 32 * p) 84 [some (.ref (gb G + 0)), some (.long (smP A c (smT A c (smC A c)) p)), none, some (.int (nI c)), some (.int (nI p))] [] M := by
        refine g_up _ _ (fun p hp ihp M hC => ?_)
        refine j_iload C dL_sum_84 rfl ?_
        refine j_bipush C (v := nI 8) dL_sum_86 rfl ?_
        refine q_icmp_ge C 112 dL_sum_88 (by decide) (by omega) (by omega) (fun h9 => ?_) (fun h9 => ?_)
        · obtain rfl : p = 8 := by omega
          refine q_iinc C dL_sum_112 rfl (by decide) rfl ?_
          refine j_goto C 47 dL_sum_115 ?_ (by decide)
          exact j_wide (k' := 40 * (c + 1)) (n' := 320 * (c + 1)) (by omega) (by omega) (j_sub (gLe_c rfl (gLe_c rfl (gLe_n (gLe_c rfl (gLe_n gLe_0))))) (ih h M hC))
        · skip
          refine j_ldc2 C (31) ll_L_83 dL_sum_91 ?_
          refine j_lload_n C dL_sum_94 rfl ?_
          refine j_lmul C dL_sum_95 ?_
          refine j_aload_n C dL_sum_96 rfl ?_
          refine j_iload_n C dL_sum_97 rfl ?_
          refine j_iload C dL_sum_98 rfl ?_
          refine q_callHS C (sp_L_had G M hO hC (nI c) (nI p)) rfl kL_had tL_had lk_L_110 rfl rfl (Nat.le_of_ble_eq_true rfl) ⟨⟨(Nat.le_of_ble_eq_true rfl), (Nat.le_of_ble_eq_true rfl)⟩, (by show _ ≤ (2500 : Nat); simp only [gRm]; omega), (by show _ ≤ (20000 : Nat); simp only [gRm]; omega)⟩ dL_sum_100 (fun M3 h3 => ?_)
          have h3 := rc_eq h3 (st_contentIn A _ _)
          refine j_i2l C dL_sum_103 ?_
          refine j_ladd C dL_sum_104 ?_
          refine j_lstore_n C dL_sum_105 (by decide) rfl ?_
          refine q_iinc C dL_sum_106 rfl (by decide) rfl ?_
          refine j_goto C 84 dL_sum_109 ?_ (by decide)
          exact j_wide (k' := 40 * c + 8 + 4 * (p + 1)) (n' := 320 * c + 64 + 32 * (p + 1)) (by simp only [gRm]; omega) (by simp only [gRm]; omega) (j_sub (gLe_c rfl (gLe_c rfl (gLe_n (gLe_c rfl (gLe_c rfl gLe_0))))) (ihp h9 M3 h3))
      exact j_wide (k' := 40 * c + 8 + 4 * 0) (n' := 320 * c + 64 + 32 * 0) (by simp only [gRm]; omega) (by simp only [gRm]; omega) (j_sub (gLe_c rfl (gLe_c rfl (gLe_n (gLe_c rfl (gLe_c rfl gLe_0))))) (K84 0 (by decide) M2 h2))
  exact j_wide (k' := 40 * 0) (n' := 320 * 0) (by decide) (by decide) (j_sub (gLe_c rfl (gLe_c rfl (gLe_n (gLe_c rfl (gLe_n gLe_0))))) (K47 0 (by omega) M hC))
