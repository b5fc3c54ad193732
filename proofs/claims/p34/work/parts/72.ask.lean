set_option maxHeartbeats 4000000 in
set_option maxRecDepth 100000 in
theorem sp_L_isRelated (G : gG) (M : gMem) {A : gSt0} (hO : gOk A) (hC : gRC A M) {c o : Nat} (hc : c < aN A) (ho : o < aN A) : SpS G mL_isRelated (gRm 8 40) [.ref (gb G + 0), .int (nI c), .int (nI o)] M (some (.int (bI true))) (gRC A) := by
  refine Sp.of (by decide +kernel) (Nat.le_of_ble_eq_true rfl) (fun X C CM => ?_)
  have C : gC G X RL cL_isRelated 4 (gRm 8 40) := C
  have h60 := hO.1.1.2
  obtain ⟨ha, hb, hbn, -⟩ := bb_cm hO.1 hc ho
  have hp := bs_pos hO.1 hc ho
  have hpl := cnt_le (bsB A c o) (aN A)
  have hm1 := mg_anc hO.1 hbn ha
  have hm2 := mg_anc hO.1 hbn hb
  have hd := anc_bb hO.1 hc ho
  obtain ⟨r, hr⟩ : ∃ r, anc (aF A) (aS A) o c = r := ⟨_, rfl⟩
  have K135 : ∀ k n M, k ≤ 30 → n ≤ 240 → gRC A M → Q G X k n 135 [some (.ref (gb G + 0)), some (.int (nI c)), some (.int (nI o)), some (.int (nI (bbN A c o)))] [] M := by
    intro k n M hk hn hC
    refine j_wide (k' := 30) (n' := 240) hk hn ?_
    refine j_aload_n C dL_isRelated_135 rfl ?_
    refine j_iload_n C dL_isRelated_136 rfl ?_
    refine j_iload_n C dL_isRelated_137 rfl ?_
    refine q_callVS C (sq_conf G M hO hC hc ho rfl) vX6_conflicts lk_L_143 rfl (by decide) rfl rfl (Nat.le_of_ble_eq_true rfl) ⟨⟨(Nat.le_of_ble_eq_true rfl), (Nat.le_of_ble_eq_true rfl)⟩, (by show _ ≤ (40 : Nat); simp only [gRm]; omega), (by show _ ≤ (320 : Nat); simp only [gRm]; omega)⟩ dL_isRelated_138 (fun M1 h1 => ?_)
    refine j_aload_n C dL_isRelated_141 rfl ?_
    refine j_iload_n C dL_isRelated_142 rfl ?_
    refine j_iload_n C dL_isRelated_143 rfl ?_
    refine q_callVS C (sq_conf G M1 hO h1 ho hc (mgA_sym A o c)) vX6_conflicts lk_L_143 rfl (by decide) rfl rfl (Nat.le_of_ble_eq_true rfl) ⟨⟨(Nat.le_of_ble_eq_true rfl), (Nat.le_of_ble_eq_true rfl)⟩, (by show _ ≤ (40 : Nat); simp only [gRm]; omega), (by show _ ≤ (320 : Nat); simp only [gRm]; omega)⟩ dL_isRelated_144 (fun M2 h2 => ?_)
    refine j_icmp_ne C 172 dL_isRelated_147 (fun h => absurd rfl h) (fun _ => ?_) (by decide)
    refine j_aload_n C dL_isRelated_150 rfl ?_
    refine j_iload_n C dL_isRelated_151 rfl ?_
    refine j_iload_n C dL_isRelated_152 rfl ?_
    refine q_callVS C (sq_conf G M2 hO h2 hc hbn hm1.1) vX6_conflicts lk_L_143 rfl (by decide) rfl rfl (Nat.le_of_ble_eq_true rfl) ⟨⟨(Nat.le_of_ble_eq_true rfl), (Nat.le_of_ble_eq_true rfl)⟩, (by show _ ≤ (40 : Nat); simp only [gRm]; omega), (by show _ ≤ (320 : Nat); simp only [gRm]; omega)⟩ dL_isRelated_153 (fun M3 h3 => ?_)
    refine j_if_ne C 172 dL_isRelated_156 (fun h => absurd rfl h) (fun _ => ?_) (by decide)
    refine j_aload_n C dL_isRelated_159 rfl ?_
    refine j_iload_n C dL_isRelated_160 rfl ?_
    refine j_iload_n C dL_isRelated_161 rfl ?_
    refine q_callVS C (sq_conf G M3 hO h3 hbn ho hm2.2) vX6_conflicts lk_L_143 rfl (by decide) rfl rfl (Nat.le_of_ble_eq_true rfl) ⟨⟨(Nat.le_of_ble_eq_true rfl), (Nat.le_of_ble_eq_true rfl)⟩, (by show _ ≤ (40 : Nat); simp only [gRm]; omega), (by show _ ≤ (320 : Nat); simp only [gRm]; omega)⟩ dL_isRelated_162 (fun M4 h4 => ?_)
    refine j_if_ne C 172 dL_isRelated_165 (fun h => absurd rfl h) (fun _ => ?_) (by decide)
    refine j_iconst C (v := nI 1) dL_isRelated_168 rfl ?_
    refine j_goto C 173 dL_isRelated_169 ?_ (by decide)
    exact q_zretS C CM rfl (Nat.le_of_ble_eq_true rfl) (Nat.le_of_ble_eq_true rfl) dL_isRelated_173 (by decide) h4
  have K106 : ∀ k n M, k ≤ 26 → n ≤ 208 → gRC A M → Q G X k n 106 [some (.ref (gb G + 0)), some (.int (nI c)), some (.int (nI o)), some (.int (nI (bbN A c o)))] [] M := by
    intro k n M hk hn hC
    refine j_wide (k' := 26) (n' := 208) hk hn ?_
    refine j_aload_n C dL_isRelated_106 rfl ?_
    refine j_iload_n C dL_isRelated_107 rfl ?_
    refine j_iload_n C dL_isRelated_108 rfl ?_
    refine q_callVS C (sq_anc G M hO hC hc ho hr) vX6_isAncestor lk_L_133 rfl (by decide) rfl rfl (Nat.le_of_ble_eq_true rfl) ⟨⟨(Nat.le_of_ble_eq_true rfl), (Nat.le_of_ble_eq_true rfl)⟩, (by show _ ≤ (40 : Nat); simp only [gRm]; omega), (by show _ ≤ (320 : Nat); simp only [gRm]; omega)⟩ dL_isRelated_109 (fun M5 h5 => ?_)
    refine q_if_eq0 C 135 dL_isRelated_112 (by decide) (fun e => ?_) (fun e => ?_)
    · exact K135 _ _ M5 (Nat.le_of_ble_eq_true rfl) (Nat.le_of_ble_eq_true rfl) h5
    · skip
      refine j_iload_n C dL_isRelated_115 rfl ?_
      refine j_iload_n C dL_isRelated_116 rfl ?_
      refine q_icmp_eq C 135 dL_isRelated_117 (by decide) (by omega) (by omega) (fun e2 => ?_) (fun e2 => ?_)
      · exact K135 _ _ M5 (Nat.le_of_ble_eq_true rfl) (Nat.le_of_ble_eq_true rfl) h5
      · skip
        refine j_aload_n C dL_isRelated_120 rfl ?_
        refine j_iload_n C dL_isRelated_121 rfl ?_
        refine q_callVS C (sq_gen G M5 hO h5 hc) vX6_generation lk_L_140 rfl (by decide) rfl rfl (Nat.le_of_ble_eq_true rfl) ⟨⟨(Nat.le_of_ble_eq_true rfl), (Nat.le_of_ble_eq_true rfl)⟩, (by show _ ≤ (40 : Nat); simp only [gRm]; omega), (by show _ ≤ (320 : Nat); simp only [gRm]; omega)⟩ dL_isRelated_122 (fun M6 h6 => ?_)
        refine j_aload_n C dL_isRelated_125 rfl ?_
        refine j_iload_n C dL_isRelated_126 rfl ?_
        refine q_callVS C (sq_gen G M6 hO h6 ho) vX6_generation lk_L_140 rfl (by decide) rfl rfl (Nat.le_of_ble_eq_true rfl) ⟨⟨(Nat.le_of_ble_eq_true rfl), (Nat.le_of_ble_eq_true rfl)⟩, (by show _ ≤ (40 : Nat); simp only [gRm]; omega), (by show _ ≤ (320 : Nat); simp only [gRm]; omega)⟩ dL_isRelated_127 (fun M7 h7 => ?_)
        have hg := gn_anc hO.1 ho (hr.trans e) (fun q => e2 q.symm)
        have hg1 := gn_le hO.1.2.1 o
        refine q_icmp_lt C 135 dL_isRelated_130 (by decide) (by omega) (by omega) (fun _ => ?_) (fun q => absurd q (by omega))
        exact K135 _ _ M7 (Nat.le_of_ble_eq_true rfl) (Nat.le_of_ble_eq_true rfl) h7
  refine j_aload_n C dL_isRelated_0 rfl ?_
  refine j_iload_n C dL_isRelated_1 rfl ?_
  refine j_iload_n C dL_isRelated_2 rfl ?_
  refine q_callVS C (sq_base G M hO hC hc ho) vX6_base lk_L_124 rfl (by decide) rfl rfl (Nat.le_of_ble_eq_true rfl) ⟨⟨(Nat.le_of_ble_eq_true rfl), (Nat.le_of_ble_eq_true rfl)⟩, (by show _ ≤ (40 : Nat); simp only [gRm]; omega), (by show _ ≤ (320 : Nat); simp only [gRm]; omega)⟩ dL_isRelated_3 (fun M8 h8 => ?_)
  refine j_istore_n C dL_isRelated_6 (by decide) rfl ?_
  refine j_iload_n C dL_isRelated_7 rfl ?_
  refine j_aload_n C dL_isRelated_8 rfl ?_
  refine j_iload_n C dL_isRelated_9 rfl ?_
  refine j_iload_n C dL_isRelated_10 rfl ?_
  refine q_callVS C (sq_baseW G M8 hO h8 hc ho) vX6_baseByWalking lk_L_127 rfl (by decide) rfl rfl (Nat.le_of_ble_eq_true rfl) ⟨⟨(Nat.le_of_ble_eq_true rfl), (Nat.le_of_ble_eq_true rfl)⟩, (by show _ ≤ (40 : Nat); simp only [gRm]; omega), (by show _ ≤ (320 : Nat); simp only [gRm]; omega)⟩ dL_isRelated_11 (fun M9 h9 => ?_)
  refine j_icmp_ne C 67 dL_isRelated_14 (fun h => absurd rfl h) (fun _ => ?_) (by decide)
  refine j_iload_n C dL_isRelated_17 rfl ?_
  refine j_aload_n C dL_isRelated_18 rfl ?_
  refine j_iload_n C dL_isRelated_19 rfl ?_
  refine j_iload_n C dL_isRelated_20 rfl ?_
  refine q_callVS C (sq_baseS G M9 hO h9 hc ho) vX6_base lk_L_124 rfl (by decide) rfl rfl (Nat.le_of_ble_eq_true rfl) ⟨⟨(Nat.le_of_ble_eq_true rfl), (Nat.le_of_ble_eq_true rfl)⟩, (by show _ ≤ (40 : Nat); simp only [gRm]; omega), (by show _ ≤ (320 : Nat); simp only [gRm]; omega)⟩ dL_isRelated_21 (fun M10 h10 => ?_)
  refine j_icmp_ne C 67 dL_isRelated_24 (fun h => absurd rfl h) (fun _ => ?_) (by decide)
  refine j_aload_n C dL_isRelated_27 rfl ?_
  refine j_iload_n C dL_isRelated_28 rfl ?_
  refine j_iload_n C dL_isRelated_29 rfl ?_
  refine q_callVS C (sq_bases G M10 hO h10 hc ho) vX6_bases lk_L_130 rfl (by decide) rfl rfl (Nat.le_of_ble_eq_true rfl) ⟨⟨(Nat.le_of_ble_eq_true rfl), (Nat.le_of_ble_eq_true rfl)⟩, (by show _ ≤ (40 : Nat); simp only [gRm]; omega), (by show _ ≤ (320 : Nat); simp only [gRm]; omega)⟩ dL_isRelated_30 (fun M11 h11 => ?_)
  refine j_iconst C (v := nI 1) dL_isRelated_33 rfl ?_
  refine q_icmp_lt C 67 dL_isRelated_34 (by decide) (by omega) (by omega) (fun q => absurd q (by omega)) (fun _ => ?_)
  refine j_aload_n C dL_isRelated_37 rfl ?_
  refine j_iload_n C dL_isRelated_38 rfl ?_
  refine j_iload_n C dL_isRelated_39 rfl ?_
  refine q_callVS C (sq_bases G M11 hO h11 hc ho) vX6_bases lk_L_130 rfl (by decide) rfl rfl (Nat.le_of_ble_eq_true rfl) ⟨⟨(Nat.le_of_ble_eq_true rfl), (Nat.le_of_ble_eq_true rfl)⟩, (by show _ ≤ (40 : Nat); simp only [gRm]; omega), (by show _ ≤ (320 : Nat); simp only [gRm]; omega)⟩ dL_isRelated_40 (fun M12 h12 => ?_)
  refine j_aload_n C dL_isRelated_43 rfl ?_
  refine j_iload_n C dL_isRelated_44 rfl ?_
  refine j_iload_n C dL_isRelated_45 rfl ?_
  refine q_callVS C (sq_basesS G M12 hO h12 hc ho) vX6_bases lk_L_130 rfl (by decide) rfl rfl (Nat.le_of_ble_eq_true rfl) ⟨⟨(Nat.le_of_ble_eq_true rfl), (Nat.le_of_ble_eq_true rfl)⟩, (by show _ ≤ (40 : Nat); simp only [gRm]; omega), (by show _ ≤ (320 : Nat); simp only [gRm]; omega)⟩ dL_isRelated_46 (fun M13 h13 => ?_)
  refine j_icmp_ne C 67 dL_isRelated_49 (fun h => absurd rfl h) (fun _ => ?_) (by decide)
  refine j_aload_n C dL_isRelated_52 rfl ?_
  refine j_iload_n C dL_isRelated_53 rfl ?_
  refine j_iload_n C dL_isRelated_54 rfl ?_
  refine q_callVS C (sq_anc G M13 hO h13 hc ho hr) vX6_isAncestor lk_L_133 rfl (by decide) rfl rfl (Nat.le_of_ble_eq_true rfl) ⟨⟨(Nat.le_of_ble_eq_true rfl), (Nat.le_of_ble_eq_true rfl)⟩, (by show _ ≤ (40 : Nat); simp only [gRm]; omega), (by show _ ≤ (320 : Nat); simp only [gRm]; omega)⟩ dL_isRelated_55 (fun M14 h14 => ?_)
  refine j_aload_n C dL_isRelated_58 rfl ?_
  refine j_iload_n C dL_isRelated_59 rfl ?_
  refine j_iload_n C dL_isRelated_60 rfl ?_
  refine q_callVS C (sq_ancW G M14 hO h14 hc ho hr) vX6_isAncestorByWalking lk_L_137 rfl (by decide) rfl rfl (Nat.le_of_ble_eq_true rfl) ⟨⟨(Nat.le_of_ble_eq_true rfl), (Nat.le_of_ble_eq_true rfl)⟩, (by show _ ≤ (40 : Nat); simp only [gRm]; omega), (by show _ ≤ (320 : Nat); simp only [gRm]; omega)⟩ dL_isRelated_61 (fun M15 h15 => ?_)
  refine j_icmp_eq C 69 dL_isRelated_64 (fun _ => ?_) (fun h => absurd rfl h) (by decide)
  refine j_aload_n C dL_isRelated_69 rfl ?_
  refine j_iload_n C dL_isRelated_70 rfl ?_
  refine j_iload_n C dL_isRelated_71 rfl ?_
  refine q_callVS C (sq_anc G M15 hO h15 hbn hc ha) vX6_isAncestor lk_L_133 rfl (by decide) rfl rfl (Nat.le_of_ble_eq_true rfl) ⟨⟨(Nat.le_of_ble_eq_true rfl), (Nat.le_of_ble_eq_true rfl)⟩, (by show _ ≤ (40 : Nat); simp only [gRm]; omega), (by show _ ≤ (320 : Nat); simp only [gRm]; omega)⟩ dL_isRelated_72 (fun M16 h16 => ?_)
  refine j_if_eq C 133 dL_isRelated_75 (fun h => absurd h (by decide)) (fun _ => ?_) (by decide)
  refine j_aload_n C dL_isRelated_78 rfl ?_
  refine j_iload_n C dL_isRelated_79 rfl ?_
  refine j_iload_n C dL_isRelated_80 rfl ?_
  refine q_callVS C (sq_anc G M16 hO h16 hbn ho hb) vX6_isAncestor lk_L_133 rfl (by decide) rfl rfl (Nat.le_of_ble_eq_true rfl) ⟨⟨(Nat.le_of_ble_eq_true rfl), (Nat.le_of_ble_eq_true rfl)⟩, (by show _ ≤ (40 : Nat); simp only [gRm]; omega), (by show _ ≤ (320 : Nat); simp only [gRm]; omega)⟩ dL_isRelated_81 (fun M17 h17 => ?_)
  refine j_if_eq C 133 dL_isRelated_84 (fun h => absurd h (by decide)) (fun _ => ?_) (by decide)
  refine j_aload_n C dL_isRelated_87 rfl ?_
  refine j_iload_n C dL_isRelated_88 rfl ?_
  refine j_iload_n C dL_isRelated_89 rfl ?_
  refine q_callVS C (sq_anc G M17 hO h17 hc ho hd) vX6_isAncestor lk_L_133 rfl (by decide) rfl rfl (Nat.le_of_ble_eq_true rfl) ⟨⟨(Nat.le_of_ble_eq_true rfl), (Nat.le_of_ble_eq_true rfl)⟩, (by show _ ≤ (40 : Nat); simp only [gRm]; omega), (by show _ ≤ (320 : Nat); simp only [gRm]; omega)⟩ dL_isRelated_90 (fun M18 h18 => ?_)
  refine j_iload_n C dL_isRelated_93 rfl ?_
  refine j_iload_n C dL_isRelated_94 rfl ?_
  refine q_icmp_ne C 102 dL_isRelated_95 (by decide) (by omega) (by omega) (fun hn => ?_) (fun hn => ?_)
  · rw [decide_eq_false hn]
    refine j_iconst C (v := nI 0) dL_isRelated_102 rfl ?_
    refine j_icmp_ne C 133 dL_isRelated_103 (fun h => absurd (by decide) h) (fun _ => ?_) (by decide)
    exact K106 _ _ M18 (Nat.le_of_ble_eq_true rfl) (Nat.le_of_ble_eq_true rfl) h18
  · rw [decide_eq_true hn]
    refine j_iconst C (v := nI 1) dL_isRelated_98 rfl ?_
    refine j_goto C 103 dL_isRelated_99 ?_ (by decide)
    refine j_icmp_ne C 133 dL_isRelated_103 (fun h => absurd (by decide) h) (fun _ => ?_) (by decide)
    exact K106 _ _ M18 (Nat.le_of_ble_eq_true rfl) (Nat.le_of_ble_eq_true rfl) h18
set_option maxHeartbeats 4000000 in
set_option maxRecDepth 100000 in
theorem sp_L_isPacked (G : gG) (M : gMem) {A : gSt0} (hO : gOk A) (hV : gVt A) (hC : gRC A M) : SpS G mL_isPacked (gRm 8 24000) [.ref (gb G + 0)] M (some (.int (bI true))) (gRC A) := by
  refine Sp.of (by decide +kernel) (Nat.le_of_ble_eq_true rfl) (fun X C CM => ?_)
  have C : gC G X RL cL_isPacked 7 (gRm 8 24000) := C
  have hw := pw_aP hV
  have hpi := pk_lim hO.1
  have hf := fB_all hw
  have hwa := wB_all hw
  have hsz := size_le hO.1
  refine j_lconst C (v := 0) dL_isPacked_0 rfl ?_
  refine j_lstore_n C dL_isPacked_1 (by decide) rfl ?_
  refine j_iconst C (v := nI 0) dL_isPacked_2 rfl ?_
  refine j_istore_n C dL_isPacked_3 (by decide) rfl ?_
  refine j_iconst C (v := nI 0) dL_isPacked_4 rfl ?_
  refine j_istore C dL_isPacked_5 (by decide) rfl ?_
  have K7 : ∀ i, i ≤ 2000 → ∀ M, gRC A M → Q G X (12 * i) (96 * i) 7 [some (.ref (gb G + 0)), some (.long (lI (4 * cntN (wB A) i))), none, some (.int (nI (cntN (fB A) i))), some (.int (nI (i))), none, none] [] M := by
    refine g_up _ _ (fun i hi ih M hC => ?_)
    have hfi := cnt_le (fB A) i
    have hwi := cnt_le (wB A) i
    refine j_iload C dL_isPacked_7 rfl ?_
    refine j_sipush C (v := nI 2000) dL_isPacked_9 rfl ?_
    refine q_icmp_ge C 109 dL_isPacked_12 (by decide) (by omega) (by omega) (fun h => ?_) (fun h => ?_)
    · obtain rfl : i = 2000 := by omega
      refine j_iload_n C dL_isPacked_109 rfl ?_
      refine j_aload_n C dL_isPacked_110 rfl ?_
      refine q_callV C (sp_X6_packed G M hC) vX6_packed lk_L_95 rfl (by decide) rfl rfl (Nat.le_of_ble_eq_true rfl) ⟨⟨(Nat.le_of_ble_eq_true rfl), (Nat.le_of_ble_eq_true rfl)⟩, (by show _ ≤ (24000 : Nat); simp only [gRm]; omega), (by show _ ≤ (192000 : Nat); simp only [gRm]; omega)⟩ dL_isPacked_111 ?_
      refine j_icmp_ne C 144 dL_isPacked_114 (fun z => absurd (congrArg nI hf) z) (fun _ => ?_) (by decide)
      refine j_aload_n C dL_isPacked_117 rfl ?_
      refine q_callV C (sp_X6_packSize G M hC) vX6_packSize lk_L_100 rfl (by decide) rfl rfl (Nat.le_of_ble_eq_true rfl) ⟨⟨(Nat.le_of_ble_eq_true rfl), (Nat.le_of_ble_eq_true rfl)⟩, (by show _ ≤ (24000 : Nat); simp only [gRm]; omega), (by show _ ≤ (192000 : Nat); simp only [gRm]; omega)⟩ dL_isPacked_118 ?_
      refine j_lload_n C dL_isPacked_121 rfl ?_
      refine j_lcmp C dL_isPacked_122 ?_
      refine j_if_lt C 144 dL_isPacked_123 (fun z => absurd z (lI_ge (by omega) (by omega) hwa)) (fun _ => ?_) (by decide)
      refine j_aload_n C dL_isPacked_126 rfl ?_
      refine q_callV C (sp_X6_packSize G M hC) vX6_packSize lk_L_100 rfl (by decide) rfl rfl (Nat.le_of_ble_eq_true rfl) ⟨⟨(Nat.le_of_ble_eq_true rfl), (Nat.le_of_ble_eq_true rfl)⟩, (by show _ ≤ (24000 : Nat); simp only [gRm]; omega), (by show _ ≤ (192000 : Nat); simp only [gRm]; omega)⟩ dL_isPacked_127 ?_
      refine j_ldc2 C (4) ll_L_152 dL_isPacked_130 ?_
      refine j_iload_n C dL_isPacked_133 rfl ?_
      refine j_i2l C dL_isPacked_134 ?_
      refine j_lmul C dL_isPacked_135 ?_
      refine j_lcmp C dL_isPacked_136 ?_
      rw [nI_lI (by omega), show (4 : Int64) = lI 4 from rfl, lI_mul]
      refine j_if_gt C 144 dL_isPacked_137 (fun z => absurd z (lI_le (by omega) (by omega) (by omega))) (fun _ => ?_) (by decide)
      refine j_iconst C (v := nI 1) dL_isPacked_140 rfl ?_
      refine j_goto C 145 dL_isPacked_141 ?_ (by decide)
      exact q_zretS C CM rfl (by show _ ≤ (24000 : Nat); simp only [gRm]; omega) (by show _ ≤ (192000 : Nat); simp only [gRm]; omega) dL_isPacked_145 (by decide) hC
    · skip
      refine j_aload_n C dL_isPacked_15 rfl ?_
      refine j_iload C dL_isPacked_16 rfl ?_
      have hd := sp_L_depth G M hO hC (nI i)
      cases e : pkF (aP A) (nI i) with
      | none =>
        rw [w_dep_n e] at hd
        refine q_callHS C (hd) rfl kL_depth tL_depth lk_L_146 rfl rfl (Nat.le_of_ble_eq_true rfl) ⟨⟨(Nat.le_of_ble_eq_true rfl), (Nat.le_of_ble_eq_true rfl)⟩, (by show _ ≤ (24000 : Nat); simp only [gRm]; omega), (by show _ ≤ (192000 : Nat); simp only [gRm]; omega)⟩ dL_isPacked_18 (fun M1 h1 => ?_)
        have h1 := rc_eq h1 (st_depthOf A _)
        refine j_istore C dL_isPacked_21 (by decide) rfl ?_
        refine j_iload C dL_isPacked_23 rfl ?_
        refine j_if_lt C 103 dL_isPacked_25 (fun _ => ?_) (fun h => absurd (by decide) h) (by decide)
        refine q_iinc C dL_isPacked_103 rfl (by decide) rfl ?_
        refine j_goto C 7 dL_isPacked_106 ?_ (by decide)
        have e1 : cntN (fB A) (i + 1) = cntN (fB A) i := cnt_f (by unfold fB; rw [e]; rfl)
        have e2 : cntN (wB A) (i + 1) = cntN (wB A) i := cnt_f (by unfold wB; rw [e])
        refine j_wide (k' := 12 * (i + 1)) (n' := 96 * (i + 1)) (by simp only [gRm]; omega) (by simp only [gRm]; omega) (j_sub (lv' := [some (.ref (gb G + 0)), some (.long (lI (4 * cntN (wB A) i))), none, some (.int (nI (cntN (fB A) i))), some (.int (nI (i + 1))), none, none]) (gLe_c rfl (gLe_c rfl (gLe_n (gLe_c rfl (gLe_c rfl (gLe_n (gLe_n gLe_0))))))) ?_)
        rw [← e1, ← e2]
        exact ih h M1 h1
      | some q =>
        rw [w_dep_s e] at hd
        have hq := (pw_found hw (by omega) e).1
        have hd3 := (hpi.1 q hq).2.2.1
        have e1 : cntN (fB A) (i + 1) = cntN (fB A) i + 1 := cnt_t (by unfold fB; rw [e]; rfl)
        refine q_callHS C (hd) rfl kL_depth tL_depth lk_L_146 rfl rfl (Nat.le_of_ble_eq_true rfl) ⟨⟨(Nat.le_of_ble_eq_true rfl), (Nat.le_of_ble_eq_true rfl)⟩, (by show _ ≤ (24000 : Nat); simp only [gRm]; omega), (by show _ ≤ (192000 : Nat); simp only [gRm]; omega)⟩ dL_isPacked_18 (fun M1 h1 => ?_)
        have h1 := rc_eq h1 (st_depthOf A _)
        refine j_istore C dL_isPacked_21 (by decide) rfl ?_
        refine j_iload C dL_isPacked_23 rfl ?_
        refine q_if_lt C (by omega) dL_isPacked_25 103 (by decide) ?_
        refine j_aload_n C dL_isPacked_28 rfl ?_
        refine j_iload C dL_isPacked_29 rfl ?_
        have hr := sp_L_from G M1 hO h1 (nI i)
        rcases (hw.1 q hq).2 with ⟨hs, hz, -⟩ | ⟨b, hs, hbq, hz⟩
        · rw [w_from_n e hs] at hr
          refine q_callHS C (hr) rfl kL_from tL_from lk_L_149 rfl rfl (Nat.le_of_ble_eq_true rfl) ⟨⟨(Nat.le_of_ble_eq_true rfl), (Nat.le_of_ble_eq_true rfl)⟩, (by show _ ≤ (24000 : Nat); simp only [gRm]; omega), (by show _ ≤ (192000 : Nat); simp only [gRm]; omega)⟩ dL_isPacked_31 (fun M2 h2 => ?_)
          have h2 := rc_eq h2 (st_packedFrom A _)
          refine j_istore C dL_isPacked_34 (by decide) rfl ?_
          refine q_iinc C dL_isPacked_36 rfl (by decide) rfl ?_
          refine j_iload C dL_isPacked_39 rfl ?_
          refine j_iconst C (v := nI 3) dL_isPacked_41 rfl ?_
          refine q_icmp_gt C 86 dL_isPacked_42 (by decide) (by omega) (by decide) (fun z => absurd z (by omega)) (fun _ => ?_)
          refine j_iload C dL_isPacked_45 rfl ?_
          refine j_if_ne C 54 dL_isPacked_47 (fun z => absurd (by rw [hz]; rfl) z) (fun _ => ?_) (by decide)
          refine j_iconst C (v := nI 1) dL_isPacked_50 rfl ?_
          refine j_goto C 55 dL_isPacked_51 ?_ (by decide)
          refine j_iload C dL_isPacked_55 rfl ?_
          refine j_if_ge C 64 dL_isPacked_57 (fun z => absurd z (by decide)) (fun _ => ?_) (by decide)
          refine j_iconst C (v := nI 1) dL_isPacked_60 rfl ?_
          refine j_goto C 65 dL_isPacked_61 ?_ (by decide)
          refine j_icmp_ne C 86 dL_isPacked_65 (fun z => absurd rfl z) (fun _ => ?_) (by decide)
          refine j_iload C dL_isPacked_68 rfl ?_
          refine j_if_lt C 88 dL_isPacked_70 (fun _ => ?_) (fun z => absurd (by decide) z) (by decide)
          refine j_lload_n C dL_isPacked_88 rfl ?_
          refine j_iload C dL_isPacked_89 rfl ?_
          refine j_if_ne C 100 dL_isPacked_91 (fun z => absurd (by rw [hz]; rfl) z) (fun _ => ?_) (by decide)
          refine j_ldc2 C (4) ll_L_152 dL_isPacked_94 ?_
          refine j_goto C 101 dL_isPacked_97 ?_ (by decide)
          refine j_ladd C dL_isPacked_101 ?_
          refine j_lstore_n C dL_isPacked_102 (by decide) rfl ?_
          refine q_iinc C dL_isPacked_103 rfl (by decide) rfl ?_
          refine j_goto C 7 dL_isPacked_106 ?_ (by decide)
          have e2 : cntN (wB A) (i + 1) = cntN (wB A) i + 1 := cnt_t (by unfold wB; rw [e]; exact decide_eq_true hz)
          have e3 : lI (4 * cntN (wB A) i) + 4 = lI (4 * cntN (wB A) (i + 1)) := by
            rw [show (4 : Int64) = lI 4 from rfl, lI_add, e2]
            rfl
          refine j_wide (k' := 12 * (i + 1)) (n' := 96 * (i + 1)) (by simp only [gRm]; omega) (by simp only [gRm]; omega) (j_sub (lv' := [some (.ref (gb G + 0)), some (.long (lI (4 * cntN (wB A) i) + 4)), none, some (.int (nI (cntN (fB A) i + 1))), some (.int (nI (i + 1))), none, none]) (gLe_c rfl (gLe_c rfl (gLe_n (gLe_c rfl (gLe_c rfl (gLe_n (gLe_n gLe_0))))))) ?_)
          rw [e3, ← e1]
          exact ih h M2 h2
        · rw [w_from_s e hs] at hr
          have hb1 := (hw.1 b (by omega)).1
          refine q_callHS C (hr) rfl kL_from tL_from lk_L_149 rfl rfl (Nat.le_of_ble_eq_true rfl) ⟨⟨(Nat.le_of_ble_eq_true rfl), (Nat.le_of_ble_eq_true rfl)⟩, (by show _ ≤ (24000 : Nat); simp only [gRm]; omega), (by show _ ≤ (192000 : Nat); simp only [gRm]; omega)⟩ dL_isPacked_31 (fun M2 h2 => ?_)
          have h2 := rc_eq h2 (st_packedFrom A _)
          refine j_istore C dL_isPacked_34 (by decide) rfl ?_
          refine q_iinc C dL_isPacked_36 rfl (by decide) rfl ?_
          refine j_iload C dL_isPacked_39 rfl ?_
          refine j_iconst C (v := nI 3) dL_isPacked_41 rfl ?_
          refine q_icmp_gt C 86 dL_isPacked_42 (by decide) (by omega) (by decide) (fun z => absurd z (by omega)) (fun _ => ?_)
          refine j_iload C dL_isPacked_45 rfl ?_
          refine j_if_ne C 54 dL_isPacked_47 (fun _ => ?_) (fun z => absurd z (nI_ne0 (by omega) (by omega))) (by decide)
          refine j_iconst C (v := nI 0) dL_isPacked_54 rfl ?_
          refine j_iload C dL_isPacked_55 rfl ?_
          refine j_if_ge C 64 dL_isPacked_57 (fun _ => ?_) (fun z => absurd (nI_pos' (by omega)) z) (by decide)
          refine j_iconst C (v := nI 0) dL_isPacked_64 rfl ?_
          refine j_icmp_ne C 86 dL_isPacked_65 (fun z => absurd rfl z) (fun _ => ?_) (by decide)
          refine j_iload C dL_isPacked_68 rfl ?_
          refine q_if_lt C (by omega) dL_isPacked_70 88 (by decide) ?_
          refine j_aload_n C dL_isPacked_73 rfl ?_
          refine j_iload C dL_isPacked_74 rfl ?_
          have hx := sp_L_depth G M2 hO h2 (nI ((aP A).2.1 b))
          rw [w_dep_s (pw_find hw (show b < (aP A).1 by omega))] at hx
          refine q_callHS C (hx) rfl kL_depth tL_depth lk_L_146 rfl rfl (Nat.le_of_ble_eq_true rfl) ⟨⟨(Nat.le_of_ble_eq_true rfl), (Nat.le_of_ble_eq_true rfl)⟩, (by show _ ≤ (24000 : Nat); simp only [gRm]; omega), (by show _ ≤ (192000 : Nat); simp only [gRm]; omega)⟩ dL_isPacked_76 (fun M3 h3 => ?_)
          have h3 := rc_eq h3 (st_depthOf A _)
          refine j_iload C dL_isPacked_79 rfl ?_
          refine j_iconst C (v := nI 1) dL_isPacked_81 rfl ?_
          refine q_isub C (by omega) dL_isPacked_82 ?_
          refine j_icmp_eq C 88 dL_isPacked_83 (fun _ => ?_) (fun z => absurd (congrArg nI (by omega)) z) (by decide)
          refine j_lload_n C dL_isPacked_88 rfl ?_
          refine j_iload C dL_isPacked_89 rfl ?_
          refine j_if_ne C 100 dL_isPacked_91 (fun _ => ?_) (fun z => absurd z (nI_ne0 (by omega) (by omega))) (by decide)
          refine j_lconst C (v := 0) dL_isPacked_100 rfl ?_
          refine j_ladd C dL_isPacked_101 ?_
          refine j_lstore_n C dL_isPacked_102 (by decide) rfl ?_
          refine q_iinc C dL_isPacked_103 rfl (by decide) rfl ?_
          refine j_goto C 7 dL_isPacked_106 ?_ (by decide)
          have e2 : cntN (wB A) (i + 1) = cntN (wB A) i := cnt_f (by unfold wB; rw [e]; exact decide_eq_false (by omega))
          have e3 : lI (4 * cntN (wB A) i) + 0 = lI (4 * cntN (wB A) (i + 1)) := by
            rw [show (0 : Int64) = lI 0 from rfl, lI_add, e2]
            rfl
          refine j_wide (k' := 12 * (i + 1)) (n' := 96 * (i + 1)) (by simp only [gRm]; omega) (by simp only [gRm]; omega) (j_sub (lv' := [some (.ref (gb G + 0)), some (.long (lI (4 * cntN (wB A) i) + 0)), none, some (.int (nI (cntN (fB A) i + 1))), some (.int (nI (i + 1))), none, none]) (gLe_c rfl (gLe_c rfl (gLe_n (gLe_c rfl (gLe_c rfl (gLe_n (gLe_n gLe_0))))))) ?_)
          rw [e3, ← e1]
          exact ih h M3 h3
  exact j_wide (k' := 12 * 0) (n' := 96 * 0) (by decide) (by decide) (j_sub (gLe_c rfl (gLe_c rfl (gLe_n (gLe_c rfl (gLe_c rfl (gLe_n (gLe_n gLe_0))))))) (K7 0 (by decide) M hC))
