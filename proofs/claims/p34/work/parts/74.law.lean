/-! the law's body -/
def gLw (G : gG) (X : gX) : Prop := gC G X RL cL_law 9 room_1 ∧ gSl G ≤ 260
abbrev zLB (G : gG) (steps j v : Nat) (s : Int64) (x : Int32) : List (Option Value) := [some (.ref (gSb G)), some (.ref (gb G + 0)), some (.int (nI steps)), some (.int (nI j)), some (.int (nI v)), some (.int (nI (v / 12))), some (.long s), none, some (.int x)]
abbrev zL0 (G : gG) (steps j : Nat) : List (Option Value) := [some (.ref (gSb G)), some (.ref (gb G + 0)), some (.int (nI steps)), some (.int (nI j)), none, none, none, none, none]
abbrev zLE (G : gG) : List (Option Value) := [some (.ref (gSb G)), some (.ref (gb G + 0)), none, none, none, none, none, none, none]
theorem z_B0 {G : gG} {steps j v : Nat} {s : Int64} {x : Int32} : gLe (zL0 G steps j) (zLB G steps j v s x) := (gLe_c rfl (gLe_c rfl (gLe_c rfl (gLe_c rfl (gLe_n (gLe_n (gLe_n (gLe_n (gLe_n gLe_0)))))))))
theorem z_0E {G : gG} {steps j : Nat} : gLe (zLE G) (zL0 G steps j) := (gLe_c rfl (gLe_c rfl (gLe_n (gLe_n (gLe_n (gLe_n (gLe_n (gLe_n (gLe_n gLe_0)))))))))
theorem tx_in {t : Nat} : ∀ c, inB (nI (txN t)) 10000 = some c → c < 2000 := fun c e => by
  obtain ⟨h1, h2⟩ := inB_some (by decide) e
  have h3 := tx_lt t
  have := (nI_eq (by omega) (by omega)).mp h1
  omega
def min3 (n : Nat) : Nat := if n < 3 then n else 3
theorem min3_eq {n : Nat} (h : n < 2 ^ 31) : (if nI n < nI 3 then nI n else nI 3) = nI (min3 n) := by
  unfold min3
  by_cases e : n < 3
  · rw [if_pos e, if_pos ((nI_ltI h (by decide)).mpr e)]
  · rw [if_neg e, if_neg (fun q => e ((nI_ltI h (by decide)).mp q))]
theorem min3_b {n : Nat} (h : 1 ≤ n) : 0 < min3 n ∧ min3 n ≤ n ∧ min3 n ≤ 3 := by
  unfold min3
  split <;> omega
theorem gl_minl : Cond.methodLink RL 185 Lib.Math.min.name ∈ gw := gw_t 823 (by decide +kernel) rfl
set_option maxHeartbeats 4000000 in
set_option maxRecDepth 100000 in
theorem law_272 {G : gG} {X : gX} (LW : gLw G X) {steps j v k n : Nat} (hk : k + 3000 ≤ 690000) (hn : n + 24000 ≤ 6900000) (hv : v < 2 ^ 31) {A : gSt0} {o : gRes} {M : gMem} (ht : gTh A o) (hO : gOk o.2.2) (hC : gRC o.2.2 M) (hch : 7 < v % 12 → ¬ v % 12 = 8 → o.1 = 0 → chgA o.2.2 = 0) (hnx : ∀ M', gRC o.2.2 M' → Q G X (k + 2500) (n + 20000) 324 (zL0 G steps j) [] M') : Q G X k n 272 (zLB G steps j v (sumA A) (wI o)) [] M := by
  have C := LW.1
  have hw := th_w ht
  have hm := Nat.mod_lt v (show 0 < 12 by decide)
  have K290 : ∀ k' n' M, k' ≤ k + 2500 → n' ≤ n + 20000 → gRC o.2.2 M → Q G X k' n' 290 (zLB G steps j v (sumA A) (wI o)) [] M := by
    intro k' n' M hk2 hn2 hC
    refine j_iload C dL_law_290 rfl ?_
    refine j_if_lt C 324 dL_law_292 (fun _ => ?_) (fun h => ?_) (by decide)
    · exact j_wide hk2 hn2 (j_sub z_B0 (hnx M hC))
    · skip
      have h0 := hw.2 (Int32.not_lt.mp h)
      refine j_iload C dL_law_295 rfl ?_
      refine j_bipush C (v := nI 12) dL_law_297 rfl ?_
      refine q_irem C (by omega) (by decide) (by decide) dL_law_299 ?_
      refine j_bipush C (v := nI 7) dL_law_300 rfl ?_
      refine q_icmp_le C 324 dL_law_302 (by decide) (by omega) (by decide) (fun _ => ?_) (fun h7 => ?_)
      · exact j_wide hk2 hn2 (j_sub z_B0 (hnx M hC))
      · skip
        refine j_iload C dL_law_305 rfl ?_
        refine j_bipush C (v := nI 12) dL_law_307 rfl ?_
        refine q_irem C (by omega) (by decide) (by decide) dL_law_309 ?_
        refine j_bipush C (v := nI 8) dL_law_310 rfl ?_
        refine q_icmp_eq C 324 dL_law_312 (by decide) (by omega) (by decide) (fun _ => ?_) (fun h8 => ?_)
        · exact j_wide hk2 hn2 (j_sub z_B0 (hnx M hC))
        · skip
          refine j_aload_n C dL_law_315 rfl ?_
          refine q_callV C (sp_X6_changedPaths G M hO.1 hO.2 hC.1 hC.2.1) vX6_changedPaths lk_L_90 rfl (by decide) rfl rfl (Nat.le_of_ble_eq_true rfl) ⟨⟨(Nat.le_of_ble_eq_true rfl), (Nat.le_of_ble_eq_true rfl)⟩, (by show _ ≤ (699478 : Nat); simp only [gRm]; omega), (by show _ ≤ (6993413 : Nat); simp only [gRm]; omega)⟩ dL_law_316 ?_
          refine j_if_eq C 324 dL_law_319 (fun _ => ?_) (fun z => absurd (by rw [hch h7 h8 h0]; rfl) z) (by decide)
          exact j_wide (k' := k + 2500) (n' := n + 20000) (by simp only [gRm]; omega) (by simp only [gRm]; omega) (j_sub z_B0 (hnx M hC))
  refine j_iload C dL_law_272 rfl ?_
  refine j_sipush C (v := (-1000)) dL_law_274 rfl ?_
  refine j_icmp_ge C 290 dL_law_277 (fun _ => ?_) (fun h => ?_) (by decide)
  · exact K290 _ _ M (by omega) (by omega) hC
  · skip
    have h1 := hw.1.mp (Int32.not_le.mp h)
    have hA := (ht.1 h1).1
    refine j_aload_n C dL_law_280 rfl ?_
    refine q_callSS C (sp_L_sum G M hO hC) vL_sum lk_L_160 rfl rfl (Nat.le_of_ble_eq_true rfl) ⟨⟨(Nat.le_of_ble_eq_true rfl), (Nat.le_of_ble_eq_true rfl)⟩, (by show _ ≤ (699478 : Nat); simp only [gRm]; omega), (by show _ ≤ (6993413 : Nat); simp only [gRm]; omega)⟩ dL_law_281 (fun M1 h1 => ?_)
    refine j_lload C dL_law_284 rfl ?_
    refine j_lcmp C dL_law_286 ?_
    refine j_if_ne C 322 dL_law_287 (fun z => absurd (lg_eq (by rw [hA])) z) (fun _ => ?_) (by decide)
    exact K290 _ _ M1 (by simp only [gRm]; omega) (by simp only [gRm]; omega) h1
set_option maxHeartbeats 4000000 in
set_option maxRecDepth 100000 in
theorem lw_write {G : gG} {X : gX} (LW : gLw G X) {steps j v k n : Nat} (hk : k + 3000 ≤ 690000) (hn : n + 24000 ≤ 6900000) (hv : v < 2 ^ 31) {A : gSt0} {M : gMem} (hO : gOk A) (hV : gVv A) (hC : gRC A M) {s : Int64} (hc : v % 12 < 3) (hnx : ∀ (o : gRes) M', gTh A o → gOk o.2.2 → gVv o.2.2 → gRC o.2.2 M' → (7 < v % 12 → ¬ v % 12 = 8 → o.1 = 0 → chgA o.2.2 = 0) → Q G X (k + 4) (n + 32) 272 (zLB G steps j v s (wI o)) [] M') : Q G X k n 120 (zLB G steps j v s (nI 0)) [] M := by
  have C := LW.1
  have hw12 : v / 12 < 2 ^ 31 := Nat.lt_of_le_of_lt (Nat.div_le_self _ _) hv
  have h60 := hO.1.1
  refine j_aload_n C dL_law_120 rfl ?_
  refine j_iload C dL_law_121 rfl ?_
  refine j_bipush C (v := nI 8) dL_law_123 rfl ?_
  refine q_irem C (by omega) (by decide) (by decide) dL_law_125 ?_
  refine j_iload C dL_law_126 rfl ?_
  refine j_bipush C (v := nI 8) dL_law_128 rfl ?_
  refine q_idiv C (by omega) (by decide) (by decide) dL_law_130 ?_
  refine q_callS C (sp_L_text G M (v / 12 / 8)) vL_text lk_L_164 rfl rfl (Nat.le_of_ble_eq_true rfl) ⟨⟨(Nat.le_of_ble_eq_true rfl), (Nat.le_of_ble_eq_true rfl)⟩, (by show _ ≤ (699478 : Nat); simp only [gRm]; omega), (by show _ ≤ (6993413 : Nat); simp only [gRm]; omega)⟩ dL_law_131 ?_
  refine q_callHS C (sp_L_writes G M hO hC (nI (v / 12 % 8)) (nI (txN (smN (nI (v / 12 / 8)) 1000000)))) rfl kL_writes tL_writes lk_L_167 rfl rfl (Nat.le_of_ble_eq_true rfl) ⟨⟨(Nat.le_of_ble_eq_true rfl), (Nat.le_of_ble_eq_true rfl)⟩, (by show _ ≤ (699478 : Nat); simp only [gRm]; omega), (by show _ ≤ (6993413 : Nat); simp only [gRm]; omega)⟩ dL_law_134 (fun M1 h1 => ?_)
  refine j_istore C dL_law_137 (by decide) rfl ?_
  refine j_goto C 272 dL_law_139 ?_ (by decide)
  exact hnx (oWrite A (nI (v / 12 % 8)) (nI (txN (smN (nI (v / 12 / 8)) 1000000)))) _ (th_write hO.2 _ _) (ok_write hO _ _) (vv_write hV _ _ tx_in) h1 ((fun q => absurd q (by omega)))
set_option maxHeartbeats 4000000 in
set_option maxRecDepth 100000 in
theorem lw_erase {G : gG} {X : gX} (LW : gLw G X) {steps j v k n : Nat} (hk : k + 3000 ≤ 690000) (hn : n + 24000 ≤ 6900000) (hv : v < 2 ^ 31) {A : gSt0} {M : gMem} (hO : gOk A) (hV : gVv A) (hC : gRC A M) {s : Int64} (hc : v % 12 = 3) (hnx : ∀ (o : gRes) M', gTh A o → gOk o.2.2 → gVv o.2.2 → gRC o.2.2 M' → (7 < v % 12 → ¬ v % 12 = 8 → o.1 = 0 → chgA o.2.2 = 0) → Q G X (k + 4) (n + 32) 272 (zLB G steps j v s (wI o)) [] M') : Q G X k n 142 (zLB G steps j v s (nI 0)) [] M := by
  have C := LW.1
  have hw12 : v / 12 < 2 ^ 31 := Nat.lt_of_le_of_lt (Nat.div_le_self _ _) hv
  have h60 := hO.1.1
  refine j_aload_n C dL_law_142 rfl ?_
  refine j_iload C dL_law_143 rfl ?_
  refine j_bipush C (v := nI 8) dL_law_145 rfl ?_
  refine q_irem C (by omega) (by decide) (by decide) dL_law_147 ?_
  refine q_callHS C (sp_L_erases G M hO hC (nI (v / 12 % 8))) rfl kL_erases tL_erases lk_L_170 rfl rfl (Nat.le_of_ble_eq_true rfl) ⟨⟨(Nat.le_of_ble_eq_true rfl), (Nat.le_of_ble_eq_true rfl)⟩, (by show _ ≤ (699478 : Nat); simp only [gRm]; omega), (by show _ ≤ (6993413 : Nat); simp only [gRm]; omega)⟩ dL_law_148 (fun M1 h1 => ?_)
  refine j_istore C dL_law_151 (by decide) rfl ?_
  refine j_goto C 272 dL_law_153 ?_ (by decide)
  exact hnx (oErase A (nI (v / 12 % 8))) _ (th_erase hO.2 _) (ok_erase hO _) (vv_erase hV _) h1 ((fun q => absurd q (by omega)))
set_option maxHeartbeats 4000000 in
set_option maxRecDepth 100000 in
theorem lw_move {G : gG} {X : gX} (LW : gLw G X) {steps j v k n : Nat} (hk : k + 3000 ≤ 690000) (hn : n + 24000 ≤ 6900000) (hv : v < 2 ^ 31) {A : gSt0} {M : gMem} (hO : gOk A) (hV : gVv A) (hC : gRC A M) {s : Int64} (hc : v % 12 = 4) (hnx : ∀ (o : gRes) M', gTh A o → gOk o.2.2 → gVv o.2.2 → gRC o.2.2 M' → (7 < v % 12 → ¬ v % 12 = 8 → o.1 = 0 → chgA o.2.2 = 0) → Q G X (k + 4) (n + 32) 272 (zLB G steps j v s (wI o)) [] M') : Q G X k n 156 (zLB G steps j v s (nI 0)) [] M := by
  have C := LW.1
  have hw12 : v / 12 < 2 ^ 31 := Nat.lt_of_le_of_lt (Nat.div_le_self _ _) hv
  have h60 := hO.1.1
  refine j_aload_n C dL_law_156 rfl ?_
  refine j_iload C dL_law_157 rfl ?_
  refine j_bipush C (v := nI 8) dL_law_159 rfl ?_
  refine q_irem C (by omega) (by decide) (by decide) dL_law_161 ?_
  refine j_iload C dL_law_162 rfl ?_
  refine j_bipush C (v := nI 8) dL_law_164 rfl ?_
  refine q_idiv C (by omega) (by decide) (by decide) dL_law_166 ?_
  refine j_bipush C (v := nI 8) dL_law_167 rfl ?_
  refine q_irem C (by omega) (by decide) (by decide) dL_law_169 ?_
  refine q_callHS C (sp_L_moves G M hO hC (nI (v / 12 % 8)) (nI (v / 12 / 8 % 8))) rfl kL_moves tL_moves lk_L_173 rfl rfl (Nat.le_of_ble_eq_true rfl) ⟨⟨(Nat.le_of_ble_eq_true rfl), (Nat.le_of_ble_eq_true rfl)⟩, (by show _ ≤ (699478 : Nat); simp only [gRm]; omega), (by show _ ≤ (6993413 : Nat); simp only [gRm]; omega)⟩ dL_law_170 (fun M1 h1 => ?_)
  refine j_istore C dL_law_173 (by decide) rfl ?_
  refine j_goto C 272 dL_law_175 ?_ (by decide)
  exact hnx (oMove A (nI (v / 12 % 8)) (nI (v / 12 / 8 % 8))) _ (th_move hO.2 _ _) (ok_move hO _ _) (vv_move hV _ _) h1 ((fun q => absurd q (by omega)))
set_option maxHeartbeats 4000000 in
set_option maxRecDepth 100000 in
theorem lw_commit {G : gG} {X : gX} (LW : gLw G X) {steps j v k n : Nat} (hk : k + 3000 ≤ 690000) (hn : n + 24000 ≤ 6900000) (hv : v < 2 ^ 31) {A : gSt0} {M : gMem} (hO : gOk A) (hV : gVv A) (hC : gRC A M) {s : Int64} (hc : v % 12 < 8) (hnx : ∀ (o : gRes) M', gTh A o → gOk o.2.2 → gVv o.2.2 → gRC o.2.2 M' → (7 < v % 12 → ¬ v % 12 = 8 → o.1 = 0 → chgA o.2.2 = 0) → Q G X (k + 4) (n + 32) 272 (zLB G steps j v s (wI o)) [] M') : Q G X k n 178 (zLB G steps j v s (nI 0)) [] M := by
  have C := LW.1
  have hw12 : v / 12 < 2 ^ 31 := Nat.lt_of_le_of_lt (Nat.div_le_self _ _) hv
  have h60 := hO.1.1
  refine j_aload_n C dL_law_178 rfl ?_
  refine q_callHS C (sp_L_commits G M hO hC ) rfl kL_commits tL_commits lk_L_176 rfl rfl (Nat.le_of_ble_eq_true rfl) ⟨⟨(Nat.le_of_ble_eq_true rfl), (Nat.le_of_ble_eq_true rfl)⟩, (by show _ ≤ (699478 : Nat); simp only [gRm]; omega), (by show _ ≤ (6993413 : Nat); simp only [gRm]; omega)⟩ dL_law_179 (fun M1 h1 => ?_)
  refine j_istore C dL_law_182 (by decide) rfl ?_
  refine j_goto C 272 dL_law_184 ?_ (by decide)
  exact hnx (oCommit A) _ (th_commit hO) (ok_commit hO) (vv_commit hO.1 hV) h1 ((fun q => absurd q (by omega)))
set_option maxHeartbeats 4000000 in
set_option maxRecDepth 100000 in
theorem lw_branch {G : gG} {X : gX} (LW : gLw G X) {steps j v k n : Nat} (hk : k + 3000 ≤ 690000) (hn : n + 24000 ≤ 6900000) (hv : v < 2 ^ 31) {A : gSt0} {M : gMem} (hO : gOk A) (hV : gVv A) (hC : gRC A M) {s : Int64} (hc : v % 12 = 8) (hnx : ∀ (o : gRes) M', gTh A o → gOk o.2.2 → gVv o.2.2 → gRC o.2.2 M' → (7 < v % 12 → ¬ v % 12 = 8 → o.1 = 0 → chgA o.2.2 = 0) → Q G X (k + 4) (n + 32) 272 (zLB G steps j v s (wI o)) [] M') : Q G X k n 187 (zLB G steps j v s (nI 0)) [] M := by
  have C := LW.1
  have hw12 : v / 12 < 2 ^ 31 := Nat.lt_of_le_of_lt (Nat.div_le_self _ _) hv
  have h60 := hO.1.1
  refine j_aload_n C dL_law_187 rfl ?_
  refine j_iload C dL_law_188 rfl ?_
  refine j_iconst C (v := nI 5) dL_law_190 rfl ?_
  refine q_irem C (by omega) (by decide) (by decide) dL_law_191 ?_
  refine q_callHS C (sp_L_branches G M hO hC (nI (v / 12 % 5))) rfl kL_branches tL_branches lk_L_179 rfl rfl (Nat.le_of_ble_eq_true rfl) ⟨⟨(Nat.le_of_ble_eq_true rfl), (Nat.le_of_ble_eq_true rfl)⟩, (by show _ ≤ (699478 : Nat); simp only [gRm]; omega), (by show _ ≤ (6993413 : Nat); simp only [gRm]; omega)⟩ dL_law_192 (fun M1 h1 => ?_)
  refine j_istore C dL_law_195 (by decide) rfl ?_
  refine j_goto C 272 dL_law_197 ?_ (by decide)
  exact hnx (oBranch A (nI (v / 12 % 5))) _ (th_branch hO _) (ok_branch hO _) (vv_branch hV _) h1 ((fun _ q => absurd hc q))
set_option maxHeartbeats 4000000 in
set_option maxRecDepth 100000 in
theorem lw_merge {G : gG} {X : gX} (LW : gLw G X) {steps j v k n : Nat} (hk : k + 3000 ≤ 690000) (hn : n + 24000 ≤ 6900000) (hv : v < 2 ^ 31) {A : gSt0} {M : gMem} (hO : gOk A) (hV : gVv A) (hC : gRC A M) {s : Int64} (hc : v % 12 = 10) (hnx : ∀ (o : gRes) M', gTh A o → gOk o.2.2 → gVv o.2.2 → gRC o.2.2 M' → (7 < v % 12 → ¬ v % 12 = 8 → o.1 = 0 → chgA o.2.2 = 0) → Q G X (k + 4) (n + 32) 272 (zLB G steps j v s (wI o)) [] M') : Q G X k n 249 (zLB G steps j v s (nI 0)) [] M := by
  have C := LW.1
  have hw12 : v / 12 < 2 ^ 31 := Nat.lt_of_le_of_lt (Nat.div_le_self _ _) hv
  have h60 := hO.1.1
  refine j_aload_n C dL_law_249 rfl ?_
  refine j_iload C dL_law_250 rfl ?_
  refine j_iconst C (v := nI 5) dL_law_252 rfl ?_
  refine q_irem C (by omega) (by decide) (by decide) dL_law_253 ?_
  refine q_callHS C (sp_L_merges G M hO hC (nI (v / 12 % 5))) rfl kL_merges tL_merges lk_L_193 rfl rfl (Nat.le_of_ble_eq_true rfl) ⟨⟨(Nat.le_of_ble_eq_true rfl), (Nat.le_of_ble_eq_true rfl)⟩, (by show _ ≤ (699478 : Nat); simp only [gRm]; omega), (by show _ ≤ (6993413 : Nat); simp only [gRm]; omega)⟩ dL_law_254 (fun M1 h1 => ?_)
  refine j_istore C dL_law_257 (by decide) rfl ?_
  refine j_goto C 272 dL_law_259 ?_ (by decide)
  exact hnx (oMerge A (nI (v / 12 % 5))) _ (th_merge hO _) (ok_merge hO _) (vv_merge hO.1 hV _) h1 ((fun _ _ => ch_merge _))
set_option maxHeartbeats 4000000 in
set_option maxRecDepth 100000 in
theorem lw_put {G : gG} {X : gX} (LW : gLw G X) {steps j v k n : Nat} (hk : k + 3000 ≤ 690000) (hn : n + 24000 ≤ 6900000) (hv : v < 2 ^ 31) {A : gSt0} {M : gMem} (hO : gOk A) (hV : gVv A) (hC : gRC A M) {s : Int64} (hc : v % 12 = 11) (hnx : ∀ (o : gRes) M', gTh A o → gOk o.2.2 → gVv o.2.2 → gRC o.2.2 M' → (7 < v % 12 → ¬ v % 12 = 8 → o.1 = 0 → chgA o.2.2 = 0) → Q G X (k + 4) (n + 32) 272 (zLB G steps j v s (wI o)) [] M') : Q G X k n 262 (zLB G steps j v s (nI 0)) [] M := by
  have C := LW.1
  have hw12 : v / 12 < 2 ^ 31 := Nat.lt_of_le_of_lt (Nat.div_le_self _ _) hv
  have h60 := hO.1.1
  refine j_aload_n C dL_law_262 rfl ?_
  refine j_iload C dL_law_263 rfl ?_
  refine j_iconst C (v := nI 5) dL_law_265 rfl ?_
  refine q_irem C (by omega) (by decide) (by decide) dL_law_266 ?_
  refine q_callHS C (sp_L_puts G M hO hC (nI (v / 12 % 5))) rfl kL_puts tL_puts lk_L_196 rfl rfl (Nat.le_of_ble_eq_true rfl) ⟨⟨(Nat.le_of_ble_eq_true rfl), (Nat.le_of_ble_eq_true rfl)⟩, (by show _ ≤ (699478 : Nat); simp only [gRm]; omega), (by show _ ≤ (6993413 : Nat); simp only [gRm]; omega)⟩ dL_law_267 (fun M1 h1 => ?_)
  refine j_istore C dL_law_270 (by decide) rfl ?_
  exact hnx (oPutOnto A (nI (v / 12 % 5))) _ (th_put hO _) (ok_put hO _) (vv_put hO hV _) h1 ((fun _ _ => ch_put _))
set_option maxHeartbeats 4000000 in
set_option maxRecDepth 100000 in
theorem lw_nine {G : gG} {X : gX} (LW : gLw G X) {steps j v k n : Nat} (hk : k + 3000 ≤ 690000) (hn : n + 24000 ≤ 6900000) (hv : v < 2 ^ 31) {A : gSt0} {M : gMem} (hO : gOk A) (hV : gVv A) (hC : gRC A M) {s : Int64} (hc : v % 12 = 9) (hnx : ∀ (o : gRes) M', gTh A o → gOk o.2.2 → gVv o.2.2 → gRC o.2.2 M' → (7 < v % 12 → ¬ v % 12 = 8 → o.1 = 0 → chgA o.2.2 = 0) → Q G X (k + 4) (n + 32) 272 (zLB G steps j v s (wI o)) [] M') : Q G X k n 200 (zLB G steps j v s (nI 0)) [] M := by
  have C := LW.1
  have hw12 : v / 12 < 2 ^ 31 := Nat.lt_of_le_of_lt (Nat.div_le_self _ _) hv
  have h60 := hO.1.1
  refine j_iload C dL_law_200 rfl ?_
  refine j_iconst C (v := nI 2) dL_law_202 rfl ?_
  refine q_irem C (by omega) (by decide) (by decide) dL_law_203 ?_
  refine q_ifz_ne C 220 dL_law_204 (by decide) (by omega) (fun _ => ?_) (fun _ => ?_)
  · skip
    refine j_aload_n C dL_law_220 rfl ?_
    refine j_aload_n C dL_law_221 rfl ?_
    refine q_callV C (sp_X6_commits G M hC) vX6_commits lk_L_80 rfl (by decide) rfl rfl (Nat.le_of_ble_eq_true rfl) ⟨⟨(Nat.le_of_ble_eq_true rfl), (Nat.le_of_ble_eq_true rfl)⟩, (by show _ ≤ (699478 : Nat); simp only [gRm]; omega), (by show _ ≤ (6993413 : Nat); simp only [gRm]; omega)⟩ dL_law_222 ?_
    refine j_iconst C (v := nI 1) dL_law_225 rfl ?_
    refine q_isub C (by omega) dL_law_226 ?_
    refine j_iload C dL_law_227 rfl ?_
    refine j_iconst C (v := nI 2) dL_law_229 rfl ?_
    refine q_idiv C (by omega) (by decide) (by decide) dL_law_230 ?_
    refine j_iconst C (v := nI 3) dL_law_231 rfl ?_
    refine j_aload_n C dL_law_232 rfl ?_
    refine q_callV C (sp_X6_commits G M hC) vX6_commits lk_L_80 rfl (by decide) rfl rfl (Nat.le_of_ble_eq_true rfl) ⟨⟨(Nat.le_of_ble_eq_true rfl), (Nat.le_of_ble_eq_true rfl)⟩, (by show _ ≤ (699478 : Nat); simp only [gRm]; omega), (by show _ ≤ (6993413 : Nat); simp only [gRm]; omega)⟩ dL_law_233 ?_
    refine q_mmin C gl_minl gn_mins gj_maxi gn_minc (Nat.le_of_ble_eq_true rfl) (Nat.le_of_ble_eq_true rfl) (Nat.le_of_ble_eq_true rfl) (by show _ ≤ (699478 : Nat); simp only [gRm]; omega) (by show _ ≤ (6993413 : Nat); simp only [gRm]; omega) dL_law_236 ?_
    rw [min3_eq (by omega)]
    obtain ⟨hm0, hm1, hm3⟩ := min3_b h60.1
    have hml := Nat.mod_lt (v / 12 / 2) hm0
    refine q_irem C (by omega) hm0 (by omega) dL_law_239 ?_
    refine q_isub C (by omega) dL_law_240 ?_
    refine q_callHS C (sp_L_resets G M hO hC (nI (aN A - 1 - v / 12 / 2 % min3 (aN A)))) rfl kL_resets tL_resets lk_L_190 rfl rfl (Nat.le_of_ble_eq_true rfl) ⟨⟨(Nat.le_of_ble_eq_true rfl), (Nat.le_of_ble_eq_true rfl)⟩, (by show _ ≤ (699478 : Nat); simp only [gRm]; omega), (by show _ ≤ (6993413 : Nat); simp only [gRm]; omega)⟩ dL_law_241 (fun M1 h1 => ?_)
    refine j_istore C dL_law_244 (by decide) rfl ?_
    refine j_goto C 272 dL_law_246 ?_ (by decide)
    exact hnx (oReset A (nI (aN A - 1 - v / 12 / 2 % min3 (aN A)))) _ (th_reset hO _) (ok_reset hO _) (vv_reset hV _) h1 ((fun _ _ => ch_reset _))
  · skip
    refine j_aload_n C dL_law_207 rfl ?_
    refine j_iload C dL_law_208 rfl ?_
    refine j_iconst C (v := nI 2) dL_law_210 rfl ?_
    refine q_idiv C (by omega) (by decide) (by decide) dL_law_211 ?_
    refine j_iconst C (v := nI 5) dL_law_212 rfl ?_
    refine q_irem C (by omega) (by decide) (by decide) dL_law_213 ?_
    refine q_callHS C (sp_L_goes G M hO hC (nI (v / 12 / 2 % 5))) rfl kL_goes tL_goes lk_L_182 rfl rfl (Nat.le_of_ble_eq_true rfl) ⟨⟨(Nat.le_of_ble_eq_true rfl), (Nat.le_of_ble_eq_true rfl)⟩, (by show _ ≤ (699478 : Nat); simp only [gRm]; omega), (by show _ ≤ (6993413 : Nat); simp only [gRm]; omega)⟩ dL_law_214 (fun M1 h1 => ?_)
    refine j_goto C 244 dL_law_217 ?_ (by decide)
    refine j_istore C dL_law_244 (by decide) rfl ?_
    refine j_goto C 272 dL_law_246 ?_ (by decide)
    exact hnx (oCheckOut A (nI (v / 12 / 2 % 5))) _ (th_check hO _) (ok_check hO _) (vv_check hV _) h1 ((fun _ _ => ch_check _))
set_option maxHeartbeats 4000000 in
set_option maxRecDepth 100000 in
theorem law_tab {G : gG} {X : gX} (LW : gLw G X) {steps j v k n : Nat} (hk : k + 3000 ≤ 690000) (hn : n + 24000 ≤ 6900000) (hv : v < 2 ^ 31) {A : gSt0} {M : gMem} (hO : gOk A) (hV : gVv A) (hC : gRC A M) {s : Int64} (hnx : ∀ (o : gRes) M', gTh A o → gOk o.2.2 → gVv o.2.2 → gRC o.2.2 M' → (7 < v % 12 → ¬ v % 12 = 8 → o.1 = 0 → chgA o.2.2 = 0) → Q G X (k + 4) (n + 32) 272 (zLB G steps j v s (wI o)) [] M') {c : Nat} (hcc : v % 12 = c) (hc12 : c < 12) : Q G X k n 61 (zLB G steps j v s (nI 0)) [.int (nI c)] M := by
  have C := LW.1
  have hcs : c = 0 ∨ c = 1 ∨ c = 2 ∨ c = 3 ∨ c = 4 ∨ c = 5 ∨ c = 6 ∨ c = 7 ∨ c = 8 ∨ c = 9 ∨ c = 10 ∨ c = 11 := by omega
  rcases hcs with rfl | rfl | rfl | rfl | rfl | rfl | rfl | rfl | rfl | rfl | rfl | rfl
  · exact j_tableIn C 120 dL_law_61 (by decide) (by decide) (off := 59) (by decide) (by decide) (lw_write LW hk hn hv hO hV hC (by omega) hnx)
  · exact j_tableIn C 120 dL_law_61 (by decide) (by decide) (off := 59) (by decide) (by decide) (lw_write LW hk hn hv hO hV hC (by omega) hnx)
  · exact j_tableIn C 120 dL_law_61 (by decide) (by decide) (off := 59) (by decide) (by decide) (lw_write LW hk hn hv hO hV hC (by omega) hnx)
  · exact j_tableIn C 142 dL_law_61 (by decide) (by decide) (off := 81) (by decide) (by decide) (lw_erase LW hk hn hv hO hV hC (by omega) hnx)
  · exact j_tableIn C 156 dL_law_61 (by decide) (by decide) (off := 95) (by decide) (by decide) (lw_move LW hk hn hv hO hV hC (by omega) hnx)
  · exact j_tableIn C 178 dL_law_61 (by decide) (by decide) (off := 117) (by decide) (by decide) (lw_commit LW hk hn hv hO hV hC (by omega) hnx)
  · exact j_tableIn C 178 dL_law_61 (by decide) (by decide) (off := 117) (by decide) (by decide) (lw_commit LW hk hn hv hO hV hC (by omega) hnx)
  · exact j_tableIn C 178 dL_law_61 (by decide) (by decide) (off := 117) (by decide) (by decide) (lw_commit LW hk hn hv hO hV hC (by omega) hnx)
  · exact j_tableIn C 187 dL_law_61 (by decide) (by decide) (off := 126) (by decide) (by decide) (lw_branch LW hk hn hv hO hV hC (by omega) hnx)
  · exact j_tableIn C 200 dL_law_61 (by decide) (by decide) (off := 139) (by decide) (by decide) (lw_nine LW hk hn hv hO hV hC (by omega) hnx)
  · exact j_tableIn C 249 dL_law_61 (by decide) (by decide) (off := 188) (by decide) (by decide) (lw_merge LW hk hn hv hO hV hC (by omega) hnx)
  · exact j_tableOut C 262 dL_law_61 (Or.inr (by decide)) (by decide) (lw_put LW hk hn hv hO hV hC hcc hnx)
set_option maxHeartbeats 4000000 in
set_option maxRecDepth 100000 in
theorem law_loop {G : gG} {X : gX} (LW : gLw G X) (hend : ∀ A M, gOk A → gVv A → gRC A M → Q G X 290000 2320000 330 (zLE G) [] M) {steps : Nat} (hs : steps < 56) : ∀ j, j ≤ steps → ∀ A M, gOk A → gVv A → gRC A M → Q G X (160 + 5100 * j) (2600 + 40800 * j) 21 (zL0 G steps j) [] M := by
  have C := LW.1
  refine g_up _ _ (fun j hj ih A M hO hV hC => ?_)
  refine j_iload_n C dL_law_21 rfl ?_
  refine j_iload_n C dL_law_22 rfl ?_
  refine q_icmp_ge C 330 dL_law_23 (by decide) (by omega) (by omega) (fun h => ?_) (fun h => ?_)
  · exact j_wide (by omega) (by omega) (j_sub z_0E (hend A M hO hV hC))
  · skip
    refine j_aload_n C dL_law_26 rfl ?_
    refine j_iconst C (v := nI 1) dL_law_27 rfl ?_
    refine j_iload_n C dL_law_28 rfl ?_
    refine q_iadd C dL_law_29 ?_
    refine q_callS C (sp_L_at G M LW.2 (k := 1 + j) (by omega)) vL_at lk_L_155 rfl rfl (Nat.le_of_ble_eq_true rfl) ⟨⟨(Nat.le_of_ble_eq_true rfl), (Nat.le_of_ble_eq_true rfl)⟩, (by show _ ≤ (699478 : Nat); simp only [gRm]; omega), (by show _ ≤ (6993413 : Nat); simp only [gRm]; omega)⟩ dL_law_30 ?_
    refine j_ldc C (nI 100000000) gl_100000000 dL_law_33 ?_
    refine q_callS C (sp_some G M (atN G (1 + j)) (n := 100000000) (by decide) (by decide)) vL_some lk_L_75 rfl rfl (Nat.le_of_ble_eq_true rfl) ⟨⟨(Nat.le_of_ble_eq_true rfl), (Nat.le_of_ble_eq_true rfl)⟩, (by show _ ≤ (699478 : Nat); simp only [gRm]; omega), (by show _ ≤ (6993413 : Nat); simp only [gRm]; omega)⟩ dL_law_35 ?_
    obtain ⟨v, hve⟩ : ∃ v, smN (atN G (1 + j)) 100000000 = v := ⟨_, rfl⟩
    have hv : v < 100000000 := by rw [← hve]; exact (sm_eq _ (by decide) (by decide)).2
    rw [hve]
    refine j_istore C dL_law_38 (by decide) rfl ?_
    refine j_iload C dL_law_40 rfl ?_
    refine j_bipush C (v := nI 12) dL_law_42 rfl ?_
    refine q_idiv C (by omega) (by decide) (by decide) dL_law_44 ?_
    refine j_istore C dL_law_45 (by decide) rfl ?_
    refine j_aload_n C dL_law_47 rfl ?_
    refine q_callSS C (sp_L_sum G M hO hC) vL_sum lk_L_160 rfl rfl (Nat.le_of_ble_eq_true rfl) ⟨⟨(Nat.le_of_ble_eq_true rfl), (Nat.le_of_ble_eq_true rfl)⟩, (by show _ ≤ (699478 : Nat); simp only [gRm]; omega), (by show _ ≤ (6993413 : Nat); simp only [gRm]; omega)⟩ dL_law_48 (fun M1 h1 => ?_)
    refine j_lstore C dL_law_51 (by decide) rfl ?_
    refine j_iconst C (v := nI 0) dL_law_53 rfl ?_
    refine j_istore C dL_law_54 (by decide) rfl ?_
    refine j_iload C dL_law_56 rfl ?_
    refine j_bipush C (v := nI 12) dL_law_58 rfl ?_
    refine q_irem C (by omega) (by decide) (by decide) dL_law_60 ?_
    refine j_wide (k' := 160 + 5100 * j + 2500) (n' := 2600 + 40800 * j + 20000) (by simp only [gRm]; omega) (by simp only [gRm]; omega) ?_
    refine law_tab LW (by omega) (by omega) (by omega) hO hV h1 (fun o M2 ht hO2 hV2 hC2 hch => ?_) rfl (Nat.mod_lt _ (by decide))
    refine law_272 LW (by omega) (by omega) (by omega) ht hO2 hC2 hch (fun M3 hC3 => ?_)
    refine q_iinc C dL_law_324 rfl (by decide) rfl ?_
    refine j_goto C 21 dL_law_327 ?_ (by decide)
    exact j_wide (k' := 160 + 5100 * (j + 1)) (n' := 2600 + 40800 * (j + 1)) (by omega) (by omega) (j_sub (gLe_c rfl (gLe_c rfl (gLe_c rfl (gLe_c rfl (gLe_n (gLe_n (gLe_n (gLe_n (gLe_n gLe_0))))))))) (ih h o.2.2 M3 hO2 hV2 hC3))
