/-! what the calls do: code of what is thrown, answer, state -/
abbrev gRes : Type := Nat × Int32 × gSt0
def gPost (L : List String) (o : gRes) (M : gMem) : gEnd → gMem → Prop := fun r M' => ((o.1 = 0 ∧ r = .inl (some (.int o.2.1))) ∨ ∃ E, o.1 ≠ 0 ∧ L[o.1 - 1]? = some E ∧ r = .inr E) ∧ gRC o.2.2 M' ∧ gCls M M'
theorem post_no {L : List String} {o : gRes} {A : gSt0} {M M' : gMem} {k : Nat} {E : String} (ho : o = (k + 1, 0, A)) (hE : L[k]? = some E) (hC : gRC A M') (hs : gCls M M') : gPost L o M (.inr E) M' := by
  subst ho
  exact ⟨Or.inr ⟨E, Nat.succ_ne_zero _, hE, rfl⟩, hC, hs⟩
theorem post_ok {L : List String} {o : gRes} {A : gSt0} {M M' : gMem} {v : Int32} (ho : o = (0, v, A)) (hC : gRC A M') (hs : gCls M M') : gPost L o M (.inl (some (.int v))) M' := by
  subst ho
  exact ⟨Or.inl ⟨rfl, rfl⟩, hC, hs⟩
theorem inr_c {E E' : String} (h : (Sum.inr E' : gEnd) = .inr E) : E' = E := Sum.inr.inj h
def chgA (A : gSt0) : Nat := cntN (fun p => decide (¬ aW A p = aT A (aHd A) p)) 8
def oWrite (A : gSt0) (p c : Int32) : gRes := match inB p 8 with
  | none => (1, 0, A)
  | some p => match inB c 10000 with
    | none => (2, 0, A)
    | some c => (0, oI (aW A p), setW A (uO (aW A) p (some c)))
def oErase (A : gSt0) (p : Int32) : gRes := match inB p 8 with
  | none => (1, 0, A)
  | some p => match aW A p with
    | none => (2, 0, A)
    | some c => (0, nI c, setW A (uO (aW A) p none))
def oMove (A : gSt0) (p q : Int32) : gRes := match inB p 8 with
  | none => (1, 0, A)
  | some p => match inB q 8 with
    | none => (1, 0, A)
    | some q => match aW A p with
      | none => (2, 0, A)
      | some c => match aW A q with
        | some _ => (3, 0, A)
        | none => (0, nI c, setW A (uO (uO (aW A) p none) q (some c)))
def oContent (A : gSt0) (p : Int32) : gRes := match inB p 8 with
  | none => (1, 0, A)
  | some p => match aW A p with
    | none => (2, 0, A)
    | some c => (0, nI c, A)
/-- a commit becomes the head -/
def takeA (A : gSt0) (c : Nat) : gSt0 := (aN A, aF A, aS A, aT A, uO (aH A) (aC A) (some c), aC A, aT A c)
def oCommit (A : gSt0) : gRes := if chgA A = 0 then (1, 0, A) else match mkO A (aW A) (aHd A) none with
  | none => (1, 0, A)
  | some c => (0, nI c, takeA (mkA A (aW A) (aHd A) none) c)
def oBranch (A : gSt0) (b : Int32) : gRes := match inB b 5 with
  | none => (1, 0, A)
  | some b => match aH A b with
    | some _ => (2, 0, A)
    | none => (0, nI (aHd A), setH A (uO (aH A) b (some (aHd A))))
def oCheckOut (A : gSt0) (b : Int32) : gRes := match inB b 5 with
  | none => (1, 0, A)
  | some b => match aH A b with
    | none => (2, 0, A)
    | some h => if chgA A = 0 then (0, nI h, setW (setC A b) (aT A h)) else (3, 0, A)
def oReset (A : gSt0) (c : Int32) : gRes := match inB c (aN A) with
  | none => (1, 0, A)
  | some c => (0, nI (aHd A), takeA A c)
def oHead (A : gSt0) (b : Int32) : gRes := match inB b 5 with
  | none => (1, 0, A)
  | some b => match aH A b with
    | none => (2, 0, A)
    | some h => (0, nI h, A)
theorem put_n {t : Nat → Option Nat} {p : Nat} {o : Option Nat} {M : gMem} (hr : gRo M 153 t) : gRo (sI M 153 (upd (M.1 153) p (oI o))) 153 (uO t p o) := fun q hq => by
  rw [sI_s]
  by_cases e : q = p
  · rw [e, upd_s, uO_s]
  · rw [upd_n _ _ e, uO_n _ _ e]; exact hr q hq
theorem rc_put {A : gSt0} {M : gMem} {p : Nat} {o : Option Nat} (hA : gAi A) (hC : gRC A M) : gRC (setW A (uO (aW A) p o)) (sI M 153 (upd (M.1 153) p (oI o))) := by
  refine ⟨rh_k (A := setW A (uO (aW A) p o)) hA hC.1 ⟨fun o ho => sI_n _ _ (by omega), rfl, rfl⟩, ⟨fun b hb => ?_, hC.2.1.2.1, put_n hC.2.1.2.2⟩, rp_k hC.2.2 ⟨fun o ho => sI_n _ _ (by omega), rfl, rfl, rfl⟩⟩
  rw [sI_n _ _ (by decide)]
  exact hC.2.1.1 b hb
theorem hd_of {A : gSt0} {M : gMem} (hB : gAb A) (hR : gRb A M) : M.1 154 (aC A) = nI (aHd A) := by
  rw [hR.1 _ hB.1, (ab_hd hB).1]
  rfl
theorem chg_of {A : gSt0} {M : gMem} (hA : gAi A) (hB : gAb A) (hh : gRh A M) (hr : gRo M 153 (aW A)) : cntN (fun p => decide (¬ M.1 153 p = M.1 (10 + 2 * aHd A + 1) p)) 8 = chgA A := cnt_congr (fun p hp => by
  rw [hh.2.2 _ (ab_hd hB).2 p hp, hr p hp]
  exact decide_eq_decide.mpr (not_congr (oI_eq (nI_lt8 hB.2.2.2 hp) (nI_lt8 (hA.2.2.2 _) hp))))
theorem hd_lt {A : gSt0} (hA : gAi A) (hB : gAb A) {b : Nat} (hb : b < 5) : ∀ v, aH A b = some v → v < 2 ^ 31 := fun v h => by
  have := hB.2.1 b v hb h
  have := hA.1.2
  omega
theorem inB_nsome {v : Int32} {n : Nat} (h : (inB v n).isSome = false) : inB v n = none := by
  cases e : inB v n with
  | none => rfl
  | some k => rw [e] at h; cases h
theorem inB_is {v : Int32} {n : Nat} (hn : n < 2 ^ 31) (h : (inB v n).isSome = true) : ∃ k, inB v n = some k ∧ v = nI k ∧ k < n := by
  cases e : inB v n with
  | none => rw [e] at h; cases h
  | some k => exact ⟨k, rfl, inB_some hn e⟩
/-- the commit that is taken as head -/
theorem rc_take {A : gSt0} {M1 M2 : gMem} {c : Nat} (hA : gAi A) (hC5 : aC A < 5) (hh : gRh A M1) (hb : ∀ b, b < 5 → M1.1 154 b = oI (aH A b)) (hcu : M1.2.2.1 0 6 = nI (aC A)) (hc : c < aN A) (hs : gSp (sI (sI M1 154 (upd (M1.1 154) (aC A) (nI c))) 153 (cpF ((sI M1 154 (upd (M1.1 154) (aC A) (nI c))).1 (10 + 2 * c + 1)) ((sI M1 154 (upd (M1.1 154) (aC A) (nI c))).1 153) 8)) M2) (hp : gRp A (aN A) M2) : gRC (takeA A c) M2 ∧ gCls M1 M2 := by
  have h60 := hA.1.2
  refine ⟨⟨rh_k (A := takeA A c) hA hh ⟨fun o ho => ?_, ?_, ?_⟩, ⟨fun b hb5 => ?_, ?_, fun p hp8 => ?_⟩, hp⟩, cls_trans (cls_trans (cls_sI M1 _ (by decide)) (cls_sI _ _ (by decide))) (cls_sp hs)⟩
  · rw [hs.2.2.2 o (by omega), sI_n _ _ (by omega), sI_n _ _ (by omega)]
  · rw [hs.1]; rfl
  · rw [hs.2.2.1 _ _ (by decide)]; rfl
  · rw [hs.2.2.2 154 (by decide), sI_n _ _ (by decide), sI_s]
    show _ = oI (uO (aH A) (aC A) (some c) b)
    by_cases e : b = aC A
    · rw [e, upd_s, uO_s]; rfl
    · rw [upd_n _ _ e, uO_n _ _ e]; exact hb b hb5
  · rw [hs.2.2.1 _ _ (by decide)]; exact hcu
  · rw [hs.2.2.2 153 (by decide), sI_s, cpF_lt hp8, sI_n _ _ (by omega)]
    exact hh.2.2 c hc p hp8
theorem gTr_153 : gTr 152 := by unfold gTr; decide
theorem chg_lt2 (A : gSt0) : chgA A < 2 ^ 31 := Nat.lt_of_le_of_lt (cnt_le _ 8) (by decide)
theorem pq_n {P : gPk} {M : gMem} {o : Nat} {f : Nat → Int32} (h : gPq P M) (ho : o ≠ 149 ∧ o ≠ 150 ∧ o ≠ 151) : gPq P (sI M o f) := ⟨h.1, h.2.1, fun k hk => by
  rw [sI_n _ _ (fun e => ho.1 e.symm), sI_n _ _ (fun e => ho.2.1 e.symm), sI_n _ _ (fun e => ho.2.2 e.symm)]
  exact h.2.2 k hk⟩
set_option maxHeartbeats 4000000 in
set_option maxRecDepth 100000 in
theorem sp_X6_headOf (G : gG) (M : gMem) {A : gSt0} (hR : gRb A M) {b : Nat} (hb : b < 5) : SpR G mX6_headOf (gRm 1 0) [.ref (gb G + 0), .int (nI b)] M (some (.int (oI (aH A b)))) M := by
  refine Sp.of (by decide +kernel) (Nat.le_of_ble_eq_true rfl) (fun X C CM => ?_)
  have C : gC G X RX6 cX6_headOf 2 (gRm 1 0) := C
  refine j_iload_n C dX6_headOf_0 rfl ?_
  refine q_callS C (sp_X6_isBranchNumber G M (nI b)) vX6_isBranchNumber lk_X6_102 rfl rfl (Nat.le_of_ble_eq_true rfl) (by decide) dX6_headOf_1 ?_
  rw [inB_nI (n := 5) (by decide) hb]
  refine q_if_eq0 C 16 dX6_headOf_4 (by decide) (fun h4 => ?_) (fun h4 => ?_)
  · cases h4
  · refine j_aload_n C dX6_headOf_7 rfl ?_
    refine q_get C fX6 4 rfl (by decide) (by decide) lf_X6_37 rfl rfl dX6_headOf_8 ?_
    refine j_iload_n C dX6_headOf_11 rfl ?_
    refine q_iald C rfl (by decide) (by decide) (by omega) dX6_headOf_12 ?_
    refine j_goto C 17 dX6_headOf_13 ?_ (by decide)
    exact q_iret C CM rfl (by decide) (by decide) dX6_headOf_17 (hR.1 b hb) rfl
set_option maxHeartbeats 4000000 in
set_option maxRecDepth 100000 in
theorem sp_X6_changedPaths (G : gG) (M : gMem) {A : gSt0} (hA : gAi A) (hB : gAb A) (hh : gRh A M) (hb : gRb A M) : SpR G mX6_changedPaths (gRm 2 0) [.ref (gb G + 0)] M (some (.int (nI (chgA A)))) M := by
  refine Sp.of (by decide +kernel) (Nat.le_of_ble_eq_true rfl) (fun X C CM => ?_)
  have C : gC G X RX6 cX6_changedPaths 1 (gRm 2 0) := C
  refine j_aload_n C dX6_changedPaths_0 rfl ?_
  refine q_get C fX6 3 rfl (by decide) (by decide) lf_X6_33 rfl rfl dX6_changedPaths_1 ?_
  refine j_aload_n C dX6_changedPaths_4 rfl ?_
  refine q_get C fX6 0 rfl (by decide) (by decide) lf_X6_10 rfl rfl dX6_changedPaths_5 ?_
  refine j_aload_n C dX6_changedPaths_8 rfl ?_
  refine j_aload_n C dX6_changedPaths_9 rfl ?_
  refine q_get C fX6 6 rfl (by decide) (by decide) lf_X6_44 rfl rfl dX6_changedPaths_10 ?_
  rw [hb.2.1]
  have hd := ab_hd hB
  refine q_callV C (sp_X6_headOf G M hb hB.1) vX6_headOf lk_X6_76 rfl (by decide) rfl rfl (Nat.le_of_ble_eq_true rfl) (by decide) dX6_changedPaths_13 ?_
  rw [hd.1, show oI (some (aHd A)) = nI (aHd A) from rfl]
  refine q_callV C (sp_X1_treeOf G M hh.1 hA.1.2 hd.2) vX1_treeOf lk_X6_79 rfl (by decide) rfl rfl (Nat.le_of_ble_eq_true rfl) (by decide) dX6_changedPaths_16 ?_
  refine q_callV C (sp_X4_differences G M gTr_153 (gTr_c (Nat.lt_of_lt_of_le hd.2 hA.1.2))) vX4_differences lk_X6_83 (gTr_153).1 (gTr_lt (gTr_153)) rfl rfl (Nat.le_of_ble_eq_true rfl) (by decide) dX6_changedPaths_19 ?_
  exact q_iret C CM rfl (by decide) (by decide) dX6_changedPaths_22 (congrArg nI (chg_of hA hB hh hb.2.2)) rfl
set_option maxHeartbeats 4000000 in
set_option maxRecDepth 100000 in
theorem sp_X6_requireHead (G : gG) (M : gMem) {A : gSt0} (hA : gAi A) (hB : gAb A) (hR : gRb A M) (v : Int32) : SpO G mX6_requireHead (gRm 2 1) [.ref (gb G + 0), .int v] M (fun r M2 => M2 = M ∧ ((inB v 5 = none ∧ r = .inr "java/lang/IndexOutOfBoundsException") ∨ ∃ b, inB v 5 = some b ∧ ((aH A b = none ∧ r = .inr "java/util/NoSuchElementException") ∨ ∃ h, aH A b = some h ∧ r = .inl (some (.int (nI h)))))) := by
  refine Sp.of (by decide +kernel) (Nat.le_of_ble_eq_true rfl) (fun X C CM => ?_)
  have C : gC G X RX6 cX6_requireHead 3 (gRm 2 1) := C
  refine j_iload_n C dX6_requireHead_0 rfl ?_
  refine q_callS C (sp_X6_isBranchNumber G M v) vX6_isBranchNumber lk_X6_102 rfl rfl (Nat.le_of_ble_eq_true rfl) (by decide) dX6_requireHead_1 ?_
  refine q_if_ne0 C 17 dX6_requireHead_4 (by decide) (fun h4 => ?_) (fun h4 => ?_)
  · obtain ⟨b, hb, rfl, hb5⟩ := inB_is (n := 5) (by decide) h4
    refine j_aload_n C dX6_requireHead_17 rfl ?_
    refine j_iload_n C dX6_requireHead_18 rfl ?_
    refine q_callV C (sp_X6_headOf G M hR hb5) vX6_headOf lk_X6_76 rfl (by decide) rfl rfl (Nat.le_of_ble_eq_true rfl) (by decide) dX6_requireHead_19 ?_
    refine j_istore_n C dX6_requireHead_22 (by decide) rfl ?_
    refine j_iload_n C dX6_requireHead_23 rfl ?_
    refine j_iconst C (v := -1) dX6_requireHead_24 rfl ?_
    refine q_icmp_neN C 38 dX6_requireHead_25 (by decide) (hd_lt hA hB hb5) (fun v25 h25 => ?_) (fun h25 => ?_)
    · refine j_iload_n C dX6_requireHead_38 rfl ?_
      rw [h25]
      exact q_iretO C CM rfl (by decide) (by decide) dX6_requireHead_39 ⟨rfl, Or.inr ⟨b, hb, Or.inr ⟨_, h25, rfl⟩⟩⟩
    · exact j_throwX xr_0 xr_1 xr_2 xr_5 (text := "the branch does not exist") C CM rfl (by decide +kernel) (by decide +kernel) lc_X6_163 z_NoSuchElementException (by decide) xg_NSE xn_NSE (by decide) (xo_NSE 163) dX6_requireHead_28 dX6_requireHead_31 dX6_requireHead_32 dX6_requireHead_34 dX6_requireHead_37 (by decide) (by decide) (by decide) (by decide) (by decide) (by decide) ⟨rfl, M, ⟨rfl, Or.inr ⟨b, hb, Or.inl ⟨h25, rfl⟩⟩⟩, rfl⟩
  · exact j_throw (text := "the number is out of range") C CM rfl (by decide +kernel) (by decide +kernel) lc_X6_106 z_IndexOutOfBoundsException (by decide) xg_IOOB xn_IOOB (by decide) (xo_IOOB 106) dX6_requireHead_7 dX6_requireHead_10 dX6_requireHead_11 dX6_requireHead_13 dX6_requireHead_16 (by decide) (by decide) (by decide) (by decide) (by decide) (by decide) ⟨rfl, M, ⟨rfl, Or.inl ⟨inB_nsome h4, rfl⟩⟩, rfl⟩
set_option maxHeartbeats 4000000 in
set_option maxRecDepth 100000 in
theorem sp_X6_requireNoChanges (G : gG) (M : gMem) {A : gSt0} (hA : gAi A) (hB : gAb A) (hh : gRh A M) (hb : gRb A M) : SpO G mX6_requireNoChanges (gRm 3 1) [.ref (gb G + 0)] M (fun r M2 => M2 = M ∧ ((chgA A = 0 ∧ r = .inl none) ∨ (¬ chgA A = 0 ∧ r = .inr "java/lang/IllegalStateException"))) := by
  refine Sp.of (by decide +kernel) (Nat.le_of_ble_eq_true rfl) (fun X C CM => ?_)
  have C : gC G X RX6 cX6_requireNoChanges 1 (gRm 3 1) := C
  refine j_aload_n C dX6_requireNoChanges_0 rfl ?_
  refine q_callV C (sp_X6_changedPaths G M hA hB hh hb) vX6_changedPaths lk_X6_87 rfl (by decide) rfl rfl (Nat.le_of_ble_eq_true rfl) (by decide) dX6_requireNoChanges_1 ?_
  refine q_ifz_eq C 17 dX6_requireNoChanges_4 (by decide) (chg_lt2 A) (fun h4 => ?_) (fun h4 => ?_)
  · exact q_vretO C CM rfl (by decide) (by decide) dX6_requireNoChanges_17 ⟨rfl, Or.inl ⟨h4, rfl⟩⟩
  · exact j_throw (text := "the work tree has changes") C CM rfl (by decide +kernel) (by decide +kernel) lc_X6_71 z_IllegalStateException (by decide) xg_ISE xn_ISE (by decide) (xo_ISE 71) dX6_requireNoChanges_7 dX6_requireNoChanges_10 dX6_requireNoChanges_11 dX6_requireNoChanges_13 dX6_requireNoChanges_16 (by decide) (by decide) (by decide) (by decide) (by decide) (by decide) ⟨rfl, M, ⟨rfl, Or.inr ⟨by omega, rfl⟩⟩, rfl⟩
set_option maxHeartbeats 4000000 in
set_option maxRecDepth 100000 in
theorem sp_X6_takeAsHead (G : gG) (M : gMem) {A : gSt0} (hA : gAi A) (h5 : aC A < 5) (hh : gRh A M) (hb : ∀ b, b < 5 → M.1 154 b = oI (aH A b)) (hcu : M.2.2.1 0 6 = nI (aC A)) {k : Nat} (hk : k ≤ aN A) (hp : gRp A k M) {c : Nat} (hc : c < aN A) : SpS G mX6_takeAsHead (gRm 3 0) [.ref (gb G + 0), .int (nI c)] M (none) (fun M2 => gRC (takeA A c) M2 ∧ gCls M M2) := by
  refine Sp.of (by decide +kernel) (Nat.le_of_ble_eq_true rfl) (fun X C CM => ?_)
  have C : gC G X RX6 cX6_takeAsHead 2 (gRm 3 0) := C
  have h60 := hA.1.2
  obtain ⟨hp0, j, hj, hpe, hpf⟩ := hp
  rw [← hpe] at hp0
  refine j_aload_n C dX6_takeAsHead_0 rfl ?_
  refine q_get C fX6 6 rfl (by decide) (by decide) lf_X6_44 rfl rfl dX6_takeAsHead_1 ?_
  rw [hcu]
  refine q_callS C (sp_X6_isBranchNumber G M (nI (aC A))) vX6_isBranchNumber lk_X6_102 rfl rfl (Nat.le_of_ble_eq_true rfl) (by decide) dX6_takeAsHead_4 ?_
  rw [inB_nI (n := 5) (by decide) h5]
  refine q_if_eq0 C 20 dX6_takeAsHead_7 (by decide) (fun h7 => ?_) (fun h7 => ?_)
  · cases h7
  · refine j_aload_n C dX6_takeAsHead_10 rfl ?_
    refine q_get C fX6 4 rfl (by decide) (by decide) lf_X6_37 rfl rfl dX6_takeAsHead_11 ?_
    refine j_aload_n C dX6_takeAsHead_14 rfl ?_
    refine q_get C fX6 6 rfl (by decide) (by decide) lf_X6_44 rfl rfl dX6_takeAsHead_15 ?_
    rw [hcu]
    refine j_iload_n C dX6_takeAsHead_18 rfl ?_
    refine q_iast C rfl (by decide) (by decide) (by omega) dX6_takeAsHead_19 ?_
    refine j_aload_n C dX6_takeAsHead_20 rfl ?_
    refine q_get C fX6 3 rfl (by decide) (by decide) lf_X6_33 rfl rfl dX6_takeAsHead_21 ?_
    refine j_aload_n C dX6_takeAsHead_24 rfl ?_
    refine q_get C fX6 0 rfl (by decide) (by decide) lf_X6_10 rfl rfl dX6_takeAsHead_25 ?_
    refine j_iload_n C dX6_takeAsHead_28 rfl ?_
    refine q_callV C (sp_X1_treeOf G _ (n := aN A) (by exact hh.1) h60 hc) vX1_treeOf lk_X6_79 rfl (by decide) rfl rfl (Nat.le_of_ble_eq_true rfl) (by decide) dX6_takeAsHead_29 ?_
    refine q_callV C (sp_X4_copy G _ (t := 152) (u := 10 + 2 * c) gTr_153 (gTr_c (show c < 60 by omega)) (by omega)) vX4_copy lk_X6_119 (gTr_153).1 (gTr_lt (gTr_153)) rfl rfl (Nat.le_of_ble_eq_true rfl) (by decide) dX6_takeAsHead_32 ?_
    refine j_aload_n C dX6_takeAsHead_35 rfl ?_
    refine q_get C fX6 2 rfl (by decide) (by decide) lf_X6_26 rfl rfl dX6_takeAsHead_36 ?_
    refine j_aload_n C dX6_takeAsHead_39 rfl ?_
    refine q_get C fX6 0 rfl (by decide) (by decide) lf_X6_10 rfl rfl dX6_takeAsHead_40 ?_
    refine q_callVS C (sp_X3_catchUpWith G _ (n := aN A) (by exact hh.1) h60 (aT A) (fun c _ => hA.2.2.2 c) (fun c hc => ro_n _ (ro_n _ (hh.2.2 c hc) (by omega)) (by omega)) (Nat.le_trans hj hk) (by exact hpf) (pq_n (pq_n hp0 (by decide)) (by decide))) vX3_catchUpWith lk_X6_239 rfl (by decide) rfl rfl (Nat.le_of_ble_eq_true rfl) (by decide) dX6_takeAsHead_43 (fun M2 hM2 => ?_)
    exact q_vretS C CM rfl (by decide) (by decide) dX6_takeAsHead_46 (rc_take hA h5 hh hb hcu hc hM2.1 ⟨hM2.2.2, aN A, Nat.le_refl _, rfl, hM2.2.1⟩)
