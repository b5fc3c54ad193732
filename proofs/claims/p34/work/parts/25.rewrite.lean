/-! merging and putting onto -/
def mtA (A : gSt0) (c o : Nat) : Nat → Option Nat := mgR (aT A ((bbO A c o).getD 0)) (aT A c) (aT A o)
def rmO (A : gSt0) (c o : Nat) : Option Nat := if mgA A c o = 0 then mkO A (mtA A c o) c (some o) else none
def rmA (A : gSt0) (c o : Nat) : gSt0 := if mgA A c o = 0 then mkA A (mtA A c o) c (some o) else A
theorem rm_none {A : gSt0} {c o : Nat} (h : rmO A c o = none) : rmA A c o = A := by
  unfold rmO at h
  unfold rmA
  by_cases e : mgA A c o = 0
  · rw [if_pos e] at h
    rw [if_pos e]
    exact mk_none h
  · exact if_neg e
theorem rm_ai {A : gSt0} {c o : Nat} (hA : gAi A) (hc : c < aN A) (ho : o < aN A) : gAi (rmA A c o) ∧ aN A ≤ aN (rmA A c o) ∧ ∀ x, rmO A c o = some x → x < aN (rmA A c o) := by
  unfold rmO rmA
  by_cases e : mgA A c o = 0
  · rw [if_pos e, if_pos e]
    exact mk_ai hA (mgR_tn (hA.2.2.2 _) (hA.2.2.2 _)) hc (fun q h => by cases h; exact ho)
  · rw [if_neg e, if_neg e]
    exact ⟨hA, Nat.le_refl _, fun x h => by cases h⟩
theorem rm_same (A : gSt0) (c o : Nat) : aH (rmA A c o) = aH A ∧ aC (rmA A c o) = aC A ∧ aW (rmA A c o) = aW A ∧ ∀ x, x < aN A → aT (rmA A c o) x = aT A x := by
  unfold rmA
  by_cases e : mgA A c o = 0
  · rw [if_pos e]; exact mk_same _ _ _ _
  · rw [if_neg e]; exact ⟨rfl, rfl, rfl, fun _ _ => rfl⟩
def oMerge (A : gSt0) (b : Int32) : gRes := match inB b 5 with
  | none => (1, 0, A)
  | some b => match aH A b with
    | none => (2, 0, A)
    | some t => if chgA A = 0 then (match anc (aF A) (aS A) (aHd A) t, anc (aF A) (aS A) t (aHd A) with
      | true, _ => (3, 0, A)
      | false, true => (0, nI t, takeA A t)
      | false, false => match rmO A (aHd A) t with
        | none => (4, 0, A)
        | some c => (0, nI c, takeA (rmA A (aHd A) t) c)) else (3, 0, A)
/-- first parents from h on -/
def chn (fp : Nat → Option Nat) (h : Nat) : Nat → Nat
  | 0 => h
  | i + 1 => (fp (chn fp h i)).getD 0
def chL (A : gSt0) (onto h : Nat) : Nat := (firstN (fun i => anc (aF A) (aS A) onto (chn (aF A) h i)) 60).getD 0
theorem chn_le {A : gSt0} (hA : gAi A) (h : Nat) : ∀ i, chn (aF A) h i = 0 ∨ chn (aF A) h i + i ≤ h := by
  intro i
  induction i with
  | zero => exact Or.inr (Nat.le_refl _)
  | succ i ih =>
    show (aF A (chn (aF A) h i)).getD 0 = 0 ∨ (aF A (chn (aF A) h i)).getD 0 + (i + 1) ≤ h
    cases e : aF A (chn (aF A) h i) with
    | none => exact Or.inl rfl
    | some p =>
      have h1 := hA.2.1.1 _ _ e
      show p = 0 ∨ p + (i + 1) ≤ h
      rcases ih with ih | ih
      · omega
      · exact Or.inr (by omega)
theorem chn_lt {A : gSt0} (hA : gAi A) {h : Nat} (hh : h < aN A) (i : Nat) : chn (aF A) h i < aN A := by
  have h1 := hA.1.1
  rcases chn_le hA h i with e | e <;> omega
theorem chL_ok {A : gSt0} (hA : gAi A) {onto h : Nat} (ho : onto < aN A) (hh : h < aN A) : chL A onto h < 60 ∧ anc (aF A) (aS A) onto (chn (aF A) h (chL A onto h)) = true ∧ ∀ i, i < chL A onto h → anc (aF A) (aS A) onto (chn (aF A) h i) = false := by
  have h60 := hA.1.2
  unfold chL
  cases e : firstN (fun i => anc (aF A) (aS A) onto (chn (aF A) h i)) 60 with
  | none =>
    exfalso
    have h1 := first_none.mp e h (by omega)
    have h2 : chn (aF A) h h = 0 := by rcases chn_le hA h h with q | q <;> omega
    have h1 : anc (aF A) (aS A) onto (chn (aF A) h h) = false := h1
    rw [h2, anc_root hA onto ho] at h1
    cases h1
  | some L => exact first_some.mp e
theorem chL_eq {A : gSt0} (hA : gAi A) {onto h i : Nat} (ho : onto < aN A) (hh : h < aN A) (h1 : anc (aF A) (aS A) onto (chn (aF A) h i) = true) (h2 : ∀ j, j < i → anc (aF A) (aS A) onto (chn (aF A) h j) = false) : chL A onto h = i := by
  obtain ⟨-, h3, h4⟩ := chL_ok hA ho hh
  by_cases c : chL A onto h < i
  · rw [h2 _ c] at h3; cases h3
  · by_cases c2 : i < chL A onto h
    · rw [h4 _ c2] at h1; cases h1
    · omega
/-- a commit that the other one hasn't has a first parent -/
theorem chn_par {A : gSt0} (hA : gAi A) {onto h i : Nat} (ho : onto < aN A) (hh : h < aN A) (h1 : anc (aF A) (aS A) onto (chn (aF A) h i) = false) : aF A (chn (aF A) h i) = some (chn (aF A) h (i + 1)) := by
  have h2 := chn_lt hA hh i
  have h3 : chn (aF A) h i ≠ 0 := fun e => by rw [e, anc_root hA onto ho] at h1; cases h1
  have h4 := hA.2.2.1 _ h2 (by omega)
  show _ = some ((aF A (chn (aF A) h i)).getD 0)
  cases e : aF A (chn (aF A) h i) with
  | none => rw [e] at h4; cases h4
  | some p => rfl
theorem ne_m1 {x : Nat} (h : x < 2 ^ 31) : ¬ nI x = -1 := fun e => by
  have := nI_pos h
  rw [e] at this
  exact this (by decide)
/-- one state goes on from another -/
def gExt (A B : gSt0) : Prop := aN A ≤ aN B ∧ (∀ c, c < aN A → aF B c = aF A c ∧ aS B c = aS A c ∧ aT B c = aT A c) ∧ aH B = aH A ∧ aC B = aC A ∧ aW B = aW A
theorem ext_refl (A : gSt0) : gExt A A := ⟨Nat.le_refl _, fun _ _ => ⟨rfl, rfl, rfl⟩, rfl, rfl, rfl⟩
theorem ext_trans {A B D : gSt0} (h : gExt A B) (h' : gExt B D) : gExt A D := ⟨Nat.le_trans h.1 h'.1, fun c hc => ⟨(h'.2.1 c (Nat.lt_of_lt_of_le hc h.1)).1.trans (h.2.1 c hc).1, (h'.2.1 c (Nat.lt_of_lt_of_le hc h.1)).2.1.trans (h.2.1 c hc).2.1, (h'.2.1 c (Nat.lt_of_lt_of_le hc h.1)).2.2.trans (h.2.1 c hc).2.2⟩, h'.2.2.1.trans h.2.2.1, h'.2.2.2.1.trans h.2.2.2.1, h'.2.2.2.2.trans h.2.2.2.2⟩
theorem ext_mk (A : gSt0) (t : Nat → Option Nat) (f : Nat) (s : Option Nat) : gExt A (mkA A t f s) := by
  rcases mk_cases A t f s with h1 | h1
  · rw [h1.1]; exact ext_refl A
  · rw [h1.1]
    exact ⟨Nat.le_succ _, fun c hc => ⟨uO_n _ _ (by omega), uO_n _ _ (by omega), if_neg (by omega)⟩, rfl, rfl, rfl⟩
theorem rh_ext {A B : gSt0} {M : gMem} (hA : gAi A) (hB : gAi B) (he : gExt A B) (h : gRh B M) : gRh A (sF M 1 7 (nI (aN A))) := by
  refine ⟨sF_at _ _ _ _, fun c hc => ?_, fun c hc p hp => ?_⟩
  · have h1 := h.2.1 c (Nat.lt_of_lt_of_le hc he.1)
    refine ⟨h1.1.trans (by rw [(he.2.1 c hc).1]), h1.2.1.trans (by rw [(he.2.1 c hc).2.1]), h1.2.2.1.trans ?_, fun x hx => (h1.2.2.2 x hx).trans ?_⟩
    · exact congrArg nI (gn_congr hB.2.1 hA.2.1 (n := aN A) (fun k hk => ⟨(he.2.1 k hk).1, (he.2.1 k hk).2.1⟩) c hc)
    · exact anc_congr hB.2.1 hA.2.1 (n := aN A) (fun k hk => ⟨(he.2.1 k hk).1, (he.2.1 k hk).2.1⟩) hc x
  · exact (h.2.2 c (Nat.lt_of_lt_of_le hc he.1) p hp).trans (by rw [(he.2.1 c hc).2.2])
theorem rp_ext {A B : gSt0} {M : gMem} (he : gExt A B) (h : gRp A (aN A) M) : gRp B (aN A) M := by
  have e : ∀ j, j ≤ aN A → pkN (aT B) j = pkN (aT A) j := fun j hj => pkN_congr (fun c hc => (he.2.1 c (Nat.lt_of_lt_of_le hc hj)).2.2)
  obtain ⟨h0, j, h1, h2, h3⟩ := h
  exact ⟨by rw [e _ (Nat.le_refl _)]; exact h0, j, h1, by rw [e _ h1, e _ (Nat.le_refl _)]; exact h2, h3⟩
/-- one commit is put onto l -/
def dfN (t u : Nat → Option Nat) : Nat := cntN (fun p => decide (¬ t p = u p)) 8
def apM (B : gSt0) (c l : Nat) : Nat := mgN (aT B ((aF B c).getD 0)) (aT B l) (aT B c)
def apT (B : gSt0) (c l : Nat) : Nat → Option Nat := mgR (aT B ((aF B c).getD 0)) (aT B l) (aT B c)
def ap1 (B : gSt0) (c l : Nat) : Option Nat × gSt0 := if apM B c l = 0 then (if dfN (apT B c l) (aT B l) = 0 then (some l, B) else (mkO B (apT B c l) l none, mkA B (apT B c l) l none)) else (none, B)
def apK (A : gSt0) (ch : Nat → Nat) (L onto : Nat) : Nat → Option Nat × gSt0
  | 0 => (some onto, A)
  | j + 1 => match apK A ch L onto j with
    | (none, B) => (none, B)
    | (some l, B) => ap1 B (ch (L - 1 - j)) l
theorem apK_n {A : gSt0} {ch : Nat → Nat} {L onto j : Nat} (h : (apK A ch L onto j).1 = none) : apK A ch L onto (j + 1) = apK A ch L onto j := by
  show (match apK A ch L onto j with | (none, B) => (none, B) | (some l, B) => ap1 B (ch (L - 1 - j)) l) = _
  generalize e : apK A ch L onto j = z at h ⊢
  obtain ⟨z1, z2⟩ := z
  cases h
  rfl
theorem apK_nn {A : gSt0} {ch : Nat → Nat} {L onto j : Nat} (h : (apK A ch L onto j).1 = none) : ∀ m, apK A ch L onto (j + m) = apK A ch L onto j := by
  intro m
  induction m with
  | zero => rfl
  | succ m ih =>
    show apK A ch L onto (j + m + 1) = _
    rw [apK_n (by rw [ih]; exact h), ih]
theorem apK_s {A : gSt0} {ch : Nat → Nat} {L onto j l : Nat} (h : (apK A ch L onto j).1 = some l) : apK A ch L onto (j + 1) = ap1 (apK A ch L onto j).2 (ch (L - 1 - j)) l := by
  show (match apK A ch L onto j with | (none, B) => (none, B) | (some l, B) => ap1 B (ch (L - 1 - j)) l) = _
  generalize e : apK A ch L onto j = z at h ⊢
  obtain ⟨z1, z2⟩ := z
  cases h
  rfl
theorem ap1_ok {B : gSt0} {c l : Nat} (hB : gAi B) (hl : l < aN B) : gAi (ap1 B c l).2 ∧ gExt B (ap1 B c l).2 ∧ ∀ x, (ap1 B c l).1 = some x → x < aN (ap1 B c l).2 := by
  unfold ap1
  by_cases e : apM B c l = 0
  · rw [if_pos e]
    by_cases e2 : dfN (apT B c l) (aT B l) = 0
    · rw [if_pos e2]
      exact ⟨hB, ext_refl B, fun x h => by cases h; exact hl⟩
    · rw [if_neg e2]
      have := mk_ai (t := apT B c l) (s := none) hB (mgR_tn (hB.2.2.2 _) (hB.2.2.2 _)) hl (fun q h => by cases h)
      exact ⟨this.1, ext_mk _ _ _ _, this.2.2⟩
  · rw [if_neg e]
    exact ⟨hB, ext_refl B, fun x h => by cases h⟩
theorem apK_ok {A : gSt0} {ch : Nat → Nat} {L onto : Nat} (hA : gAi A) (ho : onto < aN A) : ∀ j, gAi (apK A ch L onto j).2 ∧ gExt A (apK A ch L onto j).2 ∧ ∀ x, (apK A ch L onto j).1 = some x → x < aN (apK A ch L onto j).2 := by
  intro j
  induction j with
  | zero => exact ⟨hA, ext_refl A, fun x h => by cases h; exact ho⟩
  | succ j ih =>
    cases e : (apK A ch L onto j).1 with
    | none => rw [apK_n e]; exact ih
    | some l =>
      rw [apK_s e]
      have := ap1_ok (c := ch (L - 1 - j)) ih.1 (ih.2.2 l e)
      exact ⟨this.1, ext_trans ih.2.1 this.2.1, this.2.2⟩
def poR (A : gSt0) (onto : Nat) : Option Nat × gSt0 := apK A (chn (aF A) (aHd A)) (chL A onto (aHd A)) onto (chL A onto (aHd A))
def oPutOnto (A : gSt0) (b : Int32) : gRes := match inB b 5 with
  | none => (1, 0, A)
  | some b => match aH A b with
    | none => (2, 0, A)
    | some t => if chgA A = 0 then (match anc (aF A) (aS A) t (aHd A) with
      | true => (3, 0, A)
      | false => match (poR A t).1 with
        | none => (4, 0, A)
        | some l => (0, nI (chL A t (aHd A)), takeA (poR A t).2 l)) else (3, 0, A)
theorem scr_of {M M2 : gMem} {A : gSt0} (h : gScr M M2) : (gKb M M2 ∧ gKp M M2 ∧ gCls M M2) := ⟨h.2.1, h.2.2.1, h.2.2.2⟩
/-- only what belongs to commits differs, and scratch -/
def gHis (M M' : gMem) : Prop := gKb M M' ∧ gKp M M' ∧ gCls M M'
theorem his_refl (M : gMem) : gHis M M := ⟨(scr_refl M).2.1, (scr_refl M).2.2.1, (scr_refl M).2.2.2⟩
theorem his_scr {M M' : gMem} (h : gScr M M') : gHis M M' := ⟨h.2.1, h.2.2.1, h.2.2.2⟩
theorem his_trans {M M1 M2 : gMem} (h : gHis M M1) (h' : gHis M1 M2) : gHis M M2 := ⟨⟨fun o ho => (h'.1.1 o ho).trans (h.1.1 o ho), h'.1.2.trans h.1.2⟩, ⟨fun o ho => (h'.2.1.1 o ho).trans (h.2.1.1 o ho), h'.2.1.2.1.trans h.2.1.2.1, h'.2.1.2.2.1.trans h.2.1.2.2.1, h'.2.1.2.2.2.trans h.2.1.2.2.2⟩, cls_trans h.2.2 h'.2.2⟩
theorem his_17 (M : gMem) (v : Int32) : gHis M (sF M 1 7 v) := ⟨⟨fun _ _ => rfl, sF_ne _ _ (by decide)⟩, ⟨fun _ _ => rfl, rfl, sF_ne _ _ (by decide), sF_ne _ _ (by decide)⟩, cls_sF M 7 v (by decide)⟩
theorem df_of {B : gSt0} {M : gMem} {t : Nat → Option Nat} {l : Nat} (hB : gAi B) (hh : gRh B M) (hl : l < aN B) (ht : gTn t) (hr : gRo M 146 t) : cntN (fun p => decide (¬ M.1 146 p = M.1 (10 + 2 * l + 1) p)) 8 = dfN t (aT B l) := cnt_congr (fun p hp => by
  rw [hh.2.2 l hl p hp, hr p hp]
  exact decide_eq_decide.mpr (not_congr (oI_eq (nI_lt8 ht hp) (nI_lt8 (hB.2.2.2 _) hp))))
theorem gn_minl : Cond.methodLink RX6 247 Lib.Math.min.name ∈ gw := gw_t 637 (by decide +kernel) rfl
theorem gn_mins : Cond.static Lib.Math.min.name ∈ gw := gw_t 638 (by decide +kernel) rfl
theorem gn_minc : Cond.code Lib.Math.min.name Lib.Math.min.code 2 (some .int) ∈ gw := gw_t 639 (by decide +kernel) rfl
theorem sub_pI (n : Nat) : nI n - nI 1 = pI n := by
  cases n with
  | zero => decide
  | succ n => exact pk_sub (a := n + 1) (b := 1) (by omega)
theorem min_60 {L : Nat} (h : L ≤ 60) : (if nI 60 < nI L then nI 60 else nI L) = nI L := if_neg (nI_nlt h (by decide))
theorem mg_lt (t u v : Nat → Option Nat) : mgN t u v < 2 ^ 31 := by
  unfold mgN
  have h1 := cnt_le (flC t u v) 8
  have h2 := cnt_le (fun q => decide (1 < arN t u v 8 8 8 q)) 8
  omega
theorem df_lt (t u : Nat → Option Nat) : dfN t u < 2 ^ 31 := Nat.lt_of_le_of_lt (cnt_le _ 8) (by decide)
theorem ap1_0 {B : gSt0} {c l : Nat} (h : apM B c l = 0) (h2 : dfN (apT B c l) (aT B l) = 0) : ap1 B c l = (some l, B) := by unfold ap1; rw [if_pos h, if_pos h2]
theorem ap1_1 {B : gSt0} {c l : Nat} (h : apM B c l = 0) (h2 : 0 < dfN (apT B c l) (aT B l)) : ap1 B c l = (mkO B (apT B c l) l none, mkA B (apT B c l) l none) := by unfold ap1; rw [if_pos h, if_neg (by omega)]
theorem ap1_2 {B : gSt0} {c l : Nat} (h : 0 < apM B c l) : ap1 B c l = (none, B) := by unfold ap1; rw [if_neg (by omega)]
theorem apK_stop {A : gSt0} {ch : Nat → Nat} {L onto j : Nat} (hj : j ≤ L) (h : (apK A ch L onto j).1 = none) : apK A ch L onto L = apK A ch L onto j := by
  have := apK_nn h (L - j)
  rwa [show j + (L - j) = L by omega] at this
theorem ext_rm (A : gSt0) (c o : Nat) : gExt A (rmA A c o) := by
  unfold rmA
  by_cases e : mgA A c o = 0
  · rw [if_pos e]; exact ext_mk _ _ _ _
  · rw [if_neg e]; exact ext_refl A
theorem oI_gD {o : Option Nat} (h : o.isSome = true) : oI o = nI (o.getD 0) := by
  cases o with
  | none => cases h
  | some v => rfl
theorem gD_lt {A : gSt0} (hA : gAi A) {c : Nat} (hc : c < aN A) : (aF A c).getD 0 < aN A := by
  cases e : aF A c with
  | none => exact hA.1.1
  | some p => have := hA.2.1.1 _ _ e; show p < aN A; omega
set_option maxHeartbeats 4000000 in
set_option maxRecDepth 100000 in
theorem sp_X6_recordMerge (G : gG) (M : gMem) {A : gSt0} (hA : gAi A) (hh : gRh A M) {c o : Nat} (hc : c < aN A) (ho : o < aN A) : SpS G mX6_recordMerge (gRm 5 0) [.ref (gb G + 0), .int (nI c), .int (nI o)] M (some (.int (oI (rmO A c o)))) (fun M2 => gRh (rmA A c o) M2 ∧ gHis M M2) := by
  refine Sp.of (by decide +kernel) (Nat.le_of_ble_eq_true rfl) (fun X C CM => ?_)
  have C : gC G X RX6 cX6_recordMerge 3 (gRm 5 0) := C
  refine j_aload_n C dX6_recordMerge_0 rfl ?_
  refine q_get C fX6 1 rfl (by decide) (by decide) lf_X6_19 rfl rfl dX6_recordMerge_1 ?_
  refine j_aload_n C dX6_recordMerge_4 rfl ?_
  refine q_get C fX6 0 rfl (by decide) (by decide) lf_X6_10 rfl rfl dX6_recordMerge_5 ?_
  refine j_aload_n C dX6_recordMerge_8 rfl ?_
  refine q_get C fX6 0 rfl (by decide) (by decide) lf_X6_10 rfl rfl dX6_recordMerge_9 ?_
  refine j_iload_n C dX6_recordMerge_12 rfl ?_
  refine j_iload_n C dX6_recordMerge_13 rfl ?_
  refine q_callV C (sp_X1_bestBase G M hh.1 hA.1.2 hc ho) vX1_bestBase lk_X6_174 rfl (by decide) rfl rfl (Nat.le_of_ble_eq_true rfl) (by decide) dX6_recordMerge_14 ?_
  have hb := bb_some hA hc ho
  rw [base_of hA hh hc ho, hb.1, show oI (some ((bbO A c o).getD 0)) = nI ((bbO A c o).getD 0) from rfl]
  refine j_iload_n C dX6_recordMerge_17 rfl ?_
  refine j_iload_n C dX6_recordMerge_18 rfl ?_
  refine q_callVS C (sp_X5_run G M hh.1 hA.1.2 (hA.2.2.2 _) (hA.2.2.2 c) (hA.2.2.2 o) hb.2 hc ho (hh.2.2 _ hb.2) (hh.2.2 c hc) (hh.2.2 o ho)) vX5_run lk_X6_189 rfl (by decide) rfl rfl (Nat.le_of_ble_eq_true rfl) (by decide) dX6_recordMerge_19 (fun M2 hM2 => ?_)
  have hM2s := scr_sd hM2.1
  rw [show mgN (aT A ((bbO A c o).getD 0)) (aT A c) (aT A o) = mgA A c o from rfl]
  refine q_ifz_le C 27 dX6_recordMerge_22 (by decide) (mg_lt _ _ _) (fun h22 => ?_) (fun h22 => ?_)
  · refine j_aload_n C dX6_recordMerge_27 rfl ?_
    refine q_get C fX6 0 rfl (by decide) (by decide) lf_X6_10 rfl rfl dX6_recordMerge_28 ?_
    refine j_aload_n C dX6_recordMerge_31 rfl ?_
    refine q_get C fX6 1 rfl (by decide) (by decide) lf_X6_19 rfl rfl dX6_recordMerge_32 ?_
    refine q_callV C (sp_X5_merged G M2) vX5_merged lk_X6_243 rfl (by decide) rfl rfl (Nat.le_of_ble_eq_true rfl) (by decide) dX6_recordMerge_35 ?_
    refine j_iload_n C dX6_recordMerge_38 rfl ?_
    refine j_iload_n C dX6_recordMerge_39 rfl ?_
    refine q_callVS C (sp_record G M2 (a := 145) (s := some o) hA (rh_k hA hh hM2s.1) gTr_145 (by decide) (hM2.2 h22) (mgR_tn (hA.2.2.2 _) (hA.2.2.2 _)) hc (fun q h => by cases h; exact ho)) vX1_record lk_X6_93 rfl (by decide) rfl rfl (Nat.le_of_ble_eq_true rfl) (by decide) dX6_recordMerge_40 (fun M3 hM3 => ?_)
    exact q_iretS C CM rfl (by decide) (by decide) dX6_recordMerge_43 (by rw [show rmO A c o = _ from if_pos h22]; rfl) ⟨by rw [show rmA A c o = _ from if_pos h22]; exact hM3.1, his_trans (his_scr hM2s) hM3.2⟩
  · refine j_iconst C (v := -1) dX6_recordMerge_25 rfl ?_
    exact q_iretS C CM rfl (by decide) (by decide) dX6_recordMerge_26 (by rw [show rmO A c o = none from if_neg (by omega)]; rfl) ⟨by rw [show rmA A c o = A from if_neg (by omega)]; exact rh_k hA hh hM2s.1, his_scr hM2s⟩
set_option maxHeartbeats 4000000 in
set_option maxRecDepth 100000 in
theorem sp_X6_listCommitsNotIn (G : gG) (M : gMem) {A : gSt0} (hA : gAi A) (hh : gRh A M) {t h : Nat} (ht : t < aN A) (hh2 : h < aN A) : SpS G mX6_listCommitsNotIn (gRm 3 0) [.ref (gb G + 0), .int (nI t), .int (nI h)] M (some (.int (nI (chL A t h)))) (fun M2 => ∃ f, M2 = sI M 155 f ∧ ∀ i, i < chL A t h → f i = nI (chn (aF A) h i)) := by
  refine Sp.of (by decide +kernel) (Nat.le_of_ble_eq_true rfl) (fun X C CM => ?_)
  have C : gC G X RX6 cX6_listCommitsNotIn 5 (gRm 3 0) := C
  have h60 := hA.1.2
  refine j_iconst C (v := nI 0) dX6_listCommitsNotIn_0 rfl ?_
  refine j_istore_n C dX6_listCommitsNotIn_1 (by decide) rfl ?_
  refine j_iload_n C dX6_listCommitsNotIn_2 rfl ?_
  refine j_istore C dX6_listCommitsNotIn_3 (by decide) rfl ?_
  have K5 : ∀ i, i ≤ 60 → ∀ f, (∀ j, j < i → f j = nI (chn (aF A) h j)) → (∀ j, j < i → anc (aF A) (aS A) t (chn (aF A) h j) = false) → Q G X 0 0 5 [some (.ref (gb G + 0)), some (.int (nI t)), some (.int (nI h)), some (.int (nI i)), some (.int (nI (chn (aF A) h i)))] [] (sI M 155 f) := by
    refine g_up _ _ (fun i hi ih => ?_)
    intro f hf hn
    refine j_iload_n C dX6_listCommitsNotIn_5 rfl ?_
    refine j_aload_n C dX6_listCommitsNotIn_6 rfl ?_
    refine q_get C fX6 5 rfl (by decide) (by decide) lf_X6_41 rfl rfl dX6_listCommitsNotIn_7 ?_
    refine q_alen C rfl (by decide) dX6_listCommitsNotIn_10 ?_
    refine q_icmp_ge C 58 dX6_listCommitsNotIn_11 (by decide) (by omega) (by omega) (fun h11 => ?_) (fun h11 => ?_)
    · exact absurd (chL_ok hA ht hh2).2.1 (by rw [hn _ (by have := (chL_ok hA ht hh2).1; omega)]; decide)
    · refine j_iload C dX6_listCommitsNotIn_14 rfl ?_
      refine j_iconst C (v := -1) dX6_listCommitsNotIn_16 rfl ?_
      refine j_icmp_eq C 58 dX6_listCommitsNotIn_17 (fun h => absurd h (ne_m1 (by have := chn_lt hA hh2 i; omega))) (fun _ => ?_) (by decide)
      refine j_aload_n C dX6_listCommitsNotIn_20 rfl ?_
      refine q_get C fX6 0 rfl (by decide) (by decide) lf_X6_10 rfl rfl dX6_listCommitsNotIn_21 ?_
      refine j_iload_n C dX6_listCommitsNotIn_24 rfl ?_
      refine j_iload C dX6_listCommitsNotIn_25 rfl ?_
      refine q_callV C (sp_X1_contains G _ (n := aN A) (by exact hh.1) h60 ht (chn_lt hA hh2 i)) vX1_contains lk_X6_126 rfl (by decide) rfl rfl (Nat.le_of_ble_eq_true rfl) (by decide) dX6_listCommitsNotIn_27 ?_
      rw [show tb ((sI M 155 f).2.1 8 t) (chn (aF A) h i) = anc (aF A) (aS A) t (chn (aF A) h i) from (hh.2.1 t ht).2.2.2 _ (by have := chn_lt hA hh2 i; omega)]
      refine q_if_ne0 C 58 dX6_listCommitsNotIn_30 (by decide) (fun h30 => ?_) (fun h30 => ?_)
      · refine j_iload_n C dX6_listCommitsNotIn_58 rfl ?_
        exact q_iretS C CM rfl (by decide) (by decide) dX6_listCommitsNotIn_59 (by rw [chL_eq hA ht hh2 h30 hn]) ⟨f, rfl, by rw [chL_eq hA ht hh2 h30 hn]; exact hf⟩
      · refine j_aload_n C dX6_listCommitsNotIn_33 rfl ?_
        refine q_get C fX6 5 rfl (by decide) (by decide) lf_X6_41 rfl rfl dX6_listCommitsNotIn_34 ?_
        refine j_iload_n C dX6_listCommitsNotIn_37 rfl ?_
        refine j_iload C dX6_listCommitsNotIn_38 rfl ?_
        refine q_iast C rfl (by decide) (by decide) (by omega) dX6_listCommitsNotIn_40 ?_
        refine q_iinc C dX6_listCommitsNotIn_41 rfl (by decide) rfl ?_
        refine j_aload_n C dX6_listCommitsNotIn_44 rfl ?_
        refine q_get C fX6 0 rfl (by decide) (by decide) lf_X6_10 rfl rfl dX6_listCommitsNotIn_45 ?_
        refine j_iload C dX6_listCommitsNotIn_48 rfl ?_
        refine q_callV C (sp_X1_firstParent G _ (n := aN A) (by exact hh.1) h60 (chn_lt hA hh2 i)) vX1_firstParent lk_X6_157 rfl (by decide) rfl rfl (Nat.le_of_ble_eq_true rfl) (by decide) dX6_listCommitsNotIn_50 ?_
        rw [show (sI (sI M 155 f) 155 (upd ((sI M 155 f).1 155) i (nI (chn (aF A) h i)))).1 5 (chn (aF A) h i) = nI (chn (aF A) h (i + 1)) from (hh.2.1 _ (chn_lt hA hh2 i)).1.trans (by rw [chn_par hA ht hh2 h30]; rfl)]
        refine j_istore C dX6_listCommitsNotIn_53 (by decide) rfl ?_
        refine j_goto C 5 dX6_listCommitsNotIn_55 ?_ (by decide)
        exact q_cast (ih (by omega) (upd f i (nI (chn (aF A) h i))) (fun j hj => if e : j = i then (by rw [e, upd_s]) else (by rw [upd_n _ _ e]; exact hf j (by omega))) (fun j hj => if e : j = i then (by rw [e]; exact h30) else hn j (by omega))) (gLe_c rfl (gLe_c rfl (gLe_c rfl (gLe_c rfl (gLe_c rfl gLe_0))))) (by rw [sI_sI, sI_s])
  exact q_cast (K5 0 (by omega) (M.1 155) (fun j hj => absurd hj (by omega)) (fun j hj => absurd hj (by omega))) (gLe_c rfl (gLe_c rfl (gLe_c rfl (gLe_c rfl (gLe_c rfl gLe_0))))) (by rw [sI_id])
set_option maxHeartbeats 4000000 in
set_option maxRecDepth 100000 in
theorem sp_X6_applyListed (G : gG) (M : gMem) {A : gSt0} (hA : gAi A) (hh : gRh A M) {ch : Nat → Nat} {L onto : Nat} (hL : L ≤ 60) (ho : onto < aN A) (hch : ∀ i, i < L → ch i < aN A ∧ (aF A (ch i)).isSome = true) (hw : ∀ i, i < L → M.1 155 i = nI (ch i)) : SpS G mX6_applyListed (gRm 5 0) [.ref (gb G + 0), .int (nI L), .int (nI onto)] M (some (.int (oI (apK A ch L onto L).1))) (fun M2 => gRh (apK A ch L onto L).2 M2 ∧ gHis M M2) := by
  refine Sp.of (by decide +kernel) (Nat.le_of_ble_eq_true rfl) (fun X C CM => ?_)
  have C : gC G X RX6 cX6_applyListed 6 (gRm 5 0) := C
  refine j_iload_n C dX6_applyListed_0 rfl ?_
  refine j_istore_n C dX6_applyListed_1 (by decide) rfl ?_
  refine j_iload_n C dX6_applyListed_2 rfl ?_
  refine j_aload_n C dX6_applyListed_3 rfl ?_
  refine q_get C fX6 5 rfl (by decide) (by decide) lf_X6_41 rfl rfl dX6_applyListed_4 ?_
  refine q_alen C rfl (by decide) dX6_applyListed_7 ?_
  refine q_mmin C gn_minl gn_mins gj_maxi gn_minc (by decide) (by decide) (Nat.le_of_ble_eq_true rfl) (by decide) (by decide) dX6_applyListed_8 ?_
  rw [min_60 hL]
  refine j_iconst C (v := nI 1) dX6_applyListed_11 rfl ?_
  refine j_isub C dX6_applyListed_12 ?_
  rw [sub_pI]
  refine j_istore C dX6_applyListed_13 (by decide) rfl ?_
  have K15 : ∀ i, i ≤ L → ∀ M2, gRh (apK A ch L onto (L - i)).2 M2 → gHis M M2 → (∀ j, j < L → M2.1 155 j = nI (ch j)) → Q G X 0 0 15 [some (.ref (gb G + 0)), some (.int (nI L)), some (.int (nI onto)), some (.int (oI (apK A ch L onto (L - i)).1)), some (.int (pI i)), none] [] (M2) := by
    refine g_dn _ ?_ (fun i ih => ?_)
    · intro hi
      intro M2 r2 k2 w2
      refine j_iload C dX6_applyListed_15 rfl ?_
      refine j_if_lt C 106 dX6_applyListed_17 (fun _ => ?_) (fun h => absurd (by decide) h) (by decide)
      refine j_iload_n C dX6_applyListed_106 rfl ?_
      exact q_iretS C CM rfl (by decide) (by decide) dX6_applyListed_107 (by first | rw [apK_stop (Nat.sub_le L (i + 1)) h22] | rfl) ⟨by first | (rw [apK_stop (Nat.sub_le L (i + 1)) h22]; exact r2) | exact r2, k2⟩
    · intro hi
      intro M2 r2 k2 w2
      refine q_cast (lv' := [some (.ref (gb G + 0)), some (.int (nI L)), some (.int (nI onto)), some (.int (oI (apK A ch L onto (L - (i + 1))).1)), some (.int (nI i)), none]) ?_ (gLe_c rfl (gLe_c rfl (gLe_c rfl (gLe_c rfl (gLe_c rfl (gLe_n gLe_0)))))) rfl
      refine j_iload C dX6_applyListed_15 rfl ?_
      refine j_if_lt C 106 dX6_applyListed_17 (fun h => absurd h (nI_pos (by omega))) (fun _ => ?_) (by decide)
      have hB := apK_ok (ch := ch) (L := L) hA ho (L - (i + 1))
      refine j_iload_n C dX6_applyListed_20 rfl ?_
      refine j_iconst C (v := -1) dX6_applyListed_21 rfl ?_
      refine q_icmp_eqN C 106 dX6_applyListed_22 (by decide) (fun v hv => by have h1 := hB.2.2 v hv; have h2 := hB.1.1.2; omega) (fun h22 => ?_) (fun v22 h22 => ?_)
      · refine j_iload_n C dX6_applyListed_106 rfl ?_
        exact q_iretS C CM rfl (by decide) (by decide) dX6_applyListed_107 (by first | rw [apK_stop (Nat.sub_le L (i + 1)) h22] | rfl) ⟨by first | (rw [apK_stop (Nat.sub_le L (i + 1)) h22]; exact r2) | exact r2, k2⟩
      · rw [h22, show oI (some v22) = nI v22 from rfl]
        refine j_aload_n C dX6_applyListed_25 rfl ?_
        refine q_get C fX6 5 rfl (by decide) (by decide) lf_X6_41 rfl rfl dX6_applyListed_26 ?_
        refine j_iload C dX6_applyListed_29 rfl ?_
        refine q_iald C rfl (by decide) (by decide) (by omega) dX6_applyListed_31 ?_
        rw [w2 i (by omega)]
        have hl := hB.2.2 v22 h22
        have hci := Nat.lt_of_lt_of_le (hch i (by omega)).1 hB.2.1.1
        have hp : (aF (apK A ch L onto (L - (i + 1))).2 (ch i)).isSome = true := by rw [(hB.2.1.2.1 _ (hch i (by omega)).1).1]; exact (hch i (by omega)).2
        have hpl := gD_lt hB.1 hci
        have hst : apK A ch L onto (L - i) = ap1 (apK A ch L onto (L - (i + 1))).2 (ch i) v22 := by have := apK_s h22; rw [show L - (i + 1) + 1 = L - i by omega, show L - 1 - (L - (i + 1)) = i by omega] at this; exact this
        refine j_istore C dX6_applyListed_32 (by decide) rfl ?_
        refine j_aload_n C dX6_applyListed_34 rfl ?_
        refine q_get C fX6 1 rfl (by decide) (by decide) lf_X6_19 rfl rfl dX6_applyListed_35 ?_
        refine j_aload_n C dX6_applyListed_38 rfl ?_
        refine q_get C fX6 0 rfl (by decide) (by decide) lf_X6_10 rfl rfl dX6_applyListed_39 ?_
        refine j_aload_n C dX6_applyListed_42 rfl ?_
        refine q_get C fX6 0 rfl (by decide) (by decide) lf_X6_10 rfl rfl dX6_applyListed_43 ?_
        refine j_iload C dX6_applyListed_46 rfl ?_
        refine q_callV C (sp_X1_firstParent G M2 r2.1 hB.1.1.2 (Nat.lt_of_lt_of_le (hch i (by omega)).1 hB.2.1.1)) vX1_firstParent lk_X6_157 rfl (by decide) rfl rfl (Nat.le_of_ble_eq_true rfl) (by decide) dX6_applyListed_48 ?_
        rw [(r2.2.1 _ (Nat.lt_of_lt_of_le (hch i (by omega)).1 hB.2.1.1)).1, oI_gD hp]
        refine j_iload_n C dX6_applyListed_51 rfl ?_
        refine j_iload C dX6_applyListed_52 rfl ?_
        refine q_callVS C (sp_X5_run G M2 r2.1 hB.1.1.2 (hB.1.2.2.2 _) (hB.1.2.2.2 v22) (hB.1.2.2.2 (ch i)) hpl hl hci (r2.2.2 _ hpl) (r2.2.2 _ hl) (r2.2.2 _ hci)) vX5_run lk_X6_189 rfl (by decide) rfl rfl (Nat.le_of_ble_eq_true rfl) (by decide) dX6_applyListed_54 (fun M3 hM3 => ?_)
        have hM3s := scr_sd hM3.1
        have hM3r := rh_k hB.1 r2 hM3s.1
        rw [show mgN (aT (apK A ch L onto (L - (i + 1))).2 ((aF (apK A ch L onto (L - (i + 1))).2 (ch i)).getD 0)) (aT (apK A ch L onto (L - (i + 1))).2 v22) (aT (apK A ch L onto (L - (i + 1))).2 (ch i)) = apM (apK A ch L onto (L - (i + 1))).2 (ch i) v22 from rfl]
        refine q_ifz_le C 62 dX6_applyListed_57 (by decide) (mg_lt _ _ _) (fun h57 => ?_) (fun h57 => ?_)
        · refine j_aload_n C dX6_applyListed_62 rfl ?_
          refine q_get C fX6 1 rfl (by decide) (by decide) lf_X6_19 rfl rfl dX6_applyListed_63 ?_
          refine q_callV C (sp_X5_merged G M3) vX5_merged lk_X6_243 rfl (by decide) rfl rfl (Nat.le_of_ble_eq_true rfl) (by decide) dX6_applyListed_66 ?_
          refine j_aload_n C dX6_applyListed_69 rfl ?_
          refine q_get C fX6 0 rfl (by decide) (by decide) lf_X6_10 rfl rfl dX6_applyListed_70 ?_
          refine j_iload_n C dX6_applyListed_73 rfl ?_
          refine q_callV C (sp_X1_treeOf G M3 hM3r.1 hB.1.1.2 hl) vX1_treeOf lk_X6_79 rfl (by decide) rfl rfl (Nat.le_of_ble_eq_true rfl) (by decide) dX6_applyListed_74 ?_
          refine q_callV C (sp_X4_differences G M3 gTr_145 (gTr_c (Nat.lt_of_lt_of_le hl hB.1.1.2))) vX4_differences lk_X6_83 (gTr_145).1 (gTr_lt (gTr_145)) rfl rfl (Nat.le_of_ble_eq_true rfl) (by decide) dX6_applyListed_77 ?_
          have htn : gTn (apT (apK A ch L onto (L - (i + 1))).2 (ch i) v22) := mgR_tn (hB.1.2.2.2 _) (hB.1.2.2.2 _)
          rw [df_of hB.1 hM3r hl htn (hM3.2 h57)]
          refine q_ifz_le C 100 dX6_applyListed_80 (by decide) (df_lt _ _) (fun h80 => ?_) (fun h80 => ?_)
          · refine j_iinc C dX6_applyListed_100 rfl (by decide) rfl ?_
            refine j_goto C 15 dX6_applyListed_103 ?_ (by decide)
            exact q_cast (ih (by omega) _ (by first | (rw [hst, ap1_0 h57 h80]; exact hM3r) | (rw [hst, ap1_1 h57 h80]; exact hM4.1)) (by first | exact his_trans k2 (his_trans (his_scr hM3s) ⟨hM4.2.1, hM4.2.2.1, hM4.2.2.2.1⟩) | exact his_trans k2 (his_scr hM3s)) (fun j hj => by first | (rw [hM4.2.2.2.2, hM3.1.2.2.2 155 (by decide)]; exact w2 j hj) | (rw [hM3.1.2.2.2 155 (by decide)]; exact w2 j hj))) (gLe_c rfl (gLe_c rfl (gLe_c rfl (gLe_c (by first | (rw [hst, ap1_0 h57 h80]; rfl) | (rw [hst, ap1_1 h57 h80]; rfl)) (gLe_c (by rw [pI_dec]) (gLe_n gLe_0)))))) (rfl)
          · refine j_aload_n C dX6_applyListed_83 rfl ?_
            refine q_get C fX6 0 rfl (by decide) (by decide) lf_X6_10 rfl rfl dX6_applyListed_84 ?_
            refine j_aload_n C dX6_applyListed_87 rfl ?_
            refine q_get C fX6 1 rfl (by decide) (by decide) lf_X6_19 rfl rfl dX6_applyListed_88 ?_
            refine q_callV C (sp_X5_merged G M3) vX5_merged lk_X6_243 rfl (by decide) rfl rfl (Nat.le_of_ble_eq_true rfl) (by decide) dX6_applyListed_91 ?_
            refine j_iload_n C dX6_applyListed_94 rfl ?_
            refine j_iconst C (v := -1) dX6_applyListed_95 rfl ?_
            refine q_callVS C (sp_recordW G M3 (a := 145) (s := none) hB.1 hM3r gTr_145 (by decide) (hM3.2 h57) htn hl (fun q h => by cases h)) vX1_record lk_X6_93 rfl (by decide) rfl rfl (Nat.le_of_ble_eq_true rfl) (by decide) dX6_applyListed_96 (fun M4 hM4 => ?_)
            refine j_istore_n C dX6_applyListed_99 (by decide) rfl ?_
            refine j_iinc C dX6_applyListed_100 rfl (by decide) rfl ?_
            refine j_goto C 15 dX6_applyListed_103 ?_ (by decide)
            exact q_cast (ih (by omega) _ (by first | (rw [hst, ap1_0 h57 h80]; exact hM3r) | (rw [hst, ap1_1 h57 h80]; exact hM4.1)) (by first | exact his_trans k2 (his_trans (his_scr hM3s) ⟨hM4.2.1, hM4.2.2.1, hM4.2.2.2.1⟩) | exact his_trans k2 (his_scr hM3s)) (fun j hj => by first | (rw [hM4.2.2.2.2, hM3.1.2.2.2 155 (by decide)]; exact w2 j hj) | (rw [hM3.1.2.2.2 155 (by decide)]; exact w2 j hj))) (gLe_c rfl (gLe_c rfl (gLe_c rfl (gLe_c (by first | (rw [hst, ap1_0 h57 h80]; rfl) | (rw [hst, ap1_1 h57 h80]; rfl)) (gLe_c (by rw [pI_dec]) (gLe_n gLe_0)))))) (rfl)
        · refine j_iconst C (v := -1) dX6_applyListed_60 rfl ?_
          exact q_iretS C CM rfl (by decide) (by decide) dX6_applyListed_61 (by rw [apK_stop (Nat.sub_le L i) (by rw [hst, ap1_2 h57]), hst, ap1_2 h57]; rfl) ⟨by rw [apK_stop (Nat.sub_le L i) (by rw [hst, ap1_2 h57]), hst, ap1_2 h57]; exact hM3r, his_trans k2 (his_scr hM3s)⟩
  exact q_cast (K15 L (by omega) _ (by rw [Nat.sub_self]; exact hh) (his_refl M) hw) (gLe_c rfl (gLe_c rfl (gLe_c rfl (gLe_c (by rw [Nat.sub_self]; rfl) (gLe_c rfl (gLe_n gLe_0)))))) (rfl)
set_option maxHeartbeats 4000000 in
set_option maxRecDepth 100000 in
theorem sp_X6_merge (G : gG) (M : gMem) {A : gSt0} (hA : gAi A) (hB : gAb A) (hC : gRC A M) (x : Int32) : SpO G mX6_merge (gRm 6 3) [.ref (gb G + 0), .int x] M (gPost ["java/lang/IndexOutOfBoundsException", "java/util/NoSuchElementException", "java/lang/IllegalStateException", "java/lang/UnsupportedOperationException"] (oMerge A x) M) := by
  refine Sp.of (by decide +kernel) (Nat.le_of_ble_eq_true rfl) (fun X C CM => ?_)
  have C : gC G X RX6 cX6_merge 5 (gRm 6 3) := C
  refine j_aload_n C dX6_merge_0 rfl ?_
  refine j_iload_n C dX6_merge_1 rfl ?_
  refine q_callVO C CM rfl (sp_X6_requireHead G M hA hB hC.2.1 x) vX6_requireHead lk_X6_113 rfl (by decide) rfl rfl (Nat.le_of_ble_eq_true rfl) (by decide) (by decide) (by decide) dX6_merge_2 (fun w2 M2 w => ?_) (fun E M2 w => by obtain ⟨rfl, ⟨h0, rfl⟩ | ⟨b, hb, h0, rfl⟩⟩ := rqh_x w <;> first | exact post_no (k := 0) (by simp only [oMerge, h0]) rfl hC (cls_refl _) | exact post_no (k := 1) (by simp only [oMerge, hb, h0]) rfl hC (cls_refl _))
  obtain ⟨rfl, b, h, hb, hb5, rfl, hh, rfl⟩ := rqh_v w
  have hhn := hB.2.1 b h hb5 hh
  refine j_istore_n C dX6_merge_5 (by decide) rfl ?_
  refine j_aload_n C dX6_merge_6 rfl ?_
  refine q_callVO C CM rfl (sp_X6_requireNoChanges G M hA hB hC.1 hC.2.1) vX6_requireNoChanges lk_X6_116 rfl (by decide) rfl rfl (Nat.le_of_ble_eq_true rfl) (by decide) (by decide) (by decide) dX6_merge_7 (fun w7 M7 w => ?_) (fun E M7 w => by obtain ⟨rfl, h0, rfl⟩ := rqn_x w; exact post_no (k := 2) (by simp only [oMerge, hb, hh, h0, if_false]) rfl hC (cls_refl _))
  obtain ⟨rfl, hz, rfl⟩ := rqn_v w
  refine j_aload_n C dX6_merge_10 rfl ?_
  refine j_aload_n C dX6_merge_11 rfl ?_
  refine q_get C fX6 6 rfl (by decide) (by decide) lf_X6_44 rfl rfl dX6_merge_12 ?_
  rw [hC.2.1.2.1]
  refine q_callV C (sp_X6_headOf G M hC.2.1 hB.1) vX6_headOf lk_X6_76 rfl (by decide) rfl rfl (Nat.le_of_ble_eq_true rfl) (by decide) dX6_merge_15 ?_
  have hd := ab_hd hB
  have h60 := hA.1.2
  rw [hd.1, show oI (some (aHd A)) = nI (aHd A) from rfl]
  refine j_istore_n C dX6_merge_18 (by decide) rfl ?_
  refine j_aload_n C dX6_merge_19 rfl ?_
  refine q_get C fX6 0 rfl (by decide) (by decide) lf_X6_10 rfl rfl dX6_merge_20 ?_
  refine j_iload_n C dX6_merge_23 rfl ?_
  refine j_iload_n C dX6_merge_24 rfl ?_
  refine q_callV C (sp_X1_contains G M hC.1.1 hA.1.2 hd.2 hhn) vX1_contains lk_X6_126 rfl (by decide) rfl rfl (Nat.le_of_ble_eq_true rfl) (by decide) dX6_merge_25 ?_
  rw [(hC.1.2.1 _ hd.2).2.2.2 h (by omega)]
  refine q_if_eq0 C 41 dX6_merge_28 (by decide) (fun h28 => ?_) (fun h28 => ?_)
  · refine j_aload_n C dX6_merge_41 rfl ?_
    refine q_get C fX6 0 rfl (by decide) (by decide) lf_X6_10 rfl rfl dX6_merge_42 ?_
    refine j_iload_n C dX6_merge_45 rfl ?_
    refine j_iload_n C dX6_merge_46 rfl ?_
    refine q_callV C (sp_X1_contains G M hC.1.1 hA.1.2 hhn hd.2) vX1_contains lk_X6_126 rfl (by decide) rfl rfl (Nat.le_of_ble_eq_true rfl) (by decide) dX6_merge_47 ?_
    rw [(hC.1.2.1 h hhn).2.2.2 _ (by omega)]
    refine q_if_eq0 C 57 dX6_merge_50 (by decide) (fun h50 => ?_) (fun h50 => ?_)
    · refine j_aload_n C dX6_merge_57 rfl ?_
      refine j_iload_n C dX6_merge_58 rfl ?_
      refine j_iload_n C dX6_merge_59 rfl ?_
      refine q_callVS C (sp_X6_recordMerge G M hA hC.1 hd.2 hhn) vX6_recordMerge lk_X6_132 rfl (by decide) rfl rfl (Nat.le_of_ble_eq_true rfl) (by decide) dX6_merge_60 (fun M2 hM2 => ?_)
      have hk := rm_ai hA hd.2 hhn
      have K63 : ∀ (B : gSt0) (o : Option Nat) (M2 : gMem), gAi B → gExt A B → (∀ v, o = some v → v < aN B) → gRh B M2 → gHis M M2 → (o = none → B = A) → oMerge A (nI b) = (match o with | none => (4, 0, A) | some c => (0, nI c, takeA B c)) → Q G X 2 16 63 [some (.ref (gb G + 0)), some (.int (nI b)), some (.int (nI h)), some (.int (nI (aHd A))), none] [.int (oI o)] M2 := by
        intro B o M2 hBi he hlt hr hH hnn hres
        refine j_istore C dX6_merge_63 (by decide) rfl ?_
        refine j_iload C dX6_merge_65 rfl ?_
        refine j_iconst C (v := -1) dX6_merge_67 rfl ?_
        refine q_icmp_neN C 81 dX6_merge_68 (by decide) (fun v hv => by have h1 := hlt v hv; have h2 := hBi.1.2; omega) (fun v68 h68 => ?_) (fun h68 => ?_)
        · rw [h68, show oI (some v68) = nI v68 from rfl]
          refine j_aload_n C dX6_merge_81 rfl ?_
          refine j_iload C dX6_merge_82 rfl ?_
          refine q_callVS C (sp_X6_takeAsHead G M2 (A := B) hBi (by rw [he.2.2.2.1]; exact hB.1) hr (fun b hb => by rw [he.2.2.1]; exact (rb_k hC.2.1 hH.1).1 b hb) (by rw [he.2.2.2.1]; exact (rb_k hC.2.1 hH.1).2.1) he.1 (rp_ext he (rp_k hC.2.2 hH.2.1)) (hlt _ h68)) vX6_takeAsHead lk_X6_99 rfl (by decide) rfl rfl (Nat.le_of_ble_eq_true rfl) (by decide) dX6_merge_84 (fun M9 hM9 => ?_)
          refine j_iload C dX6_merge_87 rfl ?_
          exact q_iretO C CM rfl (by decide) (by decide) dX6_merge_89 (post_ok (v := nI v68) (by rw [hres, h68]) hM9.1 (cls_trans hH.2.2 hM9.2))
        · exact j_throw (text := "a conflict, or no room for a commit") C CM rfl (by decide +kernel) (by decide +kernel) lc_X6_136 z_UnsupportedOperationException (by decide) xg_UOE xn_UOE (by decide) (xo_UOE 136) dX6_merge_71 dX6_merge_74 dX6_merge_75 dX6_merge_77 dX6_merge_80 (by decide) (by decide) (by decide) (by decide) (by decide) (by decide) ⟨rfl, M2, post_no (k := 3) (A := A) (by rw [hres, h68]) rfl ⟨by have := hnn h68; subst this; exact hr, rb_k hC.2.1 hH.1, rp_k hC.2.2 hH.2.1⟩ hH.2.2, rfl⟩
      first | exact q_cast (K63 A (some h) M hA (ext_refl A) (fun v hv => by cases hv; exact hhn) hC.1 (his_refl M) (fun q => by cases q) (by simp only [oMerge, hb, hh, hz, if_true, h28, h50])) (gLe_c rfl (gLe_c rfl (gLe_c rfl (gLe_c rfl (gLe_n gLe_0))))) rfl | exact q_cast (K63 (rmA A (aHd A) h) (rmO A (aHd A) h) M2 hk.1 (ext_rm A (aHd A) h) hk.2.2 hM2.1 hM2.2 rm_none (by simp only [oMerge, hb, hh, hz, if_true, h28, h50])) (gLe_c rfl (gLe_c rfl (gLe_c rfl (gLe_c rfl (gLe_n gLe_0))))) rfl
    · refine j_iload_n C dX6_merge_53 rfl ?_
      refine j_goto C 63 dX6_merge_54 ?_ (by decide)
      have K63 : ∀ (B : gSt0) (o : Option Nat) (M2 : gMem), gAi B → gExt A B → (∀ v, o = some v → v < aN B) → gRh B M2 → gHis M M2 → (o = none → B = A) → oMerge A (nI b) = (match o with | none => (4, 0, A) | some c => (0, nI c, takeA B c)) → Q G X 2 16 63 [some (.ref (gb G + 0)), some (.int (nI b)), some (.int (nI h)), some (.int (nI (aHd A))), none] [.int (oI o)] M2 := by
        intro B o M2 hBi he hlt hr hH hnn hres
        refine j_istore C dX6_merge_63 (by decide) rfl ?_
        refine j_iload C dX6_merge_65 rfl ?_
        refine j_iconst C (v := -1) dX6_merge_67 rfl ?_
        refine q_icmp_neN C 81 dX6_merge_68 (by decide) (fun v hv => by have h1 := hlt v hv; have h2 := hBi.1.2; omega) (fun v68 h68 => ?_) (fun h68 => ?_)
        · rw [h68, show oI (some v68) = nI v68 from rfl]
          refine j_aload_n C dX6_merge_81 rfl ?_
          refine j_iload C dX6_merge_82 rfl ?_
          refine q_callVS C (sp_X6_takeAsHead G M2 (A := B) hBi (by rw [he.2.2.2.1]; exact hB.1) hr (fun b hb => by rw [he.2.2.1]; exact (rb_k hC.2.1 hH.1).1 b hb) (by rw [he.2.2.2.1]; exact (rb_k hC.2.1 hH.1).2.1) he.1 (rp_ext he (rp_k hC.2.2 hH.2.1)) (hlt _ h68)) vX6_takeAsHead lk_X6_99 rfl (by decide) rfl rfl (Nat.le_of_ble_eq_true rfl) (by decide) dX6_merge_84 (fun M9 hM9 => ?_)
          refine j_iload C dX6_merge_87 rfl ?_
          exact q_iretO C CM rfl (by decide) (by decide) dX6_merge_89 (post_ok (v := nI v68) (by rw [hres, h68]) hM9.1 (cls_trans hH.2.2 hM9.2))
        · exact j_throw (text := "a conflict, or no room for a commit") C CM rfl (by decide +kernel) (by decide +kernel) lc_X6_136 z_UnsupportedOperationException (by decide) xg_UOE xn_UOE (by decide) (xo_UOE 136) dX6_merge_71 dX6_merge_74 dX6_merge_75 dX6_merge_77 dX6_merge_80 (by decide) (by decide) (by decide) (by decide) (by decide) (by decide) ⟨rfl, M2, post_no (k := 3) (A := A) (by rw [hres, h68]) rfl ⟨by have := hnn h68; subst this; exact hr, rb_k hC.2.1 hH.1, rp_k hC.2.2 hH.2.1⟩ hH.2.2, rfl⟩
      first | exact q_cast (K63 A (some h) M hA (ext_refl A) (fun v hv => by cases hv; exact hhn) hC.1 (his_refl M) (fun q => by cases q) (by simp only [oMerge, hb, hh, hz, if_true, h28, h50])) (gLe_c rfl (gLe_c rfl (gLe_c rfl (gLe_c rfl (gLe_n gLe_0))))) rfl | exact q_cast (K63 (rmA A (aHd A) h) (rmO A (aHd A) h) M2 hk.1 (ext_rm A (aHd A) h) hk.2.2 hM2.1 hM2.2 rm_none (by simp only [oMerge, hb, hh, hz, if_true, h28, h50])) (gLe_c rfl (gLe_c rfl (gLe_c rfl (gLe_c rfl (gLe_n gLe_0))))) rfl
  · exact j_throw (text := "the current branch has all of the other one") C CM rfl (by decide +kernel) (by decide +kernel) lc_X6_71 z_IllegalStateException (by decide) xg_ISE xn_ISE (by decide) (xo_ISE 71) dX6_merge_31 dX6_merge_34 dX6_merge_35 dX6_merge_37 dX6_merge_40 (by decide) (by decide) (by decide) (by decide) (by decide) (by decide) ⟨rfl, M, post_no (k := 2) (by simp only [oMerge, hb, hh, hz, if_true, h28]) rfl hC (cls_refl _), rfl⟩
set_option maxHeartbeats 4000000 in
set_option maxRecDepth 100000 in
theorem sp_X6_putOnto (G : gG) (M : gMem) {A : gSt0} (hA : gAi A) (hB : gAb A) (hC : gRC A M) (x : Int32) : SpO G mX6_putOnto (gRm 6 3) [.ref (gb G + 0), .int x] M (gPost ["java/lang/IndexOutOfBoundsException", "java/util/NoSuchElementException", "java/lang/IllegalStateException", "java/lang/UnsupportedOperationException"] (oPutOnto A x) M) := by
  refine Sp.of (by decide +kernel) (Nat.le_of_ble_eq_true rfl) (fun X C CM => ?_)
  have C : gC G X RX6 cX6_putOnto 7 (gRm 6 3) := C
  refine j_aload_n C dX6_putOnto_0 rfl ?_
  refine j_iload_n C dX6_putOnto_1 rfl ?_
  refine q_callVO C CM rfl (sp_X6_requireHead G M hA hB hC.2.1 x) vX6_requireHead lk_X6_113 rfl (by decide) rfl rfl (Nat.le_of_ble_eq_true rfl) (by decide) (by decide) (by decide) dX6_putOnto_2 (fun w2 M2 w => ?_) (fun E M2 w => by obtain ⟨rfl, ⟨h0, rfl⟩ | ⟨b, hb, h0, rfl⟩⟩ := rqh_x w <;> first | exact post_no (k := 0) (by simp only [oPutOnto, h0]) rfl hC (cls_refl _) | exact post_no (k := 1) (by simp only [oPutOnto, hb, h0]) rfl hC (cls_refl _))
  obtain ⟨rfl, b, h, hb, hb5, rfl, hh, rfl⟩ := rqh_v w
  have hhn := hB.2.1 b h hb5 hh
  refine j_istore_n C dX6_putOnto_5 (by decide) rfl ?_
  refine j_aload_n C dX6_putOnto_6 rfl ?_
  refine q_callVO C CM rfl (sp_X6_requireNoChanges G M hA hB hC.1 hC.2.1) vX6_requireNoChanges lk_X6_116 rfl (by decide) rfl rfl (Nat.le_of_ble_eq_true rfl) (by decide) (by decide) (by decide) dX6_putOnto_7 (fun w7 M7 w => ?_) (fun E M7 w => by obtain ⟨rfl, h0, rfl⟩ := rqn_x w; exact post_no (k := 2) (by simp only [oPutOnto, hb, hh, h0, if_false]) rfl hC (cls_refl _))
  obtain ⟨rfl, hz, rfl⟩ := rqn_v w
  refine j_aload_n C dX6_putOnto_10 rfl ?_
  refine j_aload_n C dX6_putOnto_11 rfl ?_
  refine q_get C fX6 6 rfl (by decide) (by decide) lf_X6_44 rfl rfl dX6_putOnto_12 ?_
  rw [hC.2.1.2.1]
  refine q_callV C (sp_X6_headOf G M hC.2.1 hB.1) vX6_headOf lk_X6_76 rfl (by decide) rfl rfl (Nat.le_of_ble_eq_true rfl) (by decide) dX6_putOnto_15 ?_
  have hd := ab_hd hB
  have h60 := hA.1.2
  rw [hd.1, show oI (some (aHd A)) = nI (aHd A) from rfl]
  refine j_istore_n C dX6_putOnto_18 (by decide) rfl ?_
  refine j_aload_n C dX6_putOnto_19 rfl ?_
  refine q_get C fX6 0 rfl (by decide) (by decide) lf_X6_10 rfl rfl dX6_putOnto_20 ?_
  refine j_iload_n C dX6_putOnto_23 rfl ?_
  refine j_iload_n C dX6_putOnto_24 rfl ?_
  refine q_callV C (sp_X1_contains G M hC.1.1 hA.1.2 hhn hd.2) vX1_contains lk_X6_126 rfl (by decide) rfl rfl (Nat.le_of_ble_eq_true rfl) (by decide) dX6_putOnto_25 ?_
  rw [(hC.1.2.1 h hhn).2.2.2 _ (by omega)]
  refine q_if_eq0 C 41 dX6_putOnto_28 (by decide) (fun h28 => ?_) (fun h28 => ?_)
  · refine j_aload_n C dX6_putOnto_41 rfl ?_
    refine q_get C fX6 0 rfl (by decide) (by decide) lf_X6_10 rfl rfl dX6_putOnto_42 ?_
    refine q_callV C (sp_X1_size G M hC.1.1) vX1_size lk_X6_143 rfl (by decide) rfl rfl (Nat.le_of_ble_eq_true rfl) (by decide) dX6_putOnto_45 ?_
    refine j_istore C dX6_putOnto_48 (by decide) rfl ?_
    refine j_aload_n C dX6_putOnto_50 rfl ?_
    refine j_iload_n C dX6_putOnto_51 rfl ?_
    refine j_iload_n C dX6_putOnto_52 rfl ?_
    refine q_callVS C (sp_X6_listCommitsNotIn G M hA hC.1 hhn hd.2) vX6_listCommitsNotIn lk_X6_146 rfl (by decide) rfl rfl (Nat.le_of_ble_eq_true rfl) (by decide) dX6_putOnto_53 (fun M2 hM2 => ?_)
    obtain ⟨f, rfl, hf⟩ := hM2
    have hL := chL_ok hA hhn hd.2
    have hs1 := scr_sI M f (Or.inr rfl)
    refine j_istore C dX6_putOnto_56 (by decide) rfl ?_
    refine j_aload_n C dX6_putOnto_58 rfl ?_
    refine j_iload C dX6_putOnto_59 rfl ?_
    refine j_iload_n C dX6_putOnto_61 rfl ?_
    refine q_callVS C (sp_X6_applyListed G (sI M 155 f) (ch := chn (aF A) (aHd A)) (L := chL A h (aHd A)) (onto := h) hA (rh_k hA hC.1 hs1.1) (Nat.le_of_lt hL.1) hhn (fun i hi => ⟨chn_lt hA hd.2 i, by rw [chn_par hA hhn hd.2 (hL.2.2 i hi)]; rfl⟩) (fun i hi => by rw [sI_s]; exact hf i hi)) vX6_applyListed lk_X6_149 rfl (by decide) rfl rfl (Nat.le_of_ble_eq_true rfl) (by decide) dX6_putOnto_62 (fun M3 hM3 => ?_)
    have hP : gAi (poR A h).2 ∧ gExt A (poR A h).2 ∧ ∀ v, (poR A h).1 = some v → v < aN (poR A h).2 := apK_ok (A := A) (ch := chn (aF A) (aHd A)) (L := chL A h (aHd A)) (onto := h) hA hhn (chL A h (aHd A))
    have hH := his_trans (his_scr hs1) hM3.2
    refine j_istore C dX6_putOnto_65 (by decide) rfl ?_
    refine j_iload C dX6_putOnto_67 rfl ?_
    refine j_iconst C (v := -1) dX6_putOnto_69 rfl ?_
    refine q_icmp_neN C 92 dX6_putOnto_70 (by decide) (fun v hv => by have h1 := hP.2.2 v hv; have h2 := hP.1.1.2; omega) (fun v70 h70 => ?_) (fun h70 => ?_)
    · rw [show (apK A (chn (aF A) (aHd A)) (chL A h (aHd A)) h (chL A h (aHd A))).1 = some v70 from h70, show oI (some v70) = nI v70 from rfl]
      refine j_aload_n C dX6_putOnto_92 rfl ?_
      refine j_iload C dX6_putOnto_93 rfl ?_
      refine q_callVS C (sp_X6_takeAsHead G M3 (A := (poR A h).2) hP.1 (by rw [hP.2.1.2.2.2.1]; exact hB.1) hM3.1 (fun b hb => by rw [hP.2.1.2.2.1]; exact (rb_k hC.2.1 hH.1).1 b hb) (by rw [hP.2.1.2.2.2.1]; exact (rb_k hC.2.1 hH.1).2.1) hP.2.1.1 (rp_ext hP.2.1 (rp_k hC.2.2 hH.2.1)) (hP.2.2 _ h70)) vX6_takeAsHead lk_X6_99 rfl (by decide) rfl rfl (Nat.le_of_ble_eq_true rfl) (by decide) dX6_putOnto_95 (fun M9 hM9 => ?_)
      refine j_iload C dX6_putOnto_98 rfl ?_
      exact q_iretO C CM rfl (by decide) (by decide) dX6_putOnto_100 (post_ok (A := takeA (poR A h).2 v70) (by simp only [oPutOnto, hb, hh, hz, if_true, h28, show (poR A h).1 = some v70 from h70]) hM9.1 (cls_trans hH.2.2 hM9.2))
    · refine j_aload_n C dX6_putOnto_73 rfl ?_
      refine q_get C fX6 0 rfl (by decide) (by decide) lf_X6_10 rfl rfl dX6_putOnto_74 ?_
      refine j_iload C dX6_putOnto_77 rfl ?_
      refine q_callV C (sp_X1_dropBackTo G M3 (n := aN (poR A h).2) hM3.1.1 hP.1.1.2 hA.1.1 hP.2.1.1) vX1_dropBackTo lk_X6_152 rfl (by decide) rfl rfl (Nat.le_of_ble_eq_true rfl) (by decide) dX6_putOnto_79 ?_
      exact j_throw (text := "a conflict, or no room for a commit") C CM rfl (by decide +kernel) (by decide +kernel) lc_X6_136 z_UnsupportedOperationException (by decide) xg_UOE xn_UOE (by decide) (xo_UOE 136) dX6_putOnto_82 dX6_putOnto_85 dX6_putOnto_86 dX6_putOnto_88 dX6_putOnto_91 (by decide) (by decide) (by decide) (by decide) (by decide) (by decide) ⟨rfl, _, post_no (k := 3) (A := A) (by simp only [oPutOnto, hb, hh, hz, if_true, h28, show (poR A h).1 = none from h70]) rfl ⟨rh_ext hA hP.1 hP.2.1 hM3.1, rb_k hC.2.1 (his_trans hH (his_17 M3 _)).1, rp_k hC.2.2 (his_trans hH (his_17 M3 _)).2.1⟩ (his_trans hH (his_17 M3 _)).2.2, rfl⟩
  · exact j_throw (text := "the other branch has all of the current one") C CM rfl (by decide +kernel) (by decide +kernel) lc_X6_71 z_IllegalStateException (by decide) xg_ISE xn_ISE (by decide) (xo_ISE 71) dX6_putOnto_31 dX6_putOnto_34 dX6_putOnto_35 dX6_putOnto_37 dX6_putOnto_40 (by decide) (by decide) (by decide) (by decide) (by decide) (by decide) ⟨rfl, M, post_no (k := 2) (by simp only [oPutOnto, hb, hh, hz, if_true, h28]) rfl hC (cls_refl _), rfl⟩
