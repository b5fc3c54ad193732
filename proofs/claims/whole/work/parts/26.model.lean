/-! the model's rows -/
def gRk (A : gSt0) (M : gMem) : Prop := M.2.2.1 156 3 = nI (aN A) ∧ (∀ c, c < aN A → M.1 218 c = oI (aF A c) ∧ M.1 219 c = oI (aS A c)) ∧ ∀ c, c < aN A → gRo M (158 + c) (aT A c)
def gRl (A : gSt0) (M : gMem) : Prop := (∀ b, b < 5 → M.1 220 b = oI (aH A b)) ∧ M.2.2.1 156 5 = nI (aC A) ∧ gRo M 221 (aW A)
def gRM (A : gSt0) (M : gMem) : Prop := gRk A M ∧ gRl A M ∧ M.1 236 0 = 0
/-- only the model's part differs -/
def gMod (M M' : gMem) : Prop := M'.2.1 = M.2.1 ∧ M'.2.2.2 = M.2.2.2 ∧ (∀ o j, o ≠ 156 → M'.2.2.1 o j = M.2.2.1 o j) ∧ ∀ o, o < 157 ∨ 236 < o → M'.1 o = M.1 o
theorem mod_refl (M : gMem) : gMod M M := ⟨rfl, rfl, fun _ _ _ => rfl, fun _ _ => rfl⟩
theorem mod_trans {M M1 M2 : gMem} (h : gMod M M1) (h' : gMod M1 M2) : gMod M M2 := ⟨h'.1.trans h.1, h'.2.1.trans h.2.1, fun o j ho => (h'.2.2.1 o j ho).trans (h.2.2.1 o j ho), fun o ho => (h'.2.2.2 o ho).trans (h.2.2.2 o ho)⟩
theorem mod_sI (M : gMem) {o : Nat} (f : Nat → Int32) (h : 157 ≤ o ∧ o ≤ 236) : gMod M (sI M o f) := ⟨rfl, rfl, fun _ _ _ => rfl, fun a ha => sI_n _ _ (by omega)⟩
theorem mod_sF (M : gMem) (j : Nat) (v : Int32) : gMod M (sF M 156 j v) := ⟨rfl, rfl, fun o i h => by rw [sF_F, if_neg h], fun _ _ => rfl⟩
/-- what the model knows of its state is the same; scratch and thrown may differ -/
def gKm (M M' : gMem) : Prop := (∀ o, 158 ≤ o ∧ o ≤ 221 → M'.1 o = M.1 o) ∧ M'.1 236 0 = M.1 236 0 ∧ M'.2.2.1 156 3 = M.2.2.1 156 3 ∧ M'.2.2.1 156 5 = M.2.2.1 156 5 ∧ gMod M M'
theorem km_refl (M : gMem) : gKm M M := ⟨fun _ _ => rfl, rfl, rfl, rfl, mod_refl M⟩
theorem km_trans {M M1 M2 : gMem} (h : gKm M M1) (h' : gKm M1 M2) : gKm M M2 := ⟨fun o ho => (h'.1 o ho).trans (h.1 o ho), h'.2.1.trans h.2.1, h'.2.2.1.trans h.2.2.1, h'.2.2.2.1.trans h.2.2.2.1, mod_trans h.2.2.2.2 h'.2.2.2.2⟩
theorem km_sI (M : gMem) {o : Nat} (f : Nat → Int32) (h : 222 ≤ o ∧ o ≤ 235) : gKm M (sI M o f) := ⟨fun a ha => sI_n _ _ (by omega), by rw [sI_n _ _ (by omega)], rfl, rfl, mod_sI M f (by omega)⟩
theorem km_sF (M : gMem) {j : Nat} (v : Int32) (h : j ≠ 3 ∧ j ≠ 5) : gKm M (sF M 156 j v) := ⟨fun _ _ => rfl, rfl, sF_ne _ _ (fun w => h.1 w.2.symm), sF_ne _ _ (fun w => h.2 w.2.symm), mod_sF M j v⟩
theorem rk_k {A : gSt0} {M M' : gMem} (hA : gAi A) (h : gRk A M) (k : gKm M M') : gRk A M' := by
  have h60 := hA.1.2
  refine ⟨by rw [k.2.2.1]; exact h.1, fun c hc => ?_, fun c hc p hp => ?_⟩
  · rw [k.1 218 (by decide), k.1 219 (by decide)]; exact h.2.1 c hc
  · rw [k.1 _ (by have h1 : c < aN A := hc; omega)]; exact h.2.2 c hc p hp
theorem rl_k {A : gSt0} {M M' : gMem} (h : gRl A M) (k : gKm M M') : gRl A M' := by
  refine ⟨fun b hb => by rw [k.1 220 (by decide)]; exact h.1 b hb, by rw [k.2.2.2.1]; exact h.2.1, fun p hp => ?_⟩
  rw [k.1 221 (by decide)]
  exact h.2.2 p hp
theorem rm_k {A : gSt0} {M M' : gMem} (hA : gAi A) (h : gRM A M) (k : gKm M M') : gRM A M' := ⟨rk_k hA h.1 k, rl_k h.2.1 k, by rw [k.2.1]; exact h.2.2⟩
/-- how a call of the model ends -/
def gPom (o : gRes) (M : gMem) : gMem → Prop := fun M' => M'.2.2.1 156 7 = nI o.1 ∧ gRM o.2.2 M' ∧ gMod M M'
theorem pom {o : gRes} {k : Nat} {v : Int32} {A : gSt0} {M M' : gMem} (ho : o = (k, v, A)) (ht : M'.2.2.1 156 7 = nI k) (hR : gRM A M') (hm : gMod M M') : gPom o M M' := by
  subst ho
  exact ⟨ht, hR, hm⟩
theorem pom_v {o : gRes} {k : Nat} {v v' : Int32} {A : gSt0} (ho : o = (k, v, A)) (h : v' = v) : v' = o.2.1 := by
  subst ho
  exact h
theorem pom_x {o : gRes} {k : Nat} {A : gSt0} {M : gMem} (ho : o = (k, 0, A)) (hA : gAi A) (hR : gRM A M) : gPom o M (sF M 156 7 (nI k)) := pom ho (sF_at _ _ _ _) (rm_k hA hR (km_sF M _ (by decide))) (mod_sF M _ _)
theorem in_inB {v : Int32} {n : Nat} (h0 : 0 < n) (hn : n < 2 ^ 31) : (decide (nI 0 ≤ v) && decide (v ≤ nI (n - 1))) = (inB v n).isSome := by
  by_cases h : v < 0
  · rw [inB_neg h, show decide (nI 0 ≤ v) = false from decide_eq_false (fun w => absurd h (Int32.not_lt.mpr (by rw [nI_0] at w; exact w)))]
    rfl
  · have h1 : nI 0 ≤ v := by rw [nI_0]; exact Int32.not_lt.mp h
    rw [decide_eq_true h1, Bool.true_and]
    obtain ⟨e, hk⟩ := nI_back h
    by_cases h2 : v < nI n
    · obtain ⟨k, h3, h4, h5⟩ := inB_lt hn h h2
      rw [h3, h4, decide_eq_true ((nI_leI (by omega) (by omega)).mpr (by omega))]
      rfl
    · rw [inB_big h h2, decide_eq_false (fun w => h2 (by
        rw [← e] at w ⊢
        have := (nI_leI hk (by omega)).mp w
        exact (nI_ltI hk hn).mpr (by omega)))]
      rfl
def lkN (A : gSt0) (x : Int32) : Nat := match inB x 8 with
  | none => 1
  | some p => match aW A p with
    | none => 2
    | some _ => 0
def noN (A : gSt0) (x : Int32) : Nat := match inB x 5 with
  | none => 1
  | some b => match aH A b with
    | none => 2
    | some _ => 0
theorem lk_0 {A : gSt0} {x : Int32} (h : decide (0 < lkN A x) = false) : ∃ p c, inB x 8 = some p ∧ x = nI p ∧ p < 8 ∧ aW A p = some c ∧ lkN A x = 0 := by
  have h0 := of_decide_eq_false h
  unfold lkN at h0 ⊢
  cases e : inB x 8 with
  | none => rw [e] at h0; exact absurd Nat.zero_lt_one h0
  | some p =>
    rw [e] at h0
    cases e2 : aW A p with
    | none => simp only [e2] at h0; exact absurd Nat.zero_lt_two h0
    | some c => exact ⟨p, c, rfl, (inB_some (by decide) e).1, (inB_some (by decide) e).2, e2, by simp only [e2]⟩
theorem no_0 {A : gSt0} {x : Int32} (h : decide (0 < noN A x) = false) : ∃ b g, inB x 5 = some b ∧ x = nI b ∧ b < 5 ∧ aH A b = some g ∧ noN A x = 0 := by
  have h0 := of_decide_eq_false h
  unfold noN at h0 ⊢
  cases e : inB x 5 with
  | none => rw [e] at h0; exact absurd Nat.zero_lt_one h0
  | some p =>
    rw [e] at h0
    cases e2 : aH A p with
    | none => simp only [e2] at h0; exact absurd Nat.zero_lt_two h0
    | some c => exact ⟨p, c, rfl, (inB_some (by decide) e).1, (inB_some (by decide) e).2, e2, by simp only [e2]⟩
/-- with a path that is not there, or no file -/
theorem lk_1 {A : gSt0} {x : Int32} (h : decide (0 < lkN A x) = true) : (inB x 8 = none ∧ lkN A x = 1) ∨ ∃ p, inB x 8 = some p ∧ aW A p = none ∧ lkN A x = 2 := by
  have h0 := of_decide_eq_true h
  unfold lkN at h0 ⊢
  cases e : inB x 8 with
  | none => exact Or.inl ⟨rfl, rfl⟩
  | some p =>
    rw [e] at h0
    cases e2 : aW A p with
    | none => exact Or.inr ⟨p, rfl, e2, by simp only [e2]⟩
    | some c => simp only [e2] at h0; exact absurd h0 (by decide)
theorem no_1 {A : gSt0} {x : Int32} (h : decide (0 < noN A x) = true) : (inB x 5 = none ∧ noN A x = 1) ∨ ∃ p, inB x 5 = some p ∧ aH A p = none ∧ noN A x = 2 := by
  have h0 := of_decide_eq_true h
  unfold noN at h0 ⊢
  cases e : inB x 5 with
  | none => exact Or.inl ⟨rfl, rfl⟩
  | some p =>
    rw [e] at h0
    cases e2 : aH A p with
    | none => exact Or.inr ⟨p, rfl, e2, by simp only [e2]⟩
    | some c => simp only [e2] at h0; exact absurd h0 (by decide)
theorem w_put {A : gSt0} {M : gMem} {p : Nat} {o : Option Nat} (hA : gAi A) (hR : gRM A M) : gRM (setW A (uO (aW A) p o)) (sI M 221 (upd (M.1 221) p (oI o))) := by
  have h60 := hA.1.2
  refine ⟨⟨hR.1.1, fun c hc => hR.1.2.1 c hc, fun c hc q hq => ?_⟩, ⟨fun b hb => hR.2.1.1 b hb, hR.2.1.2.1, fun q hq => ?_⟩, hR.2.2⟩
  · have h1 : c < aN A := hc
    rw [sI_n _ _ (by omega)]
    exact hR.1.2.2 c hc q hq
  · rw [sI_s]
    show _ = oI (uO (aW A) p o q)
    by_cases e : q = p
    · rw [e, upd_s, uO_s]
    · rw [upd_n _ _ e, uO_n _ _ e]; exact hR.2.1.2.2 q hq
theorem smB_1 {A : gSt0} {t : Nat → Option Nat} {f : Nat} {s : Option Nat} {c : Nat} (h : ¬ oI (aF A c) = nI f) : sameB A t f s c = false := by
  unfold sameB
  rw [decide_eq_false (fun w => h (by rw [w]; rfl))]
  rfl
theorem smB_2 {A : gSt0} {t : Nat → Option Nat} {f : Nat} {s : Option Nat} {c : Nat} (h : ¬ oI (aS A c) = oI s) : sameB A t f s c = false := by
  unfold sameB
  rw [decide_eq_false (p := aS A c = s) (fun w => h (by rw [w])), Bool.and_false]
  rfl
theorem smB_3 {A : gSt0} {t : Nat → Option Nat} {f : Nat} {s : Option Nat} {c : Nat} (h : decide (dfN (aT A c) t = 0) = false) : sameB A t f s c = false := by
  unfold sameB
  rw [show decide (cntN (fun p => decide (¬ aT A c p = t p)) 8 = 0) = false from h, Bool.and_false]
theorem smB_t {A : gSt0} {t : Nat → Option Nat} {f : Nat} {s : Option Nat} {c : Nat} (hA : gAi A) (hc : c < aN A) (hf : f < aN A) (hs : ∀ q, s = some q → q < aN A) (h1 : oI (aF A c) = nI f) (h2 : oI (aS A c) = oI s) (h3 : decide (dfN (aT A c) t = 0) = true) : sameB A t f s c = true := by
  have h60 := hA.1.2
  unfold sameB
  rw [show decide (cntN (fun p => decide (¬ aT A c p = t p)) 8 = 0) = true from h3,
    decide_eq_true ((oI_eq (b := some f) (fun v hv => by have := hA.2.1.1 _ _ hv; omega) (fun v hv => by cases hv; omega)).mp h1),
    decide_eq_true ((oI_eq (fun v hv => by have := hA.2.1.2 _ _ hv; omega) (fun v hv => by have := hs v hv; omega)).mp h2)]
  rfl
theorem df_rows {M : gMem} {a b : Nat} {t u : Nat → Option Nat} (hr : gRo M a t) (hu : gRo M b u) (ht : gTn t) (hv : gTn u) : cntN (fun p => decide (¬ M.1 a p = M.1 b p)) 8 = dfN t u := cnt_congr (fun p hp => by
  rw [hr p hp, hu p hp]
  exact decide_eq_decide.mpr (not_congr (oI_eq (nI_lt8 ht hp) (nI_lt8 hv hp))))
theorem lkN_1 {A : gSt0} {x : Int32} (h : (inB x 8).isSome = false) : lkN A x = 1 := by unfold lkN; rw [inB_nsome h]
theorem lkN_2 {A : gSt0} {x : Int32} {p : Nat} (hp : inB x 8 = some p) (h : aW A p = none) : lkN A x = 2 := by unfold lkN; rw [hp]; simp only [h]
theorem lkN_0 {A : gSt0} {x : Int32} {p c : Nat} (hp : inB x 8 = some p) (h : aW A p = some c) : lkN A x = 0 := by unfold lkN; rw [hp]; simp only [h]
theorem noN_1 {A : gSt0} {x : Int32} (h : (inB x 5).isSome = false) : noN A x = 1 := by unfold noN; rw [inB_nsome h]
theorem noN_2 {A : gSt0} {x : Int32} {p : Nat} (hp : inB x 5 = some p) (h : aH A p = none) : noN A x = 2 := by unfold noN; rw [hp]; simp only [h]
theorem noN_0 {A : gSt0} {x : Int32} {p c : Nat} (hp : inB x 5 = some p) (h : aH A p = some c) : noN A x = 0 := by unfold noN; rw [hp]; simp only [h]
set_option maxHeartbeats 4000000 in
set_option maxRecDepth 100000 in
theorem sp_X7_raises (G : gG) (M : gMem) (w : Nat) : SpR G mX7_raises (gRm 0 0) [.ref (gb G + 156), .int (nI w)] M (some (.int (nI 0))) (sF M 156 7 (nI w)) := by
  refine Sp.of (by decide +kernel) (Nat.le_of_ble_eq_true rfl) (fun X C CM => ?_)
  have C : gC G X RX7 cX7_raises 2 (gRm 0 0) := C
  refine j_aload_n C dX7_raises_0 rfl ?_
  refine j_iload_n C dX7_raises_1 rfl ?_
  refine q_putI C fX7 7 rfl (by decide) (by decide) lf_X7_77 rfl rfl rfl (Nat.le_of_ble_eq_true rfl) rfl dX7_raises_2 ?_
  refine j_iconst C (v := nI 0) dX7_raises_5 rfl ?_
  exact q_iret C CM rfl (by decide) (by decide) dX7_raises_6 rfl rfl
set_option maxHeartbeats 4000000 in
set_option maxRecDepth 100000 in
theorem sp_X7_in (G : gG) (M : gMem) (v lo hi : Int32) : SpR G mX7_in (gRm 0 0) [.int v, .int lo, .int hi] M (some (.int (bI (decide (lo ≤ v) && decide (v ≤ hi))))) M := by
  refine Sp.of (by decide +kernel) (Nat.le_of_ble_eq_true rfl) (fun X C CM => ?_)
  have C : gC G X RX7 cX7_in 3 (gRm 0 0) := C
  refine j_iload_n C dX7_in_0 rfl ?_
  refine j_iload_n C dX7_in_1 rfl ?_
  refine j_icmp_lt C 14 dX7_in_2 (fun h2 => ?_) (fun h2 => ?_) (by decide)
  · refine j_iconst C (v := nI 0) dX7_in_14 rfl ?_
    exact q_zret C CM rfl (by decide) (by decide) dX7_in_15 (by first | (rw [decide_eq_false (Int32.not_le.mpr h2)]; rfl) | (rw [decide_eq_true (Int32.not_lt.mp h2), decide_eq_false (Int32.not_le.mpr h7)]; rfl) | (rw [decide_eq_true (Int32.not_lt.mp h2), decide_eq_true (Int32.not_lt.mp h7)]; rfl)) rfl
  · refine j_iload_n C dX7_in_5 rfl ?_
    refine j_iload_n C dX7_in_6 rfl ?_
    refine j_icmp_gt C 14 dX7_in_7 (fun h7 => ?_) (fun h7 => ?_) (by decide)
    · refine j_iconst C (v := nI 0) dX7_in_14 rfl ?_
      exact q_zret C CM rfl (by decide) (by decide) dX7_in_15 (by first | (rw [decide_eq_false (Int32.not_le.mpr h2)]; rfl) | (rw [decide_eq_true (Int32.not_lt.mp h2), decide_eq_false (Int32.not_le.mpr h7)]; rfl) | (rw [decide_eq_true (Int32.not_lt.mp h2), decide_eq_true (Int32.not_lt.mp h7)]; rfl)) rfl
    · refine j_iconst C (v := nI 1) dX7_in_10 rfl ?_
      refine j_goto C 15 dX7_in_11 ?_ (by decide)
      exact q_zret C CM rfl (by decide) (by decide) dX7_in_15 (by first | (rw [decide_eq_false (Int32.not_le.mpr h2)]; rfl) | (rw [decide_eq_true (Int32.not_lt.mp h2), decide_eq_false (Int32.not_le.mpr h7)]; rfl) | (rw [decide_eq_true (Int32.not_lt.mp h2), decide_eq_true (Int32.not_lt.mp h7)]; rfl)) rfl
set_option maxHeartbeats 4000000 in
set_option maxRecDepth 100000 in
theorem sp_X7_isPath (G : gG) (M : gMem) (v : Int32) : SpR G mX7_isPath (gRm 1 0) [.int v] M (some (.int (bI (inB v 8).isSome))) M := by
  refine Sp.of (by decide +kernel) (Nat.le_of_ble_eq_true rfl) (fun X C CM => ?_)
  have C : gC G X RX7 cX7_isPath 1 (gRm 1 0) := C
  refine j_iload_n C dX7_isPath_0 rfl ?_
  refine j_iconst C (v := nI 0) dX7_isPath_1 rfl ?_
  refine j_bipush C (v := nI 7) dX7_isPath_2 rfl ?_
  refine q_callS C (sp_X7_in G M v (nI 0) (nI 7)) vX7_in lk_X7_80 rfl rfl (Nat.le_of_ble_eq_true rfl) (by decide) dX7_isPath_4 ?_
  exact q_zret C CM rfl (by decide) (by decide) dX7_isPath_7 (congrArg bI (in_inB (n := 8) (by decide) (by decide))) rfl
set_option maxHeartbeats 4000000 in
set_option maxRecDepth 100000 in
theorem sp_X7_isCommit (G : gG) (M : gMem) {n : Nat} (hn : M.2.2.1 156 3 = nI n) (h1 : 1 ≤ n ∧ n ≤ 60) (v : Int32) : SpR G mX7_isCommit (gRm 1 0) [.ref (gb G + 156), .int v] M (some (.int (bI (inB v n).isSome))) M := by
  refine Sp.of (by decide +kernel) (Nat.le_of_ble_eq_true rfl) (fun X C CM => ?_)
  have C : gC G X RX7 cX7_isCommit 2 (gRm 1 0) := C
  refine j_iload_n C dX7_isCommit_0 rfl ?_
  refine j_iconst C (v := nI 0) dX7_isCommit_1 rfl ?_
  refine j_aload_n C dX7_isCommit_2 rfl ?_
  refine q_get C fX7 3 rfl (by decide) (by decide) lf_X7_21 rfl rfl dX7_isCommit_3 ?_
  rw [hn]
  refine j_iconst C (v := nI 1) dX7_isCommit_6 rfl ?_
  refine q_isub C (by omega) dX7_isCommit_7 ?_
  refine q_callS C (sp_X7_in G M v (nI 0) (nI (n - 1))) vX7_in lk_X7_80 rfl rfl (Nat.le_of_ble_eq_true rfl) (by decide) dX7_isCommit_8 ?_
  exact q_zret C CM rfl (by decide) (by decide) dX7_isCommit_11 (congrArg bI (in_inB (n := n) (by omega) (by omega))) rfl
set_option maxHeartbeats 4000000 in
set_option maxRecDepth 100000 in
theorem sp_X7_lacks (G : gG) (M : gMem) {A : gSt0} (hB : gAb A) (hr : gRo M 221 (aW A)) (x : Int32) : SpR G mX7_lacks (gRm 2 0) [.ref (gb G + 156), .int x] M (some (.int (bI (decide (0 < lkN A x))))) (sF M 156 7 (nI (lkN A x))) := by
  refine Sp.of (by decide +kernel) (Nat.le_of_ble_eq_true rfl) (fun X C CM => ?_)
  have C : gC G X RX7 cX7_lacks 2 (gRm 2 0) := C
  refine j_aload_n C dX7_lacks_0 rfl ?_
  refine j_iload_n C dX7_lacks_1 rfl ?_
  refine q_callS C (sp_X7_isPath G M x) vX7_isPath lk_X7_84 rfl rfl (Nat.le_of_ble_eq_true rfl) (by decide) dX7_lacks_2 ?_
  refine q_if_ne0 C 12 dX7_lacks_5 (by decide) (fun h5 => ?_) (fun h5 => ?_)
  · obtain ⟨p, hp, rfl, hp8⟩ := inB_is (n := 8) (by decide) h5
    refine j_aload_n C dX7_lacks_12 rfl ?_
    refine q_get C fX7 6 rfl (by decide) (by decide) lf_X7_28 rfl rfl dX7_lacks_13 ?_
    refine j_iload_n C dX7_lacks_16 rfl ?_
    refine q_iald C rfl (by decide) (by decide) (by omega) dX7_lacks_17 ?_
    rw [hr p hp8]
    refine j_iconst C (v := -1) dX7_lacks_18 rfl ?_
    refine q_icmp_neN C 26 dX7_lacks_19 (by decide) (nI_lt8 hB.2.2.2 hp8) (fun v19 h19 => ?_) (fun h19 => ?_)
    · refine j_iconst C (v := nI 0) dX7_lacks_26 rfl ?_
      refine q_putI C fX7 7 rfl (by decide) (by decide) lf_X7_77 rfl rfl rfl (Nat.le_of_ble_eq_true rfl) rfl dX7_lacks_27 ?_
      refine j_aload_n C dX7_lacks_30 rfl ?_
      refine q_get C fX7 7 rfl (by decide) (by decide) lf_X7_77 rfl rfl dX7_lacks_31 ?_
      rw [sF_at]
      refine j_if_le C 41 dX7_lacks_34 (fun _ => ?_) (fun h => absurd (by decide) h) (by decide)
      refine j_iconst C (v := nI 0) dX7_lacks_41 rfl ?_
      exact q_zret C CM rfl (by decide) (by decide) dX7_lacks_42 (by first | (rw [lkN_1 h5]; rfl) | (rw [lkN_2 hp h19]; rfl) | (rw [lkN_0 hp h19]; rfl)) (by first | rw [lkN_1 h5] | rw [lkN_2 hp h19] | rw [lkN_0 hp h19])
    · refine j_iconst C (v := nI 2) dX7_lacks_22 rfl ?_
      refine j_goto C 27 dX7_lacks_23 ?_ (by decide)
      refine q_putI C fX7 7 rfl (by decide) (by decide) lf_X7_77 rfl rfl rfl (Nat.le_of_ble_eq_true rfl) rfl dX7_lacks_27 ?_
      refine j_aload_n C dX7_lacks_30 rfl ?_
      refine q_get C fX7 7 rfl (by decide) (by decide) lf_X7_77 rfl rfl dX7_lacks_31 ?_
      rw [sF_at]
      refine j_if_le C 41 dX7_lacks_34 (fun h => absurd h (by decide)) (fun _ => ?_) (by decide)
      refine j_iconst C (v := nI 1) dX7_lacks_37 rfl ?_
      refine j_goto C 42 dX7_lacks_38 ?_ (by decide)
      exact q_zret C CM rfl (by decide) (by decide) dX7_lacks_42 (by first | (rw [lkN_1 h5]; rfl) | (rw [lkN_2 hp h19]; rfl) | (rw [lkN_0 hp h19]; rfl)) (by first | rw [lkN_1 h5] | rw [lkN_2 hp h19] | rw [lkN_0 hp h19])
  · refine j_iconst C (v := nI 1) dX7_lacks_8 rfl ?_
    refine j_goto C 27 dX7_lacks_9 ?_ (by decide)
    refine q_putI C fX7 7 rfl (by decide) (by decide) lf_X7_77 rfl rfl rfl (Nat.le_of_ble_eq_true rfl) rfl dX7_lacks_27 ?_
    refine j_aload_n C dX7_lacks_30 rfl ?_
    refine q_get C fX7 7 rfl (by decide) (by decide) lf_X7_77 rfl rfl dX7_lacks_31 ?_
    rw [sF_at]
    refine j_if_le C 41 dX7_lacks_34 (fun h => absurd h (by decide)) (fun _ => ?_) (by decide)
    refine j_iconst C (v := nI 1) dX7_lacks_37 rfl ?_
    refine j_goto C 42 dX7_lacks_38 ?_ (by decide)
    exact q_zret C CM rfl (by decide) (by decide) dX7_lacks_42 (by first | (rw [lkN_1 h5]; rfl) | (rw [lkN_2 hp h19]; rfl) | (rw [lkN_0 hp h19]; rfl)) (by first | rw [lkN_1 h5] | rw [lkN_2 hp h19] | rw [lkN_0 hp h19])
set_option maxHeartbeats 4000000 in
set_option maxRecDepth 100000 in
theorem sp_X7_isNone (G : gG) (M : gMem) {A : gSt0} (hA : gAi A) (hB : gAb A) (hr : ∀ b, b < 5 → M.1 220 b = oI (aH A b)) (x : Int32) : SpR G mX7_isNone (gRm 1 0) [.ref (gb G + 156), .int x] M (some (.int (bI (decide (0 < noN A x))))) (sF M 156 7 (nI (noN A x))) := by
  refine Sp.of (by decide +kernel) (Nat.le_of_ble_eq_true rfl) (fun X C CM => ?_)
  have C : gC G X RX7 cX7_isNone 2 (gRm 1 0) := C
  refine j_aload_n C dX7_isNone_0 rfl ?_
  refine j_iload_n C dX7_isNone_1 rfl ?_
  refine j_iconst C (v := nI 0) dX7_isNone_2 rfl ?_
  refine j_iconst C (v := nI 4) dX7_isNone_3 rfl ?_
  refine q_callS C (sp_X7_in G M x (nI 0) (nI 4)) vX7_in lk_X7_80 rfl rfl (Nat.le_of_ble_eq_true rfl) (by decide) dX7_isNone_4 ?_
  rw [in_inB (n := 5) (by decide) (by decide)]
  refine q_if_ne0 C 14 dX7_isNone_7 (by decide) (fun h7 => ?_) (fun h7 => ?_)
  · obtain ⟨p, hp, rfl, hp8⟩ := inB_is (n := 5) (by decide) h7
    refine j_aload_n C dX7_isNone_14 rfl ?_
    refine q_get C fX7 4 rfl (by decide) (by decide) lf_X7_25 rfl rfl dX7_isNone_15 ?_
    refine j_iload_n C dX7_isNone_18 rfl ?_
    refine q_iald C rfl (by decide) (by decide) (by omega) dX7_isNone_19 ?_
    rw [hr p hp8]
    refine j_iconst C (v := -1) dX7_isNone_20 rfl ?_
    refine q_icmp_neN C 28 dX7_isNone_21 (by decide) (hd_lt hA hB hp8) (fun v21 h21 => ?_) (fun h21 => ?_)
    · refine j_iconst C (v := nI 0) dX7_isNone_28 rfl ?_
      refine q_putI C fX7 7 rfl (by decide) (by decide) lf_X7_77 rfl rfl rfl (Nat.le_of_ble_eq_true rfl) rfl dX7_isNone_29 ?_
      refine j_aload_n C dX7_isNone_32 rfl ?_
      refine q_get C fX7 7 rfl (by decide) (by decide) lf_X7_77 rfl rfl dX7_isNone_33 ?_
      rw [sF_at]
      refine j_if_le C 43 dX7_isNone_36 (fun _ => ?_) (fun h => absurd (by decide) h) (by decide)
      refine j_iconst C (v := nI 0) dX7_isNone_43 rfl ?_
      exact q_zret C CM rfl (by decide) (by decide) dX7_isNone_44 (by first | (rw [noN_1 h7]; rfl) | (rw [noN_2 hp h21]; rfl) | (rw [noN_0 hp h21]; rfl)) (by first | rw [noN_1 h7] | rw [noN_2 hp h21] | rw [noN_0 hp h21])
    · refine j_iconst C (v := nI 2) dX7_isNone_24 rfl ?_
      refine j_goto C 29 dX7_isNone_25 ?_ (by decide)
      refine q_putI C fX7 7 rfl (by decide) (by decide) lf_X7_77 rfl rfl rfl (Nat.le_of_ble_eq_true rfl) rfl dX7_isNone_29 ?_
      refine j_aload_n C dX7_isNone_32 rfl ?_
      refine q_get C fX7 7 rfl (by decide) (by decide) lf_X7_77 rfl rfl dX7_isNone_33 ?_
      rw [sF_at]
      refine j_if_le C 43 dX7_isNone_36 (fun h => absurd h (by decide)) (fun _ => ?_) (by decide)
      refine j_iconst C (v := nI 1) dX7_isNone_39 rfl ?_
      refine j_goto C 44 dX7_isNone_40 ?_ (by decide)
      exact q_zret C CM rfl (by decide) (by decide) dX7_isNone_44 (by first | (rw [noN_1 h7]; rfl) | (rw [noN_2 hp h21]; rfl) | (rw [noN_0 hp h21]; rfl)) (by first | rw [noN_1 h7] | rw [noN_2 hp h21] | rw [noN_0 hp h21])
  · refine j_iconst C (v := nI 1) dX7_isNone_10 rfl ?_
    refine j_goto C 29 dX7_isNone_11 ?_ (by decide)
    refine q_putI C fX7 7 rfl (by decide) (by decide) lf_X7_77 rfl rfl rfl (Nat.le_of_ble_eq_true rfl) rfl dX7_isNone_29 ?_
    refine j_aload_n C dX7_isNone_32 rfl ?_
    refine q_get C fX7 7 rfl (by decide) (by decide) lf_X7_77 rfl rfl dX7_isNone_33 ?_
    rw [sF_at]
    refine j_if_le C 43 dX7_isNone_36 (fun h => absurd h (by decide)) (fun _ => ?_) (by decide)
    refine j_iconst C (v := nI 1) dX7_isNone_39 rfl ?_
    refine j_goto C 44 dX7_isNone_40 ?_ (by decide)
    exact q_zret C CM rfl (by decide) (by decide) dX7_isNone_44 (by first | (rw [noN_1 h7]; rfl) | (rw [noN_2 hp h21]; rfl) | (rw [noN_0 hp h21]; rfl)) (by first | rw [noN_1 h7] | rw [noN_2 hp h21] | rw [noN_0 hp h21])
