/-! how a commit is made -/
def sameB (A : gSt0) (t : Nat → Option Nat) (f : Nat) (s : Option Nat) (c : Nat) : Bool := decide (aF A c = some f) && decide (aS A c = s) && decide (cntN (fun p => decide (¬ aT A c p = t p)) 8 = 0)
def cutT (t : Nat → Option Nat) : Nat → Option Nat := fun p => if p < 8 then t p else none
def addA (A : gSt0) (t : Nat → Option Nat) (f : Nat) (s : Option Nat) : gSt0 := (aN A + 1, uO (aF A) (aN A) (some f), uO (aS A) (aN A) s, (fun c => if c = aN A then cutT t else aT A c), aH A, aC A, aW A)
def mkO (A : gSt0) (t : Nat → Option Nat) (f : Nat) (s : Option Nat) : Option Nat := match firstN (sameB A t f s) (aN A) with
  | some c => some c
  | none => if aN A = 60 then none else some (aN A)
def mkA (A : gSt0) (t : Nat → Option Nat) (f : Nat) (s : Option Nat) : gSt0 := match firstN (sameB A t f s) (aN A) with
  | some _ => A
  | none => if aN A = 60 then A else addA A t f s
theorem tn_cut {t : Nat → Option Nat} (h : gTn t) : gTn (cutT t) := fun p a hp e => by
  unfold cutT at e
  rw [if_pos hp] at e
  exact h p a hp e
theorem low_add {A : gSt0} {t : Nat → Option Nat} {f : Nat} {s : Option Nat} (hA : gAi A) (hf : f < aN A) (hs : ∀ q, s = some q → q < aN A) : gLow (aF (addA A t f s)) (aS (addA A t f s)) := by
  refine ⟨fun c p h => ?_, fun c q h => ?_⟩
  · have h : uO (aF A) (aN A) (some f) c = some p := h
    by_cases e : c = aN A
    · rw [e, uO_s] at h; cases h; rw [e]; exact hf
    · rw [uO_n _ _ e] at h; exact hA.2.1.1 _ _ h
  · have h : uO (aS A) (aN A) s c = some q := h
    by_cases e : c = aN A
    · rw [e, uO_s] at h; rw [e]; exact hs q h
    · rw [uO_n _ _ e] at h; exact hA.2.1.2 _ _ h
theorem ai_add {A : gSt0} {t : Nat → Option Nat} {f : Nat} {s : Option Nat} (hA : gAi A) (ht : gTn t) (hf : f < aN A) (hs : ∀ q, s = some q → q < aN A) (h6 : aN A < 60) : gAi (addA A t f s) := by
  refine ⟨⟨Nat.le_add_left 1 _, h6⟩, low_add hA hf hs, fun c hc h0 => ?_, fun c => ?_⟩
  · have hc : c < aN A + 1 := hc
    show (uO (aF A) (aN A) (some f) c).isSome = true
    by_cases e : c = aN A
    · rw [e, uO_s]; rfl
    · rw [uO_n _ _ e]; exact hA.2.2.1 c (by omega) h0
  · show gTn (if c = aN A then cutT t else aT A c)
    split
    · exact tn_cut ht
    · exact hA.2.2.2 c
theorem mk_ai {A : gSt0} {t : Nat → Option Nat} {f : Nat} {s : Option Nat} (hA : gAi A) (ht : gTn t) (hf : f < aN A) (hs : ∀ q, s = some q → q < aN A) : gAi (mkA A t f s) ∧ aN A ≤ aN (mkA A t f s) ∧ ∀ c, mkO A t f s = some c → c < aN (mkA A t f s) := by
  unfold mkA mkO
  cases hF : firstN (sameB A t f s) (aN A) with
  | some c => exact ⟨hA, Nat.le_refl _, fun c' h => by cases h; exact (first_some.mp hF).1⟩
  | none =>
    by_cases e : aN A = 60
    · show gAi (if aN A = 60 then A else addA A t f s) ∧ aN A ≤ aN (if aN A = 60 then A else addA A t f s) ∧ ∀ c, (if aN A = 60 then none else some (aN A)) = some c → c < aN (if aN A = 60 then A else addA A t f s)
      rw [if_pos e, if_pos e]
      exact ⟨hA, Nat.le_refl _, fun c' h => by cases h⟩
    · show gAi (if aN A = 60 then A else addA A t f s) ∧ aN A ≤ aN (if aN A = 60 then A else addA A t f s) ∧ ∀ c, (if aN A = 60 then none else some (aN A)) = some c → c < aN (if aN A = 60 then A else addA A t f s)
      rw [if_neg e, if_neg e]
      exact ⟨ai_add hA ht hf hs (by have := hA.1.2; omega), Nat.le_succ _, fun c' h => by cases h; exact Nat.lt_succ_self _⟩
theorem rec_first {A : gSt0} {M : gMem} {a f : Nat} {s : Option Nat} {t : Nat → Option Nat} (hA : gAi A) (hR : gRh A M) (hr : gRo M a t) (ht : gTn t) (hf : f < aN A) (hs : ∀ q, s = some q → q < aN A) : firstN (fun c => decide (M.1 5 c = nI f) && decide (M.1 6 c = oI s) && decide (cntN (fun p => decide (¬ M.1 (10 + 2 * c + 1) p = M.1 a p)) 8 = 0)) (aN A) = firstN (sameB A t f s) (aN A) := by
  refine first_congr (fun c hc => ?_)
  have h60 := hA.1.2
  unfold sameB
  have e1 : (M.1 5 c = nI f) ↔ aF A c = some f := by
    rw [(hR.2.1 c hc).1]
    exact oI_eq (b := some f) (fun v hv => by have := hA.2.1.1 _ _ hv; omega) (fun v hv => by cases hv; omega)
  have e2 : (M.1 6 c = oI s) ↔ aS A c = s := by
    rw [(hR.2.1 c hc).2.1]
    exact oI_eq (fun v hv => by have := hA.2.1.2 _ _ hv; omega) (fun v hv => by have := hs v hv; omega)
  have e3 : cntN (fun p => decide (¬ M.1 (10 + 2 * c + 1) p = M.1 a p)) 8 = cntN (fun p => decide (¬ aT A c p = t p)) 8 := cnt_congr (fun p hp => by
    rw [hR.2.2 c hc p hp, hr p hp]
    exact decide_eq_decide.mpr (not_congr (oI_eq (nI_lt8 (hA.2.2.2 c) hp) (nI_lt8 ht hp))))
  rw [decide_eq_decide.mpr e1, decide_eq_decide.mpr e2, e3]
theorem anc_add {A : gSt0} {t : Nat → Option Nat} {f : Nat} {s : Option Nat} (hA : gAi A) (hf : f < aN A) (hs : ∀ q, s = some q → q < aN A) {c : Nat} (hc : c < aN A) (x : Nat) : anc (aF (addA A t f s)) (aS (addA A t f s)) c x = anc (aF A) (aS A) c x :=
  anc_congr (low_add hA hf hs) hA.2.1 (n := aN A) (fun k hk => ⟨uO_n _ _ (by omega), uO_n _ _ (by omega)⟩) hc x
theorem gn_add {A : gSt0} {t : Nat → Option Nat} {f : Nat} {s : Option Nat} (hA : gAi A) (hf : f < aN A) (hs : ∀ q, s = some q → q < aN A) {c : Nat} (hc : c < aN A) : gn (aF (addA A t f s)) (aS (addA A t f s)) c = gn (aF A) (aS A) c :=
  gn_congr (low_add hA hf hs) hA.2.1 (n := aN A) (fun k hk => ⟨uO_n _ _ (by omega), uO_n _ _ (by omega)⟩) c hc
theorem recM_0 (M : gMem) (n t f : Nat) (s : Option Nat) : (recM M n t f s).2.2.1 = (sF M 1 7 (nI (n + 1))).2.2.1 ∧ (recM M n t f s).2.2.2 = M.2.2.2 := ⟨rfl, rfl⟩
theorem recM_T (M : gMem) {n t f : Nat} {s : Option Nat} (hn : n < 60) : (recM M n t f s).1 (10 + 2 * n + 1) = cpF (M.1 (t + 1)) (M.1 (10 + 2 * n + 1)) 8 := by
  show (sI (sI (sI (sI _ _ _) 5 _) 6 _) 7 _).1 (10 + 2 * n + 1) = _
  rw [sI_n _ _ (show 10 + 2 * n + 1 ≠ 7 by omega), sI_n _ _ (show 10 + 2 * n + 1 ≠ 6 by omega), sI_n _ _ (show 10 + 2 * n + 1 ≠ 5 by omega), sI_s]
  rfl
theorem recM_o (M : gMem) {n t f a : Nat} {s : Option Nat} (h5 : a ≠ 5) (h6 : a ≠ 6) (h7 : a ≠ 7) (hn : a ≠ 10 + 2 * n + 1) : (recM M n t f s).1 a = M.1 a := by
  show (sI (sI (sI (sI _ _ _) 5 _) 6 _) 7 _).1 a = _
  rw [sI_n _ _ h7, sI_n _ _ h6, sI_n _ _ h5, sI_n _ _ hn]
  rfl
theorem recM_5 (M : gMem) (n t f : Nat) (s : Option Nat) : (recM M n t f s).1 5 = upd (M.1 5) n (nI f) := by
  show upd ((sI (sF M 1 7 (nI (n + 1))) (10 + 2 * n + 1) (cpF ((sF M 1 7 (nI (n + 1))).1 (t + 1)) ((sF M 1 7 (nI (n + 1))).1 (10 + 2 * n + 1)) 8)).1 5) n (nI f) = _
  rw [sI_n _ _ (show (5 : Nat) ≠ 10 + 2 * n + 1 by omega)]
  rfl
theorem recM_6 (M : gMem) (n t f : Nat) (s : Option Nat) : (recM M n t f s).1 6 = upd (M.1 6) n (oI s) := by
  show upd ((sI (sF M 1 7 (nI (n + 1))) (10 + 2 * n + 1) (cpF ((sF M 1 7 (nI (n + 1))).1 (t + 1)) ((sF M 1 7 (nI (n + 1))).1 (10 + 2 * n + 1)) 8)).1 6) n (oI s) = _
  rw [sI_n _ _ (show (6 : Nat) ≠ 10 + 2 * n + 1 by omega)]
  rfl
def g2I (M : gMem) (s : Option Nat) : Int32 := match s with
  | none => -1
  | some q => M.1 7 q
def l2L (M : gMem) (s : Option Nat) : Int64 := match s with
  | none => 0
  | some q => M.2.1 8 q
theorem recM_7 (M : gMem) (n t f : Nat) (s : Option Nat) : (recM M n t f s).1 7 = upd (M.1 7) n (nI 1 + (if M.1 7 f < g2I M s then g2I M s else M.1 7 f)) := by
  have e : (sI (sF M 1 7 (nI (n + 1))) (10 + 2 * n + 1) (cpF ((sF M 1 7 (nI (n + 1))).1 (t + 1)) ((sF M 1 7 (nI (n + 1))).1 (10 + 2 * n + 1)) 8)).1 7 = M.1 7 := by
    rw [sI_n _ _ (show (7 : Nat) ≠ 10 + 2 * n + 1 by omega)]
    rfl
  cases s with
  | none =>
    show upd ((sI (sF M 1 7 (nI (n + 1))) (10 + 2 * n + 1) (cpF ((sF M 1 7 (nI (n + 1))).1 (t + 1)) ((sF M 1 7 (nI (n + 1))).1 (10 + 2 * n + 1)) 8)).1 7) n (nI 1 + (if (sI (sF M 1 7 (nI (n + 1))) (10 + 2 * n + 1) (cpF ((sF M 1 7 (nI (n + 1))).1 (t + 1)) ((sF M 1 7 (nI (n + 1))).1 (10 + 2 * n + 1)) 8)).1 7 f < (-1 : Int32) then (-1 : Int32) else (sI (sF M 1 7 (nI (n + 1))) (10 + 2 * n + 1) (cpF ((sF M 1 7 (nI (n + 1))).1 (t + 1)) ((sF M 1 7 (nI (n + 1))).1 (10 + 2 * n + 1)) 8)).1 7 f)) = _
    rw [e]
    rfl
  | some q =>
    show upd ((sI (sF M 1 7 (nI (n + 1))) (10 + 2 * n + 1) (cpF ((sF M 1 7 (nI (n + 1))).1 (t + 1)) ((sF M 1 7 (nI (n + 1))).1 (10 + 2 * n + 1)) 8)).1 7) n (nI 1 + (if (sI (sF M 1 7 (nI (n + 1))) (10 + 2 * n + 1) (cpF ((sF M 1 7 (nI (n + 1))).1 (t + 1)) ((sF M 1 7 (nI (n + 1))).1 (10 + 2 * n + 1)) 8)).1 7 f < (sI (sF M 1 7 (nI (n + 1))) (10 + 2 * n + 1) (cpF ((sF M 1 7 (nI (n + 1))).1 (t + 1)) ((sF M 1 7 (nI (n + 1))).1 (10 + 2 * n + 1)) 8)).1 7 q then (sI (sF M 1 7 (nI (n + 1))) (10 + 2 * n + 1) (cpF ((sF M 1 7 (nI (n + 1))).1 (t + 1)) ((sF M 1 7 (nI (n + 1))).1 (10 + 2 * n + 1)) 8)).1 7 q else (sI (sF M 1 7 (nI (n + 1))) (10 + 2 * n + 1) (cpF ((sF M 1 7 (nI (n + 1))).1 (t + 1)) ((sF M 1 7 (nI (n + 1))).1 (10 + 2 * n + 1)) 8)).1 7 f)) = _
    rw [e]
    rfl
theorem recM_8 (M : gMem) (n t f : Nat) (s : Option Nat) : (recM M n t f s).2.1 8 = vp_updL (M.2.1 8) n ((M.2.1 8 f ||| l2L M s) ||| ((1 : Int64) <<< ((nI n).toInt64 &&& 63))) := by
  cases s <;> rfl
theorem recM_L (M : gMem) {n t f a : Nat} {s : Option Nat} (h : a ≠ 8) : (recM M n t f s).2.1 a = M.2.1 a := by
  show (va_up M.2.1 8 _) a = _
  exact if_neg h
theorem rec_rh {A : gSt0} {M : gMem} {a f : Nat} {s : Option Nat} {t : Nat → Option Nat} (hA : gAi A) (hR : gRh A M) (hr : gRo M (a + 1) t) (hf : f < aN A) (hs : ∀ q, s = some q → q < aN A) (h6 : aN A < 60) : gRh (addA A t f s) (recM M (aN A) a f s) := by
  have hl := low_add (t := t) hA hf hs
  refine ⟨?_, fun c hc => ?_, fun c hc p hp => ?_⟩
  · rw [(recM_0 M _ a f s).1, sF_at]
    rfl
  · have hc : c < aN A + 1 := hc
    rw [recM_5, recM_6, recM_7, recM_8]
    by_cases e : c = aN A
    · subst e
      have h5 : aF (addA A t f s) (aN A) = some f := uO_s _ _ _
      have h6' : aS (addA A t f s) (aN A) = s := uO_s _ _ _
      rw [upd_s, upd_s, upd_s, h5, h6']
      refine ⟨rfl, rfl, ?_, fun x hx => ?_⟩
      · rw [gn_eq hl h5, h6', (hR.2.1 f hf).2.2.1, gn_add hA hf hs hf]
        have g1 := gn_le hA.2.1 f
        cases s with
        | none =>
          show nI 1 + (if nI _ < (-1 : Int32) then (-1 : Int32) else nI _) = nI (1 + Nat.max _ 0)
          rw [if_neg (fun w => absurd (Int32.lt_trans w (by decide)) (nI_pos (show gn (aF A) (aS A) f < 2 ^ 31 by omega))), nI_add]
          congr 2
          exact (Nat.max_eq_left (Nat.zero_le _)).symm
        | some q =>
          have hq := hs q rfl
          have g2 := gn_le hA.2.1 q
          show nI 1 + (if nI _ < M.1 7 q then M.1 7 q else nI _) = nI (1 + Nat.max _ (gn (aF (addA A t f (some q))) (aS (addA A t f (some q))) q))
          rw [(hR.2.1 q hq).2.2.1, gn_add hA hf hs hq]
          by_cases w : gn (aF A) (aS A) f < gn (aF A) (aS A) q
          · rw [if_pos ((nI_ltI (by omega) (by omega)).mpr w), nI_add]
            congr 2
            exact (Nat.max_eq_right (Nat.le_of_lt w)).symm
          · rw [if_neg (fun v => w ((nI_ltI (by omega) (by omega)).mp v)), nI_add]
            congr 2
            exact (Nat.max_eq_left (Nat.le_of_not_lt w)).symm
      · rw [show vp_updL (M.2.1 8) (aN A) ((M.2.1 8 f ||| l2L M s) ||| ((1 : Int64) <<< ((nI (aN A)).toInt64 &&& 63))) (aN A) = _ from if_pos rfl, tb_or, tb_or, tb_shl (by omega) hx, (hR.2.1 f hf).2.2.2 x hx]
        apply Bool.eq_iff_iff.mpr
        rw [anc_iff hl, h5, h6']
        simp only [Bool.or_eq_true, decide_eq_true_eq]
        have e1 : ∀ b, b < aN A → anc (aF (addA A t f s)) (aS (addA A t f s)) b x = anc (aF A) (aS A) b x := fun b hb => anc_add hA hf hs hb x
        constructor
        · rintro ((h | h) | h)
          · exact Or.inr (Or.inl ⟨f, rfl, by rw [e1 f hf]; exact h⟩)
          · cases s with
            | none => exact absurd h (by rw [show l2L M none = 0 from rfl, tb_0]; decide)
            | some q => exact Or.inr (Or.inr ⟨q, rfl, by rw [e1 q (hs q rfl), ← (hR.2.1 q (hs q rfl)).2.2.2 x hx]; exact h⟩)
          · exact Or.inl h.symm
        · rintro (h | ⟨b, h1, h2⟩ | ⟨b, h1, h2⟩)
          · exact Or.inr h.symm
          · cases h1
            rw [e1 f hf] at h2
            exact Or.inl (Or.inl h2)
          · subst h1
            rw [e1 b (hs b rfl), ← (hR.2.1 b (hs b rfl)).2.2.2 x hx] at h2
            exact Or.inl (Or.inr h2)
    · have hc : c < aN A := by omega
      have h5 : aF (addA A t f s) c = aF A c := uO_n _ _ e
      have h6' : aS (addA A t f s) c = aS A c := uO_n _ _ e
      rw [upd_n _ _ e, upd_n _ _ e, upd_n _ _ e, h5, h6', gn_add hA hf hs hc]
      refine ⟨(hR.2.1 c hc).1, (hR.2.1 c hc).2.1, (hR.2.1 c hc).2.2.1, fun x hx => ?_⟩
      rw [show vp_updL (M.2.1 8) (aN A) _ c = M.2.1 8 c from if_neg e, anc_add hA hf hs hc]
      exact (hR.2.1 c hc).2.2.2 x hx
  · have hc : c < aN A + 1 := hc
    show _ = oI ((if c = aN A then cutT t else aT A c) p)
    by_cases e : c = aN A
    · rw [if_pos e, e, recM_T M h6, cpF_lt hp, hr p hp]
      unfold cutT
      rw [if_pos hp]
    · rw [if_neg e, recM_o M (by omega) (by omega) (by omega) (by omega)]
      exact hR.2.2 c (by omega) p hp
theorem rec_k {M : gMem} {n a f : Nat} {s : Option Nat} (h : n < 60) : gKb M (recM M n a f s) ∧ gKp M (recM M n a f s) ∧ gCls M (recM M n a f s) ∧ (recM M n a f s).1 155 = M.1 155 := by
  refine ⟨⟨fun o ho => recM_o M (by omega) (by omega) (by omega) (by omega), ?_⟩, ⟨fun o ho => recM_o M (by omega) (by omega) (by omega) (by omega), rfl, ?_, ?_⟩, ⟨rfl, fun o ho => recM_L M (by omega), fun o j ho => ?_, fun o ho => recM_o M (by omega) (by omega) (by omega) (by omega)⟩, recM_o M (by omega) (by omega) (by omega) (by omega)⟩
  · rw [(recM_0 M n a f s).1, sF_ne _ _ (by decide)]
  · rw [(recM_0 M n a f s).1, sF_ne _ _ (by decide)]
  · rw [(recM_0 M n a f s).1, sF_ne _ _ (by decide)]
  · rw [(recM_0 M n a f s).1, sF_ne _ _ (by omega)]
/-- what record does -/
theorem sp_recordW (G : gG) (M : gMem) {A : gSt0} {a f : Nat} {s : Option Nat} {t : Nat → Option Nat} (hA : gAi A) (hR : gRh A M) (hta : gTr a) (ha : 130 ≤ a) (hr : gRo M (a + 1) t) (ht : gTn t) (hf : f < aN A) (hs : ∀ q, s = some q → q < aN A) :
    SpS G mX1_record (gRm 3 0) [.ref (gb G + 1), .ref (gb G + a), .int (nI f), .int (oI s)] M (some (.int (oI (mkO A t f s)))) (fun M2 => gRh (mkA A t f s) M2 ∧ gKb M M2 ∧ gKp M M2 ∧ gCls M M2 ∧ M2.1 155 = M.1 155) := by
  have h60 := hA.1.2
  have hF := rec_first hA hR hr ht hf hs
  unfold mkO mkA
  cases e : firstN (sameB A t f s) (aN A) with
  | some c =>
    rw [e] at hF
    exact Sp.wk (sp_X1_record_old G M hR.1 h60 hta hF) ⟨hR, ⟨fun _ _ => rfl, rfl⟩, ⟨fun _ _ => rfl, rfl, rfl, rfl⟩, cls_refl M, rfl⟩
  | none =>
    rw [e] at hF
    by_cases h6 : aN A = 60
    · show SpS G mX1_record (gRm 3 0) _ M (some (.int (oI (if aN A = 60 then none else some (aN A))))) (fun M2 => gRh (if aN A = 60 then A else addA A t f s) M2 ∧ _)
      rw [if_pos h6, if_pos h6]
      exact Sp.wk (sp_X1_record_full G M hR.1 h60 hta hF h6) ⟨hR, ⟨fun _ _ => rfl, rfl⟩, ⟨fun _ _ => rfl, rfl, rfl, rfl⟩, cls_refl M, rfl⟩
    · show SpS G mX1_record (gRm 3 0) _ M (some (.int (oI (if aN A = 60 then none else some (aN A))))) (fun M2 => gRh (if aN A = 60 then A else addA A t f s) M2 ∧ _)
      rw [if_neg h6, if_neg h6]
      have h6' : aN A < 60 := by omega
      have K := rec_k (M := M) (a := a) (f := f) (s := s) h6'
      have D := rec_rh hA hR hr hf hs h6'
      cases s with
      | none => exact Sp.wk (sp_X1_record_newn G M hR.1 h60 hta (by omega) hf hF h6') ⟨D, K⟩
      | some q => exact Sp.wk (sp_X1_record_news G M hR.1 h60 (hs q rfl) hta (by omega) hf hF h6') ⟨D, K⟩
theorem sp_record (G : gG) (M : gMem) {A : gSt0} {a f : Nat} {s : Option Nat} {t : Nat → Option Nat} (hA : gAi A) (hR : gRh A M) (hta : gTr a) (ha : 130 ≤ a) (hr : gRo M (a + 1) t) (ht : gTn t) (hf : f < aN A) (hs : ∀ q, s = some q → q < aN A) :
    SpS G mX1_record (gRm 3 0) [.ref (gb G + 1), .ref (gb G + a), .int (nI f), .int (oI s)] M (some (.int (oI (mkO A t f s)))) (fun M2 => gRh (mkA A t f s) M2 ∧ gKb M M2 ∧ gKp M M2 ∧ gCls M M2) := Sp.mn (sp_recordW G M hA hR hta ha hr ht hf hs) (fun M' h => ⟨h.1, h.2.1, h.2.2.1, h.2.2.2.1⟩)
