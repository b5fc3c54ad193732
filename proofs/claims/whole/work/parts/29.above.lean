/-- above c, as far as commits behind i have told -/
def gAbv (fp sp : Nat → Option Nat) (c i : Nat) (f : Nat → Int32) : Prop := ∀ x, x < 60 → ∃ b : Bool, f x = bI b ∧ (b = true ↔ (x = c ∨ ∃ z, i < z ∧ anc fp sp c z = true ∧ (fp z = some x ∨ sp z = some x)))
theorem abv_at {fp sp : Nat → Option Nat} (hl : gLow fp sp) {c z : Nat} {f : Nat → Int32} (h : gAbv fp sp c z f) (hz : z < 60) : f z = bI (anc fp sp c z) := by
  obtain ⟨b, h1, h2⟩ := h z hz
  rw [h1]
  congr 1
  apply Bool.eq_iff_iff.mpr
  rw [h2, anc_last hl]
  constructor
  · rintro (e | ⟨w, -, h3, h4⟩)
    · exact Or.inl e.symm
    · exact Or.inr ⟨w, h3, h4⟩
  · rintro (e | ⟨w, h3, h4⟩)
    · exact Or.inl e.symm
    · refine Or.inr ⟨w, ?_, h3, h4⟩
      rcases h4 with h4 | h4
      · exact hl.1 _ _ h4
      · exact hl.2 _ _ h4
theorem abv_no {fp sp : Nat → Option Nat} {c i : Nat} {f : Nat → Int32} (h : gAbv fp sp c (i + 1) f) (e : anc fp sp c (i + 1) = false) : gAbv fp sp c i f := by
  intro x hx
  obtain ⟨b, h1, h2⟩ := h x hx
  refine ⟨b, h1, h2.trans ⟨?_, ?_⟩⟩
  · rintro (q | ⟨z, h3, h4⟩)
    · exact Or.inl q
    · exact Or.inr ⟨z, by omega, h4⟩
  · rintro (q | ⟨z, h3, h4, h5⟩)
    · exact Or.inl q
    · refine Or.inr ⟨z, ?_, h4, h5⟩
      by_cases w : z = i + 1
      · rw [w, e] at h4; cases h4
      · omega
theorem abv_1 {fp sp : Nat → Option Nat} {c i p : Nat} {f : Nat → Int32} (h : gAbv fp sp c (i + 1) f) (e : anc fp sp c (i + 1) = true) (hp : fp (i + 1) = some p) (hs : sp (i + 1) = none) : gAbv fp sp c i (upd f p (nI 1)) := by
  intro x hx
  obtain ⟨b, h1, h2⟩ := h x hx
  by_cases w : x = p
  · subst w
    exact ⟨true, upd_s _ _ _, ⟨fun _ => Or.inr ⟨i + 1, by omega, e, Or.inl hp⟩, fun _ => rfl⟩⟩
  · refine ⟨b, by rw [upd_n _ _ w]; exact h1, h2.trans ⟨?_, ?_⟩⟩
    · rintro (q | ⟨z, h3, h4⟩)
      · exact Or.inl q
      · exact Or.inr ⟨z, by omega, h4⟩
    · rintro (q | ⟨z, h3, h4, h5⟩)
      · exact Or.inl q
      · by_cases v : z = i + 1
        · exfalso
          rw [v, hp, hs] at h5
          rcases h5 with h5 | h5
          · cases h5; exact w rfl
          · cases h5
        · exact Or.inr ⟨z, by omega, h4, h5⟩
theorem abv_2 {fp sp : Nat → Option Nat} {c i p q : Nat} {f : Nat → Int32} (h : gAbv fp sp c (i + 1) f) (e : anc fp sp c (i + 1) = true) (hp : fp (i + 1) = some p) (hs : sp (i + 1) = some q) : gAbv fp sp c i (upd (upd f p (nI 1)) q (nI 1)) := by
  intro x hx
  obtain ⟨b, h1, h2⟩ := h x hx
  by_cases w : x = q
  · subst w
    exact ⟨true, upd_s _ _ _, ⟨fun _ => Or.inr ⟨i + 1, by omega, e, Or.inr hs⟩, fun _ => rfl⟩⟩
  · by_cases w2 : x = p
    · subst w2
      exact ⟨true, by rw [upd_n _ _ w]; exact upd_s _ _ _, ⟨fun _ => Or.inr ⟨i + 1, by omega, e, Or.inl hp⟩, fun _ => rfl⟩⟩
    · refine ⟨b, by rw [upd_n _ _ w, upd_n _ _ w2]; exact h1, h2.trans ⟨?_, ?_⟩⟩
      · rintro (q | ⟨z, h3, h4⟩)
        · exact Or.inl q
        · exact Or.inr ⟨z, by omega, h4⟩
      · rintro (q | ⟨z, h3, h4, h5⟩)
        · exact Or.inl q
        · by_cases v : z = i + 1
          · exfalso
            rw [v, hp, hs] at h5
            rcases h5 with h5 | h5
            · cases h5; exact w2 rfl
            · cases h5; exact w rfl
          · exact Or.inr ⟨z, by omega, h4, h5⟩
theorem abv_0 {fp sp : Nat → Option Nat} (hl : gLow fp sp) {c : Nat} {f : Nat → Int32} (h : ∀ x, x < 60 → f x = bI (decide (x = c))) : gAbv fp sp c c f := by
  intro x hx
  refine ⟨decide (x = c), h x hx, ?_⟩
  rw [decide_eq_true_eq]
  constructor
  · exact Or.inl
  · rintro (q | ⟨z, h3, h4, -⟩)
    · exact q
    · have := anc_le hl h4; omega
theorem abv_end {fp sp : Nat → Option Nat} (hl : gLow fp sp) {c : Nat} {f : Nat → Int32} (h : gAbv fp sp c 0 f) : ∀ x, x < 60 → f x = bI (anc fp sp c x) := by
  intro x hx
  obtain ⟨b, h1, h2⟩ := h x hx
  rw [h1]
  congr 1
  apply Bool.eq_iff_iff.mpr
  rw [h2, anc_last hl]
  constructor
  · rintro (e | ⟨w, -, h3, h4⟩)
    · exact Or.inl e.symm
    · exact Or.inr ⟨w, h3, h4⟩
  · rintro (e | ⟨w, h3, h4⟩)
    · exact Or.inl e.symm
    · refine Or.inr ⟨w, ?_, h3, h4⟩
      rcases h4 with h4 | h4
      · have := hl.1 _ _ h4; omega
      · have := hl.2 _ _ h4; omega
/-- a base as far as commits below j have told -/
def bsJ (A : gSt0) (c o x j : Nat) : Bool := cmN A c o x && !anyN (fun k => cmN A c o k && (anc (aF A) (aS A) k x && !decide (x = k))) j
theorem bsJ_s {A : gSt0} {c o x j : Nat} : bsJ A c o x (j + 1) = (bsJ A c o x j && !(cmN A c o j && (anc (aF A) (aS A) j x && !decide (x = j)))) := by
  show (cmN A c o x && !(anyN _ j || _)) = _
  rw [Bool.not_or, ← Bool.and_assoc]
  rfl
theorem bsJ_0 {A : gSt0} (hA : gAi A) {c o x : Nat} : ∀ j, j ≤ x + 1 → bsJ A c o x j = cmN A c o x := by
  intro j
  induction j with
  | zero => intro _; show (cmN A c o x && !false) = _; rw [Bool.not_false, Bool.and_true]
  | succ j ih =>
    intro h
    rw [bsJ_s, ih (by omega)]
    have : (anc (aF A) (aS A) j x && !decide (x = j)) = false := by
      by_cases e : x = j
      · rw [decide_eq_true e, Bool.not_true, Bool.and_false]
      · cases e2 : anc (aF A) (aS A) j x with
        | false => rfl
        | true => have := anc_le hA.2.1 e2; omega
    rw [this, Bool.and_false, Bool.not_false, Bool.and_true]
theorem bsJ_f {A : gSt0} {c o x j : Nat} (h : bsJ A c o x j = false) : ∀ m, bsJ A c o x (j + m) = false := by
  intro m
  induction m with
  | zero => exact h
  | succ m ih => rw [← Nat.add_assoc, bsJ_s, ih, Bool.false_and]
theorem cm_big {A : gSt0} (hA : gAi A) {c o x : Nat} (hc : c < aN A) (hx : aN A ≤ x) : cmN A c o x = false := by
  unfold cmN
  cases e : anc (aF A) (aS A) c x with
  | false => rfl
  | true => have := anc_le hA.2.1 e; omega
theorem bs_big {A : gSt0} (hA : gAi A) {c o x : Nat} (hc : c < aN A) (hx : aN A ≤ x) : bsB A c o x = false := by
  unfold bsB
  rw [cm_big hA hc hx]
  rfl
/-- the best base is the last base -/
theorem bb_bs {A : gSt0} (hA : gAi A) {c o : Nat} (hc : c < aN A) (ho : o < aN A) : bsB A c o ((bbO A c o).getD 0) = true ∧ ∀ j, (bbO A c o).getD 0 < j → bsB A c o j = false := by
  obtain ⟨h1, h2⟩ := bb_some hA hc ho
  obtain ⟨-, h4, h5⟩ := last_some.mp h1
  constructor
  · unfold bsB
    rw [h4, Bool.true_and]
    cases e : anyN (fun k => cmN A c o k && (anc (aF A) (aS A) k ((bbO A c o).getD 0) && !decide ((bbO A c o).getD 0 = k))) (aN A) with
    | false => rfl
    | true =>
      exfalso
      obtain ⟨k, hk, h6⟩ := any_iff.mp e
      simp only [Bool.and_eq_true, Bool.not_eq_true', decide_eq_false_iff_not] at h6
      have := anc_le hA.2.1 h6.2.1
      have h7 := h5 k (by omega) hk
      rw [h6.1] at h7
      cases h7
  · intro j hj
    by_cases hn : j < aN A
    · unfold bsB
      rw [h5 j hj hn]
      rfl
    · exact bs_big hA hc (by omega)
theorem any_cut {P : Nat → Bool} {n m : Nat} (h : n ≤ m) (hz : ∀ i, n ≤ i → i < m → P i = false) : anyN P m = anyN P n := by
  induction m with
  | zero => rw [show n = 0 by omega]
  | succ m ih =>
    by_cases e : n = m + 1
    · rw [e]
    · show (anyN P m || P m) = _
      rw [hz m (by omega) (by omega), Bool.or_false, ih (by omega) (fun i h1 h2 => hz i h1 (by omega))]
theorem bsJ_end {A : gSt0} (hA : gAi A) {c o x j : Nat} (hc : c < aN A) (h : aN A ≤ j) : bsJ A c o x j = bsB A c o x := by
  unfold bsJ bsB
  rw [any_cut h (fun k h1 _ => by rw [cm_big hA hc h1]; rfl)]
theorem bsJ_off {A : gSt0} {c o x j : Nat} (hj : j ≤ aN A) (h : bsJ A c o x j = false) : bsJ A c o x j = bsB A c o x := by
  have := bsJ_f h (aN A - j)
  rw [show j + (aN A - j) = aN A by omega] at this
  rw [h]
  exact this.symm
theorem bs_a {A : gSt0} {c o x j : Nat} (h : cmN A c o j = false) : bsJ A c o x (j + 1) = bsJ A c o x j := by
  rw [bsJ_s, h, Bool.false_and, Bool.not_false, Bool.and_true]
theorem bs_b {A : gSt0} {c o x j : Nat} (h : cmN A c o j = true) (h2 : anc (aF A) (aS A) j x = true) (hx : x < j) : bsJ A c o x (j + 1) = false := by
  rw [bsJ_s, h, h2, decide_eq_false (show ¬ x = j by omega)]
  simp
theorem bs_c {A : gSt0} {c o x j : Nat} (h : bsJ A c o x j = true) (h2 : anc (aF A) (aS A) j x = false) : bsJ A c o x (j + 1) = true := by
  rw [bsJ_s, h, h2]
  simp
theorem bI_nar2 (b : Bool) : vp_nar .boolean (bI b) = bI b := by cases b <;> rfl
/-- only scratch differs, not even thrown -/
def gKz (M M' : gMem) : Prop := gKm M M' ∧ M'.2.2.1 156 7 = M.2.2.1 156 7
theorem kt_refl (M : gMem) : gKz M M := ⟨km_refl M, rfl⟩
theorem kt_trans {M M1 M2 : gMem} (h : gKz M M1) (h' : gKz M1 M2) : gKz M M2 := ⟨km_trans h.1 h'.1, h'.2.trans h.2⟩
theorem kt_sI (M : gMem) {o : Nat} (f : Nat → Int32) (h : 222 ≤ o ∧ o ≤ 235) : gKz M (sI M o f) := ⟨km_sI M f h, rfl⟩
set_option maxHeartbeats 4000000 in
set_option maxRecDepth 100000 in
theorem sp_X7_findsAbove (G : gG) (M : gMem) {A : gSt0} (hA : gAi A) (hk : gRk A M) {a c : Nat} (ha : gKd a = (2, 60)) (ha2 : a < 239) (ha3 : 220 ≤ a) (hc : c < aN A) : SpS G mX7_findsAbove (gRm 0 0) [.ref (gb G + 156), .int (nI c), .ref (gb G + a)] M (none) (fun M2 => ∃ f, M2 = sI M a f ∧ ∀ x, x < 60 → f x = bI (anc (aF A) (aS A) c x)) := by
  refine Sp.of (by decide +kernel) (Nat.le_of_ble_eq_true rfl) (fun X C CM => ?_)
  have C : gC G X RX7 cX7_findsAbove 4 (gRm 0 0) := C
  have h60 := hA.1.2
  refine j_iconst C (v := nI 0) dX7_findsAbove_0 rfl ?_
  refine j_istore_n C dX7_findsAbove_1 (by decide) rfl ?_
  have K2 : ∀ i, i ≤ 60 → Q G X 0 0 2 [some (.ref (gb G + 156)), some (.int (nI c)), some (.ref (gb G + a)), some (.int (nI i))] [] (sI M a (cpF (fun x => bI (decide (x = c))) (M.1 a) i)) := by
    refine g_up _ _ (fun i hi ih => ?_)
    refine j_iload_n C dX7_findsAbove_2 rfl ?_
    refine j_bipush C (v := nI 60) dX7_findsAbove_3 rfl ?_
    refine q_icmp_ge C 27 dX7_findsAbove_5 (by decide) (by omega) (by omega) (fun h5 => ?_) (fun h5 => ?_)
    · refine j_iload_n C dX7_findsAbove_27 rfl ?_
      refine j_istore_n C dX7_findsAbove_28 (by decide) rfl ?_
      have K29 : ∀ i, i ≤ c → ∀ f, gAbv (aF A) (aS A) c i f → Q G X 0 0 29 [some (.ref (gb G + 156)), some (.int (nI c)), some (.ref (gb G + a)), some (.int (nI i))] [] (sI M a f) := by
        refine g_dn _ ?_ (fun i ih => ?_)
        · intro hi f hf
          refine j_iload_n C dX7_findsAbove_29 rfl ?_
          refine j_if_le C 73 dX7_findsAbove_30 (fun _ => ?_) (fun h => absurd (by decide) h) (by decide)
          exact q_vretS C CM rfl (by decide) (by decide) dX7_findsAbove_73 ⟨f, rfl, abv_end hA.2.1 hf⟩
        · intro hi f hf
          refine j_iload_n C dX7_findsAbove_29 rfl ?_
          refine j_if_le C 73 dX7_findsAbove_30 (fun h => absurd h (nI_nle (by omega) (by omega))) (fun _ => ?_) (by decide)
          have hp0 := hA.2.2.1 (i + 1) (by omega) (by omega)
          obtain ⟨p, hp⟩ := Option.isSome_iff_exists.mp hp0
          have hpl := hA.2.1.1 _ _ hp
          refine j_aload_n C dX7_findsAbove_33 rfl ?_
          refine j_iload_n C dX7_findsAbove_34 rfl ?_
          refine q_zald C ha ha2 (by decide) (by omega) dX7_findsAbove_35 ?_
          rw [sI_s, abv_at hA.2.1 hf (by omega)]
          refine q_if_eq0 C 67 dX7_findsAbove_36 (by decide) (fun h36 => ?_) (fun h36 => ?_)
          · refine q_idec C dX7_findsAbove_67 rfl (by decide) rfl ?_
            refine j_goto C 29 dX7_findsAbove_70 ?_ (by decide)
            exact q_cast (ih (by omega) _ (by first | exact abv_no hf h36 | exact abv_1 hf h36 hp h55 | exact abv_2 hf h36 hp h55)) (gLe_c rfl (gLe_c rfl (gLe_c rfl (gLe_c rfl gLe_0)))) (by first | rfl | rw [sI_sI, sI_s])
          · refine j_aload_n C dX7_findsAbove_39 rfl ?_
            refine j_aload_n C dX7_findsAbove_40 rfl ?_
            refine q_get C fX7 1 rfl (by decide) (by decide) lf_X7_14 rfl rfl dX7_findsAbove_41 ?_
            refine j_iload_n C dX7_findsAbove_44 rfl ?_
            refine q_iald C rfl (by decide) (by decide) (by omega) dX7_findsAbove_45 ?_
            rw [show (sI M a f).1 218 (i + 1) = nI p from by rw [sI_n _ _ (show (218 : Nat) ≠ a by omega), (hk.2.1 (i + 1) (by omega)).1, hp]; rfl]
            refine j_iconst C (v := nI 1) dX7_findsAbove_46 rfl ?_
            refine q_zast C ha ha2 (by decide) (by omega) rfl dX7_findsAbove_47 ?_
            refine j_aload_n C dX7_findsAbove_48 rfl ?_
            refine q_get C fX7 2 rfl (by decide) (by decide) lf_X7_18 rfl rfl dX7_findsAbove_49 ?_
            refine j_iload_n C dX7_findsAbove_52 rfl ?_
            refine q_iald C rfl (by decide) (by decide) (by omega) dX7_findsAbove_53 ?_
            rw [sI_sI, sI_s, sI_n _ _ (show (219 : Nat) ≠ a by omega), (hk.2.1 (i + 1) (by omega)).2]
            refine j_iconst C (v := -1) dX7_findsAbove_54 rfl ?_
            refine q_icmp_eqN C 67 dX7_findsAbove_55 (by decide) (fun v hv => by have := hA.2.1.2 _ _ hv; omega) (fun h55 => ?_) (fun v55 h55 => ?_)
            · refine q_idec C dX7_findsAbove_67 rfl (by decide) rfl ?_
              refine j_goto C 29 dX7_findsAbove_70 ?_ (by decide)
              exact q_cast (ih (by omega) _ (by first | exact abv_no hf h36 | exact abv_1 hf h36 hp h55 | exact abv_2 hf h36 hp h55)) (gLe_c rfl (gLe_c rfl (gLe_c rfl (gLe_c rfl gLe_0)))) (by first | rfl | rw [sI_sI, sI_s])
            · refine j_aload_n C dX7_findsAbove_58 rfl ?_
              refine j_aload_n C dX7_findsAbove_59 rfl ?_
              refine q_get C fX7 2 rfl (by decide) (by decide) lf_X7_18 rfl rfl dX7_findsAbove_60 ?_
              refine j_iload_n C dX7_findsAbove_63 rfl ?_
              refine q_iald C rfl (by decide) (by decide) (by omega) dX7_findsAbove_64 ?_
              rw [show (sI M a (upd f p (nI 1))).1 219 (i + 1) = nI v55 from by rw [sI_n _ _ (show (219 : Nat) ≠ a by omega), (hk.2.1 (i + 1) (by omega)).2, h55]; rfl]
              refine j_iconst C (v := nI 1) dX7_findsAbove_65 rfl ?_
              refine q_zast C ha ha2 (by decide) (by have := hA.2.1.2 _ _ h55; omega) rfl dX7_findsAbove_66 ?_
              refine q_idec C dX7_findsAbove_67 rfl (by decide) rfl ?_
              refine j_goto C 29 dX7_findsAbove_70 ?_ (by decide)
              exact q_cast (ih (by omega) _ (by first | exact abv_no hf h36 | exact abv_1 hf h36 hp h55 | exact abv_2 hf h36 hp h55)) (gLe_c rfl (gLe_c rfl (gLe_c rfl (gLe_c rfl gLe_0)))) (by first | rfl | rw [sI_sI, sI_s])
      exact q_cast (K29 c (Nat.le_refl c) _ (abv_0 hA.2.1 (fun x hx => cpF_lt (show x < i by omega)))) (gLe_c rfl (gLe_c rfl (gLe_c rfl (gLe_c rfl gLe_0)))) rfl
    · refine j_aload_n C dX7_findsAbove_8 rfl ?_
      refine j_iload_n C dX7_findsAbove_9 rfl ?_
      refine j_iload_n C dX7_findsAbove_10 rfl ?_
      refine j_iload_n C dX7_findsAbove_11 rfl ?_
      refine q_icmp_ne C 19 dX7_findsAbove_12 (by decide) (by omega) (by omega) (fun h12 => ?_) (fun h12 => ?_)
      · refine j_iconst C (v := nI 0) dX7_findsAbove_19 rfl ?_
        refine q_zast C ha ha2 (by decide) (by omega) rfl dX7_findsAbove_20 ?_
        refine q_iinc C dX7_findsAbove_21 rfl (by decide) rfl ?_
        refine j_goto C 2 dX7_findsAbove_24 ?_ (by decide)
        exact q_cast (ih (by omega)) (gLe_c rfl (gLe_c rfl (gLe_c rfl (gLe_c rfl gLe_0)))) (by rw [sI_sI, sI_s, ← cpF_s]; first | rw [show bI (decide (i = c)) = nI 1 from by rw [decide_eq_true h12]; rfl] | rw [show bI (decide (i = c)) = nI 0 from by rw [decide_eq_false h12]; rfl])
      · refine j_iconst C (v := nI 1) dX7_findsAbove_15 rfl ?_
        refine j_goto C 20 dX7_findsAbove_16 ?_ (by decide)
        refine q_zast C ha ha2 (by decide) (by omega) rfl dX7_findsAbove_20 ?_
        refine q_iinc C dX7_findsAbove_21 rfl (by decide) rfl ?_
        refine j_goto C 2 dX7_findsAbove_24 ?_ (by decide)
        exact q_cast (ih (by omega)) (gLe_c rfl (gLe_c rfl (gLe_c rfl (gLe_c rfl gLe_0)))) (by rw [sI_sI, sI_s, ← cpF_s]; first | rw [show bI (decide (i = c)) = nI 1 from by rw [decide_eq_true h12]; rfl] | rw [show bI (decide (i = c)) = nI 0 from by rw [decide_eq_false h12]; rfl])
  exact q_cast (K2 0 (by omega)) (gLe_c rfl (gLe_c rfl (gLe_c rfl (gLe_c rfl gLe_0)))) (by rw [cpF_0, sI_id])
set_option maxHeartbeats 4000000 in
set_option maxRecDepth 100000 in
theorem sp_X7_isAbove (G : gG) (M : gMem) {A : gSt0} (hA : gAi A) (hk : gRk A M) {c o : Nat} (hc : c < aN A) (ho : o < aN A) : SpS G mX7_isAbove (gRm 1 0) [.ref (gb G + 156), .int (nI c), .int (nI o)] M (some (.int (bI (anc (aF A) (aS A) o c)))) (fun M2 => gKz M M2) := by
  refine Sp.of (by decide +kernel) (Nat.le_of_ble_eq_true rfl) (fun X C CM => ?_)
  have C : gC G X RX7 cX7_isAbove 3 (gRm 1 0) := C
  have h60 := hA.1.2
  refine j_aload_n C dX7_isAbove_0 rfl ?_
  refine j_iload_n C dX7_isAbove_1 rfl ?_
  refine j_aload_n C dX7_isAbove_2 rfl ?_
  refine q_get C fX7 21 rfl (by decide) (by decide) lf_X7_65 rfl rfl dX7_isAbove_3 ?_
  refine q_callVS C (sp_X7_findsAbove G M hA hk (a := 233) rfl (by decide) (by decide) ho) vX7_findsAbove lk_X7_120 rfl (by decide) rfl rfl (Nat.le_of_ble_eq_true rfl) (by decide) dX7_isAbove_6 (fun M2 hM2 => ?_)
  obtain ⟨f, rfl, hf⟩ := hM2
  refine j_aload_n C dX7_isAbove_9 rfl ?_
  refine q_get C fX7 21 rfl (by decide) (by decide) lf_X7_65 rfl rfl dX7_isAbove_10 ?_
  refine j_iload_n C dX7_isAbove_13 rfl ?_
  refine q_zald C rfl (by decide) (by decide) (by omega) dX7_isAbove_14 ?_
  exact q_zretS C CM rfl (by decide) (by decide) dX7_isAbove_15 (by rw [sI_s]; exact hf c (by omega)) (kt_sI M f (by decide))
set_option maxHeartbeats 4000000 in
set_option maxRecDepth 100000 in
theorem sp_X7_findsBases (G : gG) (M : gMem) {A : gSt0} (hA : gAi A) (hk : gRk A M) {c o : Nat} (hc : c < aN A) (ho : o < aN A) : SpS G mX7_findsBases (gRm 2 0) [.ref (gb G + 156), .int (nI c), .int (nI o)] M (some (.int (nI (cntN (bsB A c o) (aN A))))) (fun M2 => gKz M M2 ∧ ∀ x, x < 60 → M2.1 235 x = bI (bsB A c o x)) := by
  refine Sp.of (by decide +kernel) (Nat.le_of_ble_eq_true rfl) (fun X C CM => ?_)
  have C : gC G X RX7 cX7_findsBases 7 (gRm 2 0) := C
  have h60 := hA.1.2
  refine j_aload_n C dX7_findsBases_0 rfl ?_
  refine j_iload_n C dX7_findsBases_1 rfl ?_
  refine j_aload_n C dX7_findsBases_2 rfl ?_
  refine q_get C fX7 21 rfl (by decide) (by decide) lf_X7_65 rfl rfl dX7_findsBases_3 ?_
  refine q_callVS C (sp_X7_findsAbove G M hA hk (a := 233) rfl (by decide) (by decide) hc) vX7_findsAbove lk_X7_120 rfl (by decide) rfl rfl (Nat.le_of_ble_eq_true rfl) (by decide) dX7_findsBases_6 (fun M2 hM2 => ?_)
  obtain ⟨f1, rfl, hf1⟩ := hM2
  refine j_aload_n C dX7_findsBases_9 rfl ?_
  refine j_iload_n C dX7_findsBases_10 rfl ?_
  refine j_aload_n C dX7_findsBases_11 rfl ?_
  refine q_get C fX7 22 rfl (by decide) (by decide) lf_X7_68 rfl rfl dX7_findsBases_12 ?_
  refine q_callVS C (sp_X7_findsAbove G _ hA (rk_k hA hk (km_sI M f1 (by decide))) (a := 234) rfl (by decide) (by decide) ho) vX7_findsAbove lk_X7_120 rfl (by decide) rfl rfl (Nat.le_of_ble_eq_true rfl) (by decide) dX7_findsBases_15 (fun M2 hM2 => ?_)
  obtain ⟨f2, rfl, hf2⟩ := hM2
  refine j_iconst C (v := nI 0) dX7_findsBases_18 rfl ?_
  refine j_istore_n C dX7_findsBases_19 (by decide) rfl ?_
  have K20 : ∀ i, i ≤ 60 → Q G X 0 0 20 [some (.ref (gb G + 156)), some (.int (nI c)), some (.int (nI o)), some (.int (nI i)), none, none, none] [] (sI (sI (sI M 233 f1) 234 f2) 228 (cpF (fun x => bI (cmN A c o x)) ((sI (sI M 233 f1) 234 f2).1 228) i)) := by
    refine g_up _ _ (fun i hi ih => ?_)
    refine j_iload_n C dX7_findsBases_20 rfl ?_
    refine j_bipush C (v := nI 60) dX7_findsBases_21 rfl ?_
    refine q_icmp_ge C 61 dX7_findsBases_23 (by decide) (by omega) (by omega) (fun h23 => ?_) (fun h23 => ?_)
    · refine j_iconst C (v := nI 0) dX7_findsBases_61 rfl ?_
      refine j_istore_n C dX7_findsBases_62 (by decide) rfl ?_
      refine j_iconst C (v := nI 0) dX7_findsBases_63 rfl ?_
      refine j_istore C dX7_findsBases_64 (by decide) rfl ?_
      have K66 : ∀ i, i ≤ 60 → ∀ M2, gKz M M2 → (∀ x, x < 60 → M2.1 228 x = bI (cmN A c o x)) → (∀ x, x < i → M2.1 235 x = bI (bsB A c o x)) → Q G X 0 0 66 [some (.ref (gb G + 156)), some (.int (nI c)), some (.int (nI o)), some (.int (nI (cntN (bsB A c o) i))), some (.int (nI i)), none, none] [] (M2) := by
        refine g_up _ _ (fun i hi ih => ?_)
        intro M2 s2 c2 b2
        refine j_iload C dX7_findsBases_66 rfl ?_
        refine j_bipush C (v := nI 60) dX7_findsBases_68 rfl ?_
        refine q_icmp_ge C 173 dX7_findsBases_70 (by decide) (by omega) (by omega) (fun h70 => ?_) (fun h70 => ?_)
        · refine j_iload_n C dX7_findsBases_173 rfl ?_
          exact q_iretS C CM rfl (by decide) (by decide) dX7_findsBases_174 (by rw [show i = 60 by omega, cnt_cut h60 (fun x h1 _ => bs_big hA hc h1)]) ⟨s2, fun x hx => b2 x (by omega)⟩
        · refine j_aload_n C dX7_findsBases_73 rfl ?_
          refine q_get C fX7 15 rfl (by decide) (by decide) lf_X7_49 rfl rfl dX7_findsBases_74 ?_
          refine j_iload C dX7_findsBases_77 rfl ?_
          refine q_zald C rfl (by decide) (by decide) (by omega) dX7_findsBases_79 ?_
          rw [c2 i h70]
          refine j_istore C dX7_findsBases_80 (by decide) rfl ?_
          refine j_iload C dX7_findsBases_82 rfl ?_
          refine j_iconst C (v := nI 1) dX7_findsBases_84 rfl ?_
          refine q_iadd C dX7_findsBases_85 ?_
          refine j_istore C dX7_findsBases_86 (by decide) rfl ?_
          have K88 : ∀ d j, j + d = 60 → i < j → ∀ M3, gKz M M3 → (∀ x, x < 60 → M3.1 228 x = bI (cmN A c o x)) → (∀ x, x < i → M3.1 235 x = bI (bsB A c o x)) → Q G X 0 0 88 [some (.ref (gb G + 156)), some (.int (nI c)), some (.int (nI o)), some (.int (nI (cntN (bsB A c o) i))), some (.int (nI i)), some (.int (bI (bsJ A c o i j))), some (.int (nI j))] [] M3 := by
            intro d
            induction d with
            | zero =>
              intro j hj hij M3 s3 c3 b3
              have rk2 := rk_k hA hk s3.1
              refine j_iload C dX7_findsBases_88 rfl ?_
              refine j_aload_n C dX7_findsBases_90 rfl ?_
              refine q_get C fX7 3 rfl (by decide) (by decide) lf_X7_21 rfl rfl dX7_findsBases_91 ?_
              rw [rk2.1]
              refine q_icmp_ge C 145 dX7_findsBases_94 (by decide) (by omega) (by omega) (fun h94 => ?_) (fun h94 => ?_)
              · have hbj : bsJ A c o i j = bsB A c o i := by first | exact bsJ_end hA hc h94 | exact bsJ_off (Nat.le_of_lt h94) h99
                rw [hbj]
                refine j_aload_n C dX7_findsBases_145 rfl ?_
                refine q_get C fX7 23 rfl (by decide) (by decide) lf_X7_71 rfl rfl dX7_findsBases_146 ?_
                refine j_iload C dX7_findsBases_149 rfl ?_
                refine j_iload C dX7_findsBases_151 rfl ?_
                refine q_zast C rfl (by decide) (by decide) (by omega) (bI_nar2 _) dX7_findsBases_153 ?_
                refine j_iload_n C dX7_findsBases_154 rfl ?_
                refine j_iload C dX7_findsBases_155 rfl ?_
                refine q_if_eq0 C 164 dX7_findsBases_157 (by decide) (fun h157 => ?_) (fun h157 => ?_)
                · refine j_iconst C (v := nI 0) dX7_findsBases_164 rfl ?_
                  refine q_iadd C dX7_findsBases_165 ?_
                  refine j_istore_n C dX7_findsBases_166 (by decide) rfl ?_
                  refine q_iinc C dX7_findsBases_167 rfl (by decide) rfl ?_
                  refine j_goto C 66 dX7_findsBases_170 ?_ (by decide)
                  exact q_cast (ih (by omega) _ (kt_trans s3 (kt_sI M3 _ (by decide))) (fun x hx => by rw [sI_n _ _ (by decide)]; exact c3 x hx) (fun x hx => by rw [sI_s]; by_cases e : x = i; (rw [e, upd_s]); (rw [upd_n _ _ e]; exact b3 x (by omega)))) (gLe_c rfl (gLe_c rfl (gLe_c rfl (gLe_c (by first | rw [cnt_t h157] | (rw [cnt_f h157]; rfl)) (gLe_c rfl (gLe_n (gLe_n gLe_0))))))) (rfl)
                · refine j_iconst C (v := nI 1) dX7_findsBases_160 rfl ?_
                  refine j_goto C 165 dX7_findsBases_161 ?_ (by decide)
                  refine q_iadd C dX7_findsBases_165 ?_
                  refine j_istore_n C dX7_findsBases_166 (by decide) rfl ?_
                  refine q_iinc C dX7_findsBases_167 rfl (by decide) rfl ?_
                  refine j_goto C 66 dX7_findsBases_170 ?_ (by decide)
                  exact q_cast (ih (by omega) _ (kt_trans s3 (kt_sI M3 _ (by decide))) (fun x hx => by rw [sI_n _ _ (by decide)]; exact c3 x hx) (fun x hx => by rw [sI_s]; by_cases e : x = i; (rw [e, upd_s]); (rw [upd_n _ _ e]; exact b3 x (by omega)))) (gLe_c rfl (gLe_c rfl (gLe_c rfl (gLe_c (by first | rw [cnt_t h157] | (rw [cnt_f h157]; rfl)) (gLe_c rfl (gLe_n (gLe_n gLe_0))))))) (rfl)
              · omega
            | succ d ihd =>
              intro j hj hij M3 s3 c3 b3
              have rk2 := rk_k hA hk s3.1
              refine j_iload C dX7_findsBases_88 rfl ?_
              refine j_aload_n C dX7_findsBases_90 rfl ?_
              refine q_get C fX7 3 rfl (by decide) (by decide) lf_X7_21 rfl rfl dX7_findsBases_91 ?_
              rw [rk2.1]
              refine q_icmp_ge C 145 dX7_findsBases_94 (by decide) (by omega) (by omega) (fun h94 => ?_) (fun h94 => ?_)
              · have hbj : bsJ A c o i j = bsB A c o i := by first | exact bsJ_end hA hc h94 | exact bsJ_off (Nat.le_of_lt h94) h99
                rw [hbj]
                refine j_aload_n C dX7_findsBases_145 rfl ?_
                refine q_get C fX7 23 rfl (by decide) (by decide) lf_X7_71 rfl rfl dX7_findsBases_146 ?_
                refine j_iload C dX7_findsBases_149 rfl ?_
                refine j_iload C dX7_findsBases_151 rfl ?_
                refine q_zast C rfl (by decide) (by decide) (by omega) (bI_nar2 _) dX7_findsBases_153 ?_
                refine j_iload_n C dX7_findsBases_154 rfl ?_
                refine j_iload C dX7_findsBases_155 rfl ?_
                refine q_if_eq0 C 164 dX7_findsBases_157 (by decide) (fun h157 => ?_) (fun h157 => ?_)
                · refine j_iconst C (v := nI 0) dX7_findsBases_164 rfl ?_
                  refine q_iadd C dX7_findsBases_165 ?_
                  refine j_istore_n C dX7_findsBases_166 (by decide) rfl ?_
                  refine q_iinc C dX7_findsBases_167 rfl (by decide) rfl ?_
                  refine j_goto C 66 dX7_findsBases_170 ?_ (by decide)
                  exact q_cast (ih (by omega) _ (kt_trans s3 (kt_sI M3 _ (by decide))) (fun x hx => by rw [sI_n _ _ (by decide)]; exact c3 x hx) (fun x hx => by rw [sI_s]; by_cases e : x = i; (rw [e, upd_s]); (rw [upd_n _ _ e]; exact b3 x (by omega)))) (gLe_c rfl (gLe_c rfl (gLe_c rfl (gLe_c (by first | rw [cnt_t h157] | (rw [cnt_f h157]; rfl)) (gLe_c rfl (gLe_n (gLe_n gLe_0))))))) (rfl)
                · refine j_iconst C (v := nI 1) dX7_findsBases_160 rfl ?_
                  refine j_goto C 165 dX7_findsBases_161 ?_ (by decide)
                  refine q_iadd C dX7_findsBases_165 ?_
                  refine j_istore_n C dX7_findsBases_166 (by decide) rfl ?_
                  refine q_iinc C dX7_findsBases_167 rfl (by decide) rfl ?_
                  refine j_goto C 66 dX7_findsBases_170 ?_ (by decide)
                  exact q_cast (ih (by omega) _ (kt_trans s3 (kt_sI M3 _ (by decide))) (fun x hx => by rw [sI_n _ _ (by decide)]; exact c3 x hx) (fun x hx => by rw [sI_s]; by_cases e : x = i; (rw [e, upd_s]); (rw [upd_n _ _ e]; exact b3 x (by omega)))) (gLe_c rfl (gLe_c rfl (gLe_c rfl (gLe_c (by first | rw [cnt_t h157] | (rw [cnt_f h157]; rfl)) (gLe_c rfl (gLe_n (gLe_n gLe_0))))))) (rfl)
              · refine j_iload C dX7_findsBases_97 rfl ?_
                refine q_if_eq0 C 145 dX7_findsBases_99 (by decide) (fun h99 => ?_) (fun h99 => ?_)
                · have hbj : bsJ A c o i j = bsB A c o i := by first | exact bsJ_end hA hc h94 | exact bsJ_off (Nat.le_of_lt h94) h99
                  rw [hbj]
                  refine j_aload_n C dX7_findsBases_145 rfl ?_
                  refine q_get C fX7 23 rfl (by decide) (by decide) lf_X7_71 rfl rfl dX7_findsBases_146 ?_
                  refine j_iload C dX7_findsBases_149 rfl ?_
                  refine j_iload C dX7_findsBases_151 rfl ?_
                  refine q_zast C rfl (by decide) (by decide) (by omega) (bI_nar2 _) dX7_findsBases_153 ?_
                  refine j_iload_n C dX7_findsBases_154 rfl ?_
                  refine j_iload C dX7_findsBases_155 rfl ?_
                  refine q_if_eq0 C 164 dX7_findsBases_157 (by decide) (fun h157 => ?_) (fun h157 => ?_)
                  · refine j_iconst C (v := nI 0) dX7_findsBases_164 rfl ?_
                    refine q_iadd C dX7_findsBases_165 ?_
                    refine j_istore_n C dX7_findsBases_166 (by decide) rfl ?_
                    refine q_iinc C dX7_findsBases_167 rfl (by decide) rfl ?_
                    refine j_goto C 66 dX7_findsBases_170 ?_ (by decide)
                    exact q_cast (ih (by omega) _ (kt_trans s3 (kt_sI M3 _ (by decide))) (fun x hx => by rw [sI_n _ _ (by decide)]; exact c3 x hx) (fun x hx => by rw [sI_s]; by_cases e : x = i; (rw [e, upd_s]); (rw [upd_n _ _ e]; exact b3 x (by omega)))) (gLe_c rfl (gLe_c rfl (gLe_c rfl (gLe_c (by first | rw [cnt_t h157] | (rw [cnt_f h157]; rfl)) (gLe_c rfl (gLe_n (gLe_n gLe_0))))))) (rfl)
                  · refine j_iconst C (v := nI 1) dX7_findsBases_160 rfl ?_
                    refine j_goto C 165 dX7_findsBases_161 ?_ (by decide)
                    refine q_iadd C dX7_findsBases_165 ?_
                    refine j_istore_n C dX7_findsBases_166 (by decide) rfl ?_
                    refine q_iinc C dX7_findsBases_167 rfl (by decide) rfl ?_
                    refine j_goto C 66 dX7_findsBases_170 ?_ (by decide)
                    exact q_cast (ih (by omega) _ (kt_trans s3 (kt_sI M3 _ (by decide))) (fun x hx => by rw [sI_n _ _ (by decide)]; exact c3 x hx) (fun x hx => by rw [sI_s]; by_cases e : x = i; (rw [e, upd_s]); (rw [upd_n _ _ e]; exact b3 x (by omega)))) (gLe_c rfl (gLe_c rfl (gLe_c rfl (gLe_c (by first | rw [cnt_t h157] | (rw [cnt_f h157]; rfl)) (gLe_c rfl (gLe_n (gLe_n gLe_0))))))) (rfl)
                · refine j_aload_n C dX7_findsBases_102 rfl ?_
                  refine q_get C fX7 15 rfl (by decide) (by decide) lf_X7_49 rfl rfl dX7_findsBases_103 ?_
                  refine j_iload C dX7_findsBases_106 rfl ?_
                  refine q_zald C rfl (by decide) (by decide) (by omega) dX7_findsBases_108 ?_
                  rw [c3 j (by omega)]
                  refine q_if_eq0 C 139 dX7_findsBases_109 (by decide) (fun h109 => ?_) (fun h109 => ?_)
                  · refine q_iinc C dX7_findsBases_139 rfl (by decide) rfl ?_
                    refine j_goto C 88 dX7_findsBases_142 ?_ (by decide)
                    exact q_cast (ihd (j + 1) (by omega) (by omega) _ (by first | exact s3 | exact kt_trans s3 (kt_sI M3 _ (by decide))) (fun x hx => by first | exact c3 x hx | (rw [sI_n _ _ (by decide)]; exact c3 x hx)) (fun x hx => by first | exact b3 x hx | (rw [sI_n _ _ (by decide)]; exact b3 x hx))) (gLe_c rfl (gLe_c rfl (gLe_c rfl (gLe_c rfl (gLe_c rfl (gLe_c (by first | rw [bs_a h109] | (rw [bs_b h109 h129 hij]; rfl) | (rw [bs_c h99 h129]; rfl)) (gLe_c rfl gLe_0))))))) rfl
                  · refine j_aload_n C dX7_findsBases_112 rfl ?_
                    refine j_iload C dX7_findsBases_113 rfl ?_
                    refine j_aload_n C dX7_findsBases_115 rfl ?_
                    refine q_get C fX7 21 rfl (by decide) (by decide) lf_X7_65 rfl rfl dX7_findsBases_116 ?_
                    refine q_callVS C (sp_X7_findsAbove G M3 hA rk2 (a := 233) rfl (by decide) (by decide) h94) vX7_findsAbove lk_X7_120 rfl (by decide) rfl rfl (Nat.le_of_ble_eq_true rfl) (by decide) dX7_findsBases_119 (fun M4 hM4 => ?_)
                    obtain ⟨f3, rfl, hf3⟩ := hM4
                    refine j_aload_n C dX7_findsBases_122 rfl ?_
                    refine q_get C fX7 21 rfl (by decide) (by decide) lf_X7_65 rfl rfl dX7_findsBases_123 ?_
                    refine j_iload C dX7_findsBases_126 rfl ?_
                    refine q_zald C rfl (by decide) (by decide) (by omega) dX7_findsBases_128 ?_
                    rw [sI_s, hf3 i h70]
                    refine q_if_ne0 C 136 dX7_findsBases_129 (by decide) (fun h129 => ?_) (fun h129 => ?_)
                    · refine j_iconst C (v := nI 0) dX7_findsBases_136 rfl ?_
                      refine j_istore C dX7_findsBases_137 (by decide) rfl ?_
                      refine q_iinc C dX7_findsBases_139 rfl (by decide) rfl ?_
                      refine j_goto C 88 dX7_findsBases_142 ?_ (by decide)
                      exact q_cast (ihd (j + 1) (by omega) (by omega) _ (by first | exact s3 | exact kt_trans s3 (kt_sI M3 _ (by decide))) (fun x hx => by first | exact c3 x hx | (rw [sI_n _ _ (by decide)]; exact c3 x hx)) (fun x hx => by first | exact b3 x hx | (rw [sI_n _ _ (by decide)]; exact b3 x hx))) (gLe_c rfl (gLe_c rfl (gLe_c rfl (gLe_c rfl (gLe_c rfl (gLe_c (by first | rw [bs_a h109] | (rw [bs_b h109 h129 hij]; rfl) | (rw [bs_c h99 h129]; rfl)) (gLe_c rfl gLe_0))))))) rfl
                    · refine j_iconst C (v := nI 1) dX7_findsBases_132 rfl ?_
                      refine j_goto C 137 dX7_findsBases_133 ?_ (by decide)
                      refine j_istore C dX7_findsBases_137 (by decide) rfl ?_
                      refine q_iinc C dX7_findsBases_139 rfl (by decide) rfl ?_
                      refine j_goto C 88 dX7_findsBases_142 ?_ (by decide)
                      exact q_cast (ihd (j + 1) (by omega) (by omega) _ (by first | exact s3 | exact kt_trans s3 (kt_sI M3 _ (by decide))) (fun x hx => by first | exact c3 x hx | (rw [sI_n _ _ (by decide)]; exact c3 x hx)) (fun x hx => by first | exact b3 x hx | (rw [sI_n _ _ (by decide)]; exact b3 x hx))) (gLe_c rfl (gLe_c rfl (gLe_c rfl (gLe_c rfl (gLe_c rfl (gLe_c (by first | rw [bs_a h109] | (rw [bs_b h109 h129 hij]; rfl) | (rw [bs_c h99 h129]; rfl)) (gLe_c rfl gLe_0))))))) rfl
          exact q_cast (K88 (60 - (i + 1)) (i + 1) (by omega) (by omega) M2 s2 c2 b2) (gLe_c rfl (gLe_c rfl (gLe_c rfl (gLe_c rfl (gLe_c rfl (gLe_c (by rw [bsJ_0 hA (i + 1) (Nat.le_refl _)]) (gLe_c rfl gLe_0))))))) rfl
      exact q_cast (K66 0 (by omega) _ (kt_trans (kt_trans (kt_sI M f1 (by decide)) (kt_sI _ f2 (by decide))) (kt_sI _ _ (by decide))) (fun x hx => by rw [sI_s]; exact cpF_lt (by omega)) (fun x hx => absurd hx (by omega))) (gLe_c rfl (gLe_c rfl (gLe_c rfl (gLe_c rfl (gLe_c rfl (gLe_n (gLe_n gLe_0))))))) (rfl)
    · refine j_aload_n C dX7_findsBases_26 rfl ?_
      refine q_get C fX7 15 rfl (by decide) (by decide) lf_X7_49 rfl rfl dX7_findsBases_27 ?_
      refine j_iload_n C dX7_findsBases_30 rfl ?_
      refine j_aload_n C dX7_findsBases_31 rfl ?_
      refine q_get C fX7 21 rfl (by decide) (by decide) lf_X7_65 rfl rfl dX7_findsBases_32 ?_
      refine j_iload_n C dX7_findsBases_35 rfl ?_
      refine q_zald C rfl (by decide) (by decide) (by omega) dX7_findsBases_36 ?_
      rw [sI_n _ _ (show (233 : Nat) ≠ 228 by decide), sI_n _ _ (show (233 : Nat) ≠ 234 by decide), sI_s, hf1 i h23]
      refine q_if_eq0 C 53 dX7_findsBases_37 (by decide) (fun h37 => ?_) (fun h37 => ?_)
      · refine j_iconst C (v := nI 0) dX7_findsBases_53 rfl ?_
        refine q_zast C rfl (by decide) (by decide) (by omega) rfl dX7_findsBases_54 ?_
        refine q_iinc C dX7_findsBases_55 rfl (by decide) rfl ?_
        refine j_goto C 20 dX7_findsBases_58 ?_ (by decide)
        exact q_cast (ih (by omega)) (gLe_c rfl (gLe_c rfl (gLe_c rfl (gLe_c rfl (gLe_n (gLe_n (gLe_n gLe_0))))))) (by rw [sI_sI, sI_s, ← cpF_s]; first | rw [show bI (cmN A c o i) = nI 1 from by unfold cmN; rw [h37, h46]; rfl] | rw [show bI (cmN A c o i) = nI 0 from by unfold cmN; rw [h37, h46]; rfl] | rw [show bI (cmN A c o i) = nI 0 from by unfold cmN; rw [h37]; rfl])
      · refine j_aload_n C dX7_findsBases_40 rfl ?_
        refine q_get C fX7 22 rfl (by decide) (by decide) lf_X7_68 rfl rfl dX7_findsBases_41 ?_
        refine j_iload_n C dX7_findsBases_44 rfl ?_
        refine q_zald C rfl (by decide) (by decide) (by omega) dX7_findsBases_45 ?_
        rw [sI_n _ _ (show (234 : Nat) ≠ 228 by decide), sI_s, hf2 i h23]
        refine q_if_eq0 C 53 dX7_findsBases_46 (by decide) (fun h46 => ?_) (fun h46 => ?_)
        · refine j_iconst C (v := nI 0) dX7_findsBases_53 rfl ?_
          refine q_zast C rfl (by decide) (by decide) (by omega) rfl dX7_findsBases_54 ?_
          refine q_iinc C dX7_findsBases_55 rfl (by decide) rfl ?_
          refine j_goto C 20 dX7_findsBases_58 ?_ (by decide)
          exact q_cast (ih (by omega)) (gLe_c rfl (gLe_c rfl (gLe_c rfl (gLe_c rfl (gLe_n (gLe_n (gLe_n gLe_0))))))) (by rw [sI_sI, sI_s, ← cpF_s]; first | rw [show bI (cmN A c o i) = nI 1 from by unfold cmN; rw [h37, h46]; rfl] | rw [show bI (cmN A c o i) = nI 0 from by unfold cmN; rw [h37, h46]; rfl] | rw [show bI (cmN A c o i) = nI 0 from by unfold cmN; rw [h37]; rfl])
        · refine j_iconst C (v := nI 1) dX7_findsBases_49 rfl ?_
          refine j_goto C 54 dX7_findsBases_50 ?_ (by decide)
          refine q_zast C rfl (by decide) (by decide) (by omega) rfl dX7_findsBases_54 ?_
          refine q_iinc C dX7_findsBases_55 rfl (by decide) rfl ?_
          refine j_goto C 20 dX7_findsBases_58 ?_ (by decide)
          exact q_cast (ih (by omega)) (gLe_c rfl (gLe_c rfl (gLe_c rfl (gLe_c rfl (gLe_n (gLe_n (gLe_n gLe_0))))))) (by rw [sI_sI, sI_s, ← cpF_s]; first | rw [show bI (cmN A c o i) = nI 1 from by unfold cmN; rw [h37, h46]; rfl] | rw [show bI (cmN A c o i) = nI 0 from by unfold cmN; rw [h37, h46]; rfl] | rw [show bI (cmN A c o i) = nI 0 from by unfold cmN; rw [h37]; rfl])
  exact q_cast (K20 0 (by omega)) (gLe_c rfl (gLe_c rfl (gLe_c rfl (gLe_c rfl (gLe_n (gLe_n (gLe_n gLe_0))))))) (by rw [cpF_0, sI_id])
set_option maxHeartbeats 4000000 in
set_option maxRecDepth 100000 in
theorem sp_X7_bestBase (G : gG) (M : gMem) {A : gSt0} (hA : gAi A) (hk : gRk A M) {c o : Nat} (hc : c < aN A) (ho : o < aN A) : SpS G mX7_bestBase (gRm 3 0) [.ref (gb G + 156), .int (nI c), .int (nI o)] M (some (.int (oI (bbO A c o)))) (gKz M) := by
  refine Sp.of (by decide +kernel) (Nat.le_of_ble_eq_true rfl) (fun X C CM => ?_)
  have C : gC G X RX7 cX7_bestBase 4 (gRm 3 0) := C
  have h60 := hA.1.2
  have hb := bb_some hA hc ho
  have hbs := bb_bs hA hc ho
  refine j_aload_n C dX7_bestBase_0 rfl ?_
  refine j_iload_n C dX7_bestBase_1 rfl ?_
  refine j_iload_n C dX7_bestBase_2 rfl ?_
  refine q_callVS C (sp_X7_findsBases G M hA hk hc ho) vX7_findsBases lk_X7_124 rfl (by decide) rfl rfl (Nat.le_of_ble_eq_true rfl) (by decide) dX7_bestBase_3 (fun M2 hM2 => ?_)
  refine j_pop C dX7_bestBase_6 rfl ?_
  refine j_bipush C (v := nI 59) dX7_bestBase_7 rfl ?_
  refine j_istore_n C dX7_bestBase_9 (by decide) rfl ?_
  have K10 : ∀ i, (bbO A c o).getD 0 + i < 60 → Q G X 0 0 10 [some (.ref (gb G + 156)), some (.int (nI c)), some (.int (nI o)), some (.int (nI ((bbO A c o).getD 0 + i)))] [] M2 := by
    refine g_dn _ ?_ (fun i ih => ?_)
    · intro hi
      refine j_aload_n C dX7_bestBase_10 rfl ?_
      refine q_get C fX7 23 rfl (by decide) (by decide) lf_X7_71 rfl rfl dX7_bestBase_11 ?_
      refine j_iload_n C dX7_bestBase_14 rfl ?_
      refine q_zald C rfl (by decide) (by decide) (by omega) dX7_bestBase_15 ?_
      rw [hM2.2 _ hi, Nat.add_zero]
      refine q_if_ne0 C 25 dX7_bestBase_16 (by decide) (fun h16 => ?_) (fun h16 => ?_)
      · refine j_iload_n C dX7_bestBase_25 rfl ?_
        exact q_iretS C CM rfl (by decide) (by decide) dX7_bestBase_26 (by first | (rw [hb.1, Nat.add_zero]; rfl) | (rw [hb.1]; rfl)) hM2.1
      · rw [Nat.add_zero, hbs.1] at h16; cases h16
    · intro hi
      refine j_aload_n C dX7_bestBase_10 rfl ?_
      refine q_get C fX7 23 rfl (by decide) (by decide) lf_X7_71 rfl rfl dX7_bestBase_11 ?_
      refine j_iload_n C dX7_bestBase_14 rfl ?_
      refine q_zald C rfl (by decide) (by decide) (by omega) dX7_bestBase_15 ?_
      rw [hM2.2 _ hi]
      refine q_if_ne0 C 25 dX7_bestBase_16 (by decide) (fun h16 => ?_) (fun h16 => ?_)
      · rw [hbs.2 _ (by omega)] at h16; cases h16
      · refine q_idec C dX7_bestBase_19 rfl (by decide) rfl ?_
        refine j_goto C 10 dX7_bestBase_22 ?_ (by decide)
        exact q_cast (ih (by omega)) (gLe_c rfl (gLe_c rfl (gLe_c rfl (gLe_c rfl gLe_0)))) rfl
  exact q_cast (K10 (59 - (bbO A c o).getD 0) (by omega)) (gLe_c rfl (gLe_c rfl (gLe_c rfl (gLe_c (by rw [show (bbO A c o).getD 0 + (59 - (bbO A c o).getD 0) = 59 by omega]) gLe_0)))) rfl
