def cmN (A : gSt0) (c o x : Nat) : Bool := anc (aF A) (aS A) c x && anc (aF A) (aS A) o x
def bbO (A : gSt0) (c o : Nat) : Option Nat := lastN (cmN A c o) (aN A)
def bsB (A : gSt0) (c o x : Nat) : Bool := cmN A c o x && !anyN (fun k => cmN A c o k && (anc (aF A) (aS A) k x && !decide (x = k))) (aN A)
def lcO (A : gSt0) (p h : Nat) : Option Nat := lch (fun c q => decide (¬ aT A c p = aT A q p)) (aF A) 60 h
def aP (A : gSt0) : gPk := pkN (aT A) (aN A)
def oContentIn (A : gSt0) (c p : Int32) : gRes := match inB c (aN A) with
  | none => (1, 0, A)
  | some c => match inB p 8 with
    | none => (1, 0, A)
    | some p => match aT A c p with
      | none => (2, 0, A)
      | some x => (0, nI x, A)
def parO (A : gSt0) (c d : Nat) : Option Nat := if d = 0 then aF A c else aS A c
def oParentOf (A : gSt0) (c d : Int32) : gRes := match inB c (aN A) with
  | none => (1, 0, A)
  | some c => match inB d 2 with
    | none => (1, 0, A)
    | some d => match parO A c d with
      | none => (2, 0, A)
      | some x => (0, nI x, A)
def oGeneration (A : gSt0) (c : Int32) : gRes := match inB c (aN A) with
  | none => (1, 0, A)
  | some c => (0, nI (gn (aF A) (aS A) c), A)
/-- a question about two commits -/
def oTwo (A : gSt0) (f : Nat → Nat → Int32) (c o : Int32) : gRes := match inB c (aN A) with
  | none => (1, 0, A)
  | some c => match inB o (aN A) with
    | none => (1, 0, A)
    | some o => (0, f c o, A)
def fAnc (A : gSt0) (c o : Nat) : Int32 := bI (anc (aF A) (aS A) o c)
def fBase (A : gSt0) (c o : Nat) : Int32 := oI (bbO A c o)
def fBases (A : gSt0) (c o : Nat) : Int32 := nI (cntN (bsB A c o) (aN A))
def mgA (A : gSt0) (c o : Nat) : Nat := mgN (aT A ((bbO A c o).getD 0)) (aT A c) (aT A o)
def fConf (A : gSt0) (c o : Nat) : Int32 := nI (mgA A c o)
def oMovedTo (A : gSt0) (c o p : Int32) : gRes := match inB c (aN A) with
  | none => (1, 0, A)
  | some c => match inB o (aN A) with
    | none => (1, 0, A)
    | some o => match inB p 8 with
      | none => (1, 0, A)
      | some p => match moves (aT A c) (aT A o) p with
        | none => (2, 0, A)
        | some q => (0, nI q, A)
def oLastChange (A : gSt0) (p : Int32) : gRes := match inB p 8 with
  | none => (1, 0, A)
  | some p => match lcO A p (aHd A) with
    | none => (2, 0, A)
    | some c => (0, nI c, A)
def oDepthOf (A : gSt0) (x : Int32) : gRes := match pkF (aP A) x with
  | none => (1, 0, A)
  | some k => (0, nI ((aP A).2.2.2.1 k), A)
def oPackedFrom (A : gSt0) (x : Int32) : gRes := match pkF (aP A) x with
  | none => (1, 0, A)
  | some k => match (aP A).2.2.2.2 k with
    | none => (1, 0, A)
    | some j => (0, nI ((aP A).2.1 j), A)
theorem in2_0 {y : Int32} (h : y = 0) : ∃ d, inB y 2 = some d ∧ y = nI d ∧ d < 2 := ⟨0, by rw [h]; decide, h, by decide⟩
theorem in2_1 {y : Int32} (h : y = nI 1) : ∃ d, inB y 2 = some d ∧ y = nI d ∧ d < 2 := ⟨1, by rw [h]; decide, h, by decide⟩
theorem in2_n {y : Int32} (h0 : ¬ y = 0) (h1 : ¬ y = nI 1) : inB y 2 = none := by
  cases e : inB y 2 with
  | none => rfl
  | some d =>
    obtain ⟨h2, h3⟩ := inB_some (by decide) e
    match d, h3 with
    | 0, _ => exact absurd h2 h0
    | 1, _ => exact absurd h2 h1
theorem anc_root {A : gSt0} (hA : gAi A) : ∀ c, c < aN A → anc (aF A) (aS A) c 0 = true := by
  intro c
  induction c using Nat.strongRecOn with
  | ind c ih =>
    intro hc
    by_cases e : c = 0
    · rw [e]; exact anc_refl hA.2.1 0
    · have h1 := hA.2.2.1 c hc (by omega)
      cases e2 : aF A c with
      | none => rw [e2] at h1; cases h1
      | some p =>
        have := hA.2.1.1 _ _ e2
        exact (anc_iff hA.2.1).mpr (Or.inr (Or.inl ⟨p, e2, ih p this (by omega)⟩))
theorem bb_some {A : gSt0} (hA : gAi A) {c o : Nat} (hc : c < aN A) (ho : o < aN A) : bbO A c o = some ((bbO A c o).getD 0) ∧ (bbO A c o).getD 0 < aN A := by
  cases e : bbO A c o with
  | none =>
    have : cmN A c o 0 = false := by
      have h1 : ∀ i, i < aN A → cmN A c o i = false := by
        intro i hi
        cases e2 : cmN A c o i with
        | false => rfl
        | true =>
          exfalso
          have := last_skip (P := cmN A c o) (n := aN A) (i := i + 1)
          have h2 : ∀ m, i < m → lastN (cmN A c o) m ≠ none := by
            intro m
            induction m with
            | zero => intro h; omega
            | succ m ihm =>
              intro h
              rw [last_s]
              by_cases e3 : cmN A c o m = true
              · rw [if_pos e3]; exact fun q => by cases q
              · rw [if_neg e3]
                exact ihm (by by_cases e4 : i = m; (rw [← e4] at e3; exact absurd e2 e3); omega)
          exact h2 (aN A) hi e
      exact h1 0 (by have := hA.1.1; omega)
    unfold cmN at this
    rw [anc_root hA c hc, anc_root hA o ho] at this
    cases this
  | some b => exact ⟨rfl, (last_some.mp e).1⟩
theorem lch_congr {D D' : Nat → Nat → Bool} {fp : Nat → Option Nat} {n : Nat} (hl : ∀ c q, fp c = some q → q < c) (h : ∀ c q, c < n → q < n → D c q = D' c q) : ∀ f c, c < n → lch D fp f c = lch D' fp f c := by
  intro f
  induction f with
  | zero => intro c _; rfl
  | succ f ih =>
    intro c hc
    rw [lch_s, lch_s]
    cases e : fp c with
    | none => rfl
    | some q =>
      have := hl _ _ e
      show (if D c q = true then some c else lch D fp f q) = (if D' c q = true then some c else lch D' fp f q)
      rw [h c q hc (by omega), ih q (by omega)]
theorem any_congr {P R : Nat → Bool} {n : Nat} (h : ∀ i, i < n → P i = R i) : anyN P n = anyN R n := by
  induction n with
  | zero => rfl
  | succ n ih =>
    show (anyN P n || P n) = (anyN R n || R n)
    rw [ih (fun i hi => h i (by omega)), h n (by omega)]
theorem cnt_cut {P : Nat → Bool} {n m : Nat} (h : n ≤ m) (hz : ∀ i, n ≤ i → i < m → P i = false) : cntN P m = cntN P n := by
  induction m with
  | zero => rw [show n = 0 by omega]
  | succ m ih =>
    by_cases e : n = m + 1
    · rw [e]
    · rw [cnt_f (hz m (by omega) (by omega)), ih (by omega) (fun i h1 h2 => hz i h1 (by omega))]
theorem bases_of {A : gSt0} {M : gMem} (hA : gAi A) (hh : gRh A M) {c o : Nat} (hc : c < aN A) (ho : o < aN A) : cntN (fun x => (fun k => tb (M.2.1 8 c) k && tb (M.2.1 8 o) k) x && !surN (fun k => tb (M.2.1 8 c) k && tb (M.2.1 8 o) k) (M.2.1 8) (aN A) x) 64 = cntN (bsB A c o) (aN A) := by
  have h60 := hA.1.2
  have e : ∀ x, x < 64 → (tb (M.2.1 8 c) x && tb (M.2.1 8 o) x) = cmN A c o x := fun x hx => by
    rw [(hh.2.1 c hc).2.2.2 x hx, (hh.2.1 o ho).2.2.2 x hx]; rfl
  rw [cnt_cut (n := aN A) (m := 64) (by omega) (fun i h1 h2 => ?_)]
  · refine cnt_congr (fun x hx => ?_)
    show ((tb (M.2.1 8 c) x && tb (M.2.1 8 o) x) && _) = _
    rw [e x (by omega)]
    unfold bsB surN
    rw [any_congr (fun k hk => ?_)]
    show ((tb (M.2.1 8 c) k && tb (M.2.1 8 o) k) && _) = _
    rw [e k (by omega), (hh.2.1 k hk).2.2.2 x (by omega)]
  · show ((tb (M.2.1 8 c) i && tb (M.2.1 8 o) i) && _) = false
    rw [e i h2]
    have : anc (aF A) (aS A) c i = false := by
      cases e2 : anc (aF A) (aS A) c i with
      | false => rfl
      | true => have := anc_le hA.2.1 e2; omega
    unfold cmN
    rw [this]
    rfl
theorem base_of {A : gSt0} {M : gMem} (hA : gAi A) (hh : gRh A M) {c o : Nat} (hc : c < aN A) (ho : o < aN A) : lastN (fun k => tb (M.2.1 8 c) k && tb (M.2.1 8 o) k) (aN A) = bbO A c o := last_congr (fun x hx => by
  have h60 := hA.1.2
  rw [(hh.2.1 c hc).2.2.2 x (by omega), (hh.2.1 o ho).2.2.2 x (by omega)]
  rfl)
theorem lc_of {A : gSt0} {M : gMem} (hA : gAi A) (hh : gRh A M) {p h : Nat} (hp : p < 8) (hh2 : h < aN A) : lch (fun c q => decide (¬ M.1 (10 + 2 * c + 1) p = M.1 (10 + 2 * q + 1) p)) (aF A) 60 h = lcO A p h := lch_congr hA.2.1.1 (fun c q hc hq => by
  rw [hh.2.2 c hc p hp, hh.2.2 q hq p hp]
  exact decide_eq_decide.mpr (not_congr (oI_eq (nI_lt8 (hA.2.2.2 c) hp) (nI_lt8 (hA.2.2.2 q) hp)))) 60 h hh2
theorem lch_lt {D : Nat → Nat → Bool} {fp : Nat → Option Nat} (hl : ∀ c q, fp c = some q → q < c) : ∀ f c v, lch D fp f c = some v → v ≤ c := by
  intro f
  induction f with
  | zero => intro c v h; cases h
  | succ f ih =>
    intro c v h
    rw [lch_s] at h
    cases e : fp c with
    | none => rw [e] at h; cases h
    | some q =>
      rw [e] at h
      have h : (if D c q = true then some c else lch D fp f q) = some v := h
      have := hl _ _ e
      split at h
      · cases h; omega
      · have := ih q v h; omega
theorem pk_lim {A : gSt0} (hA : gAi A) : gPi (aP A) ∧ (aP A).1 ≤ 480 := by
  have := pkN_pi (T := aT A) (n := aN A) (fun c _ => hA.2.2.2 c) (Nat.le_refl _)
  have h60 := hA.1.2
  exact ⟨this.1, Nat.le_trans this.2 (by omega)⟩
theorem par_lt {A : gSt0} (hA : gAi A) {c d : Nat} (hc : c < aN A) : ∀ v, parO A c d = some v → v < 2 ^ 31 := fun v h => by
  have h60 := hA.1.2
  unfold parO at h
  split at h
  · have := hA.2.1.1 _ _ h; omega
  · have := hA.2.1.2 _ _ h; omega
theorem scr_9 {M M2 : gMem} (h : ∃ f, M2 = sI M 9 f) : gScr M M2 := by
  obtain ⟨f, rfl⟩ := h
  exact scr_sI M f (Or.inl rfl)
theorem sp_depth (G : gG) (M : gMem) {P : gPk} (hP : gPq P M) (hn : P.1 ≤ 480) {o : Option Nat} (ho : ∀ k, o = some k → k < P.1) : SpR G mX3_depthAt (gRm 1 0) [.ref (gb G + 148), .int (oI o)] M (some (.int (oI (o.map P.2.2.2.1)))) M := by
  cases o with
  | none => exact sp_X3_depthAt_n G M
  | some k =>
    have := sp_X3_depthAt G M hP hn (ho k rfl)
    rw [(hP.2.2 k (ho k rfl)).2.2] at this
    exact this
def frO (P : gPk) (o : Option Nat) : Option Nat := match o with
  | none => none
  | some k => (P.2.2.2.2 k).map P.2.1
theorem sp_source (G : gG) (M : gMem) {P : gPk} (hP : gPq P M) (hn : P.1 ≤ 480) {o : Option Nat} (ho : ∀ k, o = some k → k < P.1) : SpR G mX3_sourceAt (gRm 1 0) [.ref (gb G + 148), .int (oI o)] M (some (.int (oI (frO P o)))) M := by
  cases o with
  | none => exact sp_X3_sourceAt_n G M
  | some k =>
    have := sp_X3_sourceAt G M hP hn (ho k rfl)
    rw [(hP.2.2 k (ho k rfl)).2.1] at this
    exact this
theorem o_depth_n {A : gSt0} {x : Int32} (h : (pkF (aP A) x).map (aP A).2.2.2.1 = none) : oDepthOf A x = (1, 0, A) := by
  unfold oDepthOf
  cases e : pkF (aP A) x with
  | none => rfl
  | some k => rw [e] at h; cases h
theorem o_depth_s {A : gSt0} {x : Int32} {v : Nat} (h : (pkF (aP A) x).map (aP A).2.2.2.1 = some v) : oDepthOf A x = (0, nI v, A) := by
  unfold oDepthOf
  cases e : pkF (aP A) x with
  | none => rw [e] at h; cases h
  | some k => rw [e] at h; cases h; rfl
theorem o_from_n {A : gSt0} {x : Int32} (h : frO (aP A) (pkF (aP A) x) = none) : oPackedFrom A x = (1, 0, A) := by
  unfold oPackedFrom
  cases e : pkF (aP A) x with
  | none => rfl
  | some k =>
    rw [e] at h
    have h : ((aP A).2.2.2.2 k).map (aP A).2.1 = none := h
    cases e2 : (aP A).2.2.2.2 k with
    | none => simp only [e2]
    | some j => rw [e2] at h; cases h
theorem o_from_s {A : gSt0} {x : Int32} {v : Nat} (h : frO (aP A) (pkF (aP A) x) = some v) : oPackedFrom A x = (0, nI v, A) := by
  unfold oPackedFrom
  cases e : pkF (aP A) x with
  | none => rw [e] at h; cases h
  | some k =>
    rw [e] at h
    have h : ((aP A).2.2.2.2 k).map (aP A).2.1 = some v := h
    cases e2 : (aP A).2.2.2.2 k with
    | none => rw [e2] at h; cases h
    | some j => rw [e2] at h; cases h; simp only [e2]
theorem o_depth_lt {A : gSt0} (hA : gAi A) {x : Int32} : ∀ v, (pkF (aP A) x).map (aP A).2.2.2.1 = some v → v < 2 ^ 31 := fun v h => by
  cases e : pkF (aP A) x with
  | none => rw [e] at h; cases h
  | some k => rw [e] at h; cases h; exact Nat.lt_of_le_of_lt ((pk_lim hA).1 k (pkF_lt e)).2.2.1 (by decide)
theorem o_from_lt {A : gSt0} (hA : gAi A) {x : Int32} : ∀ v, frO (aP A) (pkF (aP A) x) = some v → v < 2 ^ 31 := fun v h => by
  cases e : pkF (aP A) x with
  | none => rw [e] at h; cases h
  | some k =>
    rw [e] at h
    have h : ((aP A).2.2.2.2 k).map (aP A).2.1 = some v := h
    cases e2 : (aP A).2.2.2.2 k with
    | none => rw [e2] at h; cases h
    | some j =>
      rw [e2] at h; cases h
      have hk := pkF_lt e
      have hj := ((pk_lim hA).1 k hk).2.2.2 j e2
      exact Nat.lt_trans ((pk_lim hA).1 j (by omega)).1 (by decide)
set_option maxHeartbeats 4000000 in
set_option maxRecDepth 100000 in
theorem sp_X6_contentIn (G : gG) (M : gMem) {A : gSt0} (hA : gAi A) (hB : gAb A) (hC : gRC A M) (x y : Int32) : SpO G mX6_contentIn (gRm 2 3) [.ref (gb G + 0), .int x, .int y] M (gPost ["java/lang/IndexOutOfBoundsException", "java/util/NoSuchElementException"] (oContentIn A x y) M) := by
  refine Sp.of (by decide +kernel) (Nat.le_of_ble_eq_true rfl) (fun X C CM => ?_)
  have C : gC G X RX6 cX6_contentIn 3 (gRm 2 3) := C
  refine j_aload_n C dX6_contentIn_0 rfl ?_
  refine j_iload_n C dX6_contentIn_1 rfl ?_
  refine q_callVO C CM rfl (sp_X6_requireCommit G M hC.1.1 hA.1.2 x) vX6_requireCommit lk_X6_123 rfl (by decide) rfl rfl (Nat.le_of_ble_eq_true rfl) (by decide) (by decide) (by decide) dX6_contentIn_2 (fun w2 M2 w => ?_) (fun E M2 w => by obtain ⟨rfl, h0, rfl⟩ := ask_x w; exact post_no (k := 0) (by simp only [oContentIn, h0]) rfl hC (cls_refl _))
  obtain ⟨rfl, c, hc, rfl⟩ := ask_v w
  obtain ⟨rfl, hcn⟩ := inB_some (by have := hA.1.2; omega) hc
  refine j_iload_n C dX6_contentIn_5 rfl ?_
  refine q_callSO C CM rfl (sp_X6_requirePath G M y) vX6_requirePath lk_X6_48 rfl rfl (Nat.le_of_ble_eq_true rfl) (by decide) (by decide) (by decide) dX6_contentIn_6 (fun w6 M6 w => ?_) (fun E M6 w => by obtain ⟨rfl, h0, rfl⟩ := ask_x w; exact post_no (k := 0) (by simp only [oContentIn, hc, h0]) rfl hC (cls_refl _))
  obtain ⟨rfl, p, hp, rfl⟩ := ask_v w
  obtain ⟨rfl, hp8⟩ := inB_some (by decide) hp
  refine j_aload_n C dX6_contentIn_9 rfl ?_
  refine q_get C fX6 0 rfl (by decide) (by decide) lf_X6_10 rfl rfl dX6_contentIn_10 ?_
  refine j_iload_n C dX6_contentIn_13 rfl ?_
  refine q_callV C (sp_X1_treeOf G M hC.1.1 hA.1.2 hcn) vX1_treeOf lk_X6_79 rfl (by decide) rfl rfl (Nat.le_of_ble_eq_true rfl) (by decide) dX6_contentIn_14 ?_
  refine j_iload_n C dX6_contentIn_17 rfl ?_
  refine q_callSO C CM rfl (sp_X6_requireFile G M (gTr_c (Nat.lt_of_lt_of_le hcn hA.1.2)) (hC.1.2.2 c hcn) (hA.2.2.2 c) hp8) vX6_requireFile lk_X6_67 rfl rfl (Nat.le_of_ble_eq_true rfl) (by decide) (by decide) (by decide) dX6_contentIn_18 (fun w18 M18 w => ?_) (fun E M18 w => by obtain ⟨rfl, h0, rfl⟩ := ask_x w; exact post_no (k := 1) (by simp only [oContentIn, hc, hp, h0]) rfl hC (cls_refl _))
  obtain ⟨rfl, z, hz, rfl⟩ := ask_v w
  exact q_iretO C CM rfl (by decide) (by decide) dX6_contentIn_21 (post_ok (by simp only [oContentIn, hc, hp, hz]) hC (cls_refl _))
set_option maxHeartbeats 4000000 in
set_option maxRecDepth 100000 in
theorem sp_X6_parentOf (G : gG) (M : gMem) {A : gSt0} (hA : gAi A) (hB : gAb A) (hC : gRC A M) (x y : Int32) : SpO G mX6_parentOf (gRm 2 2) [.ref (gb G + 0), .int x, .int y] M (gPost ["java/lang/IndexOutOfBoundsException", "java/util/NoSuchElementException"] (oParentOf A x y) M) := by
  refine Sp.of (by decide +kernel) (Nat.le_of_ble_eq_true rfl) (fun X C CM => ?_)
  have C : gC G X RX6 cX6_parentOf 4 (gRm 2 2) := C
  refine j_aload_n C dX6_parentOf_0 rfl ?_
  refine j_iload_n C dX6_parentOf_1 rfl ?_
  refine q_callVO C CM rfl (sp_X6_requireCommit G M hC.1.1 hA.1.2 x) vX6_requireCommit lk_X6_123 rfl (by decide) rfl rfl (Nat.le_of_ble_eq_true rfl) (by decide) (by decide) (by decide) dX6_parentOf_2 (fun w2 M2 w => ?_) (fun E M2 w => by obtain ⟨rfl, h0, rfl⟩ := ask_x w; exact post_no (k := 0) (by simp only [oParentOf, h0]) rfl hC (cls_refl _))
  obtain ⟨rfl, c, hc, rfl⟩ := ask_v w
  obtain ⟨rfl, hcn⟩ := inB_some (by have := hA.1.2; omega) hc
  refine j_iload_n C dX6_parentOf_5 rfl ?_
  refine j_if_eq C 24 dX6_parentOf_6 (fun h6 => ?_) (fun h6 => ?_) (by decide)
  · obtain ⟨d, hd, rfl, hd2⟩ : ∃ d, inB y 2 = some d ∧ y = nI d ∧ d < 2 := by first | exact in2_0 h6 | exact in2_1 h11
    refine j_iload_n C dX6_parentOf_24 rfl ?_
    refine q_ifz_ne C 39 dX6_parentOf_25 (by decide) (by omega) (fun h25 => ?_) (fun h25 => ?_)
    · refine j_aload_n C dX6_parentOf_39 rfl ?_
      refine q_get C fX6 0 rfl (by decide) (by decide) lf_X6_10 rfl rfl dX6_parentOf_40 ?_
      refine j_iload_n C dX6_parentOf_43 rfl ?_
      refine q_callV C (sp_X1_secondParent G M hC.1.1 hA.1.2 hcn) vX1_secondParent lk_X6_160 rfl (by decide) rfl rfl (Nat.le_of_ble_eq_true rfl) (by decide) dX6_parentOf_44 ?_
      rw [(hC.1.2.1 c hcn).2.1, show aS A c = parO A c d from (if_neg (by omega)).symm]
      refine j_istore_n C dX6_parentOf_47 (by decide) rfl ?_
      refine j_iload_n C dX6_parentOf_48 rfl ?_
      refine j_iconst C (v := -1) dX6_parentOf_49 rfl ?_
      refine q_icmp_neN C 63 dX6_parentOf_50 (by decide) (par_lt hA hcn) (fun v50 h50 => ?_) (fun h50 => ?_)
      · refine j_iload_n C dX6_parentOf_63 rfl ?_
        rw [h50]
        exact q_iretO C CM rfl (by decide) (by decide) dX6_parentOf_64 (post_ok (v := nI v50) (by simp only [oParentOf, hc, hd, h50]) hC (cls_refl _))
      · exact j_throwX xr_0 xr_1 xr_2 xr_5 (text := "the commit has no such parent") C CM rfl (by decide +kernel) (by decide +kernel) lc_X6_163 z_NoSuchElementException (by decide) xg_NSE xn_NSE (by decide) (xo_NSE 163) dX6_parentOf_53 dX6_parentOf_56 dX6_parentOf_57 dX6_parentOf_59 dX6_parentOf_62 (by decide) (by decide) (by decide) (by decide) (by decide) (by decide) ⟨rfl, M, post_no (k := 1) (by simp only [oParentOf, hc, hd, h50]) rfl hC (cls_refl _), rfl⟩
    · refine j_aload_n C dX6_parentOf_28 rfl ?_
      refine q_get C fX6 0 rfl (by decide) (by decide) lf_X6_10 rfl rfl dX6_parentOf_29 ?_
      refine j_iload_n C dX6_parentOf_32 rfl ?_
      refine q_callV C (sp_X1_firstParent G M hC.1.1 hA.1.2 hcn) vX1_firstParent lk_X6_157 rfl (by decide) rfl rfl (Nat.le_of_ble_eq_true rfl) (by decide) dX6_parentOf_33 ?_
      rw [(hC.1.2.1 c hcn).1, show aF A c = parO A c d from (if_pos h25).symm]
      refine j_goto C 47 dX6_parentOf_36 ?_ (by decide)
      refine j_istore_n C dX6_parentOf_47 (by decide) rfl ?_
      refine j_iload_n C dX6_parentOf_48 rfl ?_
      refine j_iconst C (v := -1) dX6_parentOf_49 rfl ?_
      refine q_icmp_neN C 63 dX6_parentOf_50 (by decide) (par_lt hA hcn) (fun v50 h50 => ?_) (fun h50 => ?_)
      · refine j_iload_n C dX6_parentOf_63 rfl ?_
        rw [h50]
        exact q_iretO C CM rfl (by decide) (by decide) dX6_parentOf_64 (post_ok (v := nI v50) (by simp only [oParentOf, hc, hd, h50]) hC (cls_refl _))
      · exact j_throwX xr_0 xr_1 xr_2 xr_5 (text := "the commit has no such parent") C CM rfl (by decide +kernel) (by decide +kernel) lc_X6_163 z_NoSuchElementException (by decide) xg_NSE xn_NSE (by decide) (xo_NSE 163) dX6_parentOf_53 dX6_parentOf_56 dX6_parentOf_57 dX6_parentOf_59 dX6_parentOf_62 (by decide) (by decide) (by decide) (by decide) (by decide) (by decide) ⟨rfl, M, post_no (k := 1) (by simp only [oParentOf, hc, hd, h50]) rfl hC (cls_refl _), rfl⟩
  · refine j_iload_n C dX6_parentOf_9 rfl ?_
    refine j_iconst C (v := nI 1) dX6_parentOf_10 rfl ?_
    refine j_icmp_eq C 24 dX6_parentOf_11 (fun h11 => ?_) (fun h11 => ?_) (by decide)
    · obtain ⟨d, hd, rfl, hd2⟩ : ∃ d, inB y 2 = some d ∧ y = nI d ∧ d < 2 := by first | exact in2_0 h6 | exact in2_1 h11
      refine j_iload_n C dX6_parentOf_24 rfl ?_
      refine q_ifz_ne C 39 dX6_parentOf_25 (by decide) (by omega) (fun h25 => ?_) (fun h25 => ?_)
      · refine j_aload_n C dX6_parentOf_39 rfl ?_
        refine q_get C fX6 0 rfl (by decide) (by decide) lf_X6_10 rfl rfl dX6_parentOf_40 ?_
        refine j_iload_n C dX6_parentOf_43 rfl ?_
        refine q_callV C (sp_X1_secondParent G M hC.1.1 hA.1.2 hcn) vX1_secondParent lk_X6_160 rfl (by decide) rfl rfl (Nat.le_of_ble_eq_true rfl) (by decide) dX6_parentOf_44 ?_
        rw [(hC.1.2.1 c hcn).2.1, show aS A c = parO A c d from (if_neg (by omega)).symm]
        refine j_istore_n C dX6_parentOf_47 (by decide) rfl ?_
        refine j_iload_n C dX6_parentOf_48 rfl ?_
        refine j_iconst C (v := -1) dX6_parentOf_49 rfl ?_
        refine q_icmp_neN C 63 dX6_parentOf_50 (by decide) (par_lt hA hcn) (fun v50 h50 => ?_) (fun h50 => ?_)
        · refine j_iload_n C dX6_parentOf_63 rfl ?_
          rw [h50]
          exact q_iretO C CM rfl (by decide) (by decide) dX6_parentOf_64 (post_ok (v := nI v50) (by simp only [oParentOf, hc, hd, h50]) hC (cls_refl _))
        · exact j_throwX xr_0 xr_1 xr_2 xr_5 (text := "the commit has no such parent") C CM rfl (by decide +kernel) (by decide +kernel) lc_X6_163 z_NoSuchElementException (by decide) xg_NSE xn_NSE (by decide) (xo_NSE 163) dX6_parentOf_53 dX6_parentOf_56 dX6_parentOf_57 dX6_parentOf_59 dX6_parentOf_62 (by decide) (by decide) (by decide) (by decide) (by decide) (by decide) ⟨rfl, M, post_no (k := 1) (by simp only [oParentOf, hc, hd, h50]) rfl hC (cls_refl _), rfl⟩
      · refine j_aload_n C dX6_parentOf_28 rfl ?_
        refine q_get C fX6 0 rfl (by decide) (by decide) lf_X6_10 rfl rfl dX6_parentOf_29 ?_
        refine j_iload_n C dX6_parentOf_32 rfl ?_
        refine q_callV C (sp_X1_firstParent G M hC.1.1 hA.1.2 hcn) vX1_firstParent lk_X6_157 rfl (by decide) rfl rfl (Nat.le_of_ble_eq_true rfl) (by decide) dX6_parentOf_33 ?_
        rw [(hC.1.2.1 c hcn).1, show aF A c = parO A c d from (if_pos h25).symm]
        refine j_goto C 47 dX6_parentOf_36 ?_ (by decide)
        refine j_istore_n C dX6_parentOf_47 (by decide) rfl ?_
        refine j_iload_n C dX6_parentOf_48 rfl ?_
        refine j_iconst C (v := -1) dX6_parentOf_49 rfl ?_
        refine q_icmp_neN C 63 dX6_parentOf_50 (by decide) (par_lt hA hcn) (fun v50 h50 => ?_) (fun h50 => ?_)
        · refine j_iload_n C dX6_parentOf_63 rfl ?_
          rw [h50]
          exact q_iretO C CM rfl (by decide) (by decide) dX6_parentOf_64 (post_ok (v := nI v50) (by simp only [oParentOf, hc, hd, h50]) hC (cls_refl _))
        · exact j_throwX xr_0 xr_1 xr_2 xr_5 (text := "the commit has no such parent") C CM rfl (by decide +kernel) (by decide +kernel) lc_X6_163 z_NoSuchElementException (by decide) xg_NSE xn_NSE (by decide) (xo_NSE 163) dX6_parentOf_53 dX6_parentOf_56 dX6_parentOf_57 dX6_parentOf_59 dX6_parentOf_62 (by decide) (by decide) (by decide) (by decide) (by decide) (by decide) ⟨rfl, M, post_no (k := 1) (by simp only [oParentOf, hc, hd, h50]) rfl hC (cls_refl _), rfl⟩
    · exact j_throw (text := "the second number is neither 0 nor 1") C CM rfl (by decide +kernel) (by decide +kernel) lc_X6_106 z_IndexOutOfBoundsException (by decide) xg_IOOB xn_IOOB (by decide) (xo_IOOB 106) dX6_parentOf_14 dX6_parentOf_17 dX6_parentOf_18 dX6_parentOf_20 dX6_parentOf_23 (by decide) (by decide) (by decide) (by decide) (by decide) (by decide) ⟨rfl, M, post_no (k := 0) (by simp only [oParentOf, hc, in2_n h6 h11]) rfl hC (cls_refl _), rfl⟩
set_option maxHeartbeats 4000000 in
set_option maxRecDepth 100000 in
theorem sp_X6_generation (G : gG) (M : gMem) {A : gSt0} (hA : gAi A) (hB : gAb A) (hC : gRC A M) (x : Int32) : SpO G mX6_generation (gRm 2 1) [.ref (gb G + 0), .int x] M (gPost ["java/lang/IndexOutOfBoundsException"] (oGeneration A x) M) := by
  refine Sp.of (by decide +kernel) (Nat.le_of_ble_eq_true rfl) (fun X C CM => ?_)
  have C : gC G X RX6 cX6_generation 2 (gRm 2 1) := C
  refine j_aload_n C dX6_generation_0 rfl ?_
  refine j_iload_n C dX6_generation_1 rfl ?_
  refine q_callVO C CM rfl (sp_X6_requireCommit G M hC.1.1 hA.1.2 x) vX6_requireCommit lk_X6_123 rfl (by decide) rfl rfl (Nat.le_of_ble_eq_true rfl) (by decide) (by decide) (by decide) dX6_generation_2 (fun w2 M2 w => ?_) (fun E M2 w => by obtain ⟨rfl, h0, rfl⟩ := ask_x w; exact post_no (k := 0) (by simp only [oGeneration, h0]) rfl hC (cls_refl _))
  obtain ⟨rfl, c, hc, rfl⟩ := ask_v w
  obtain ⟨rfl, hcn⟩ := inB_some (by have := hA.1.2; omega) hc
  refine j_aload_n C dX6_generation_5 rfl ?_
  refine q_get C fX6 0 rfl (by decide) (by decide) lf_X6_10 rfl rfl dX6_generation_6 ?_
  refine j_iload_n C dX6_generation_9 rfl ?_
  refine q_callV C (sp_X1_generationAt G M hC.1.1 hA.1.2 hcn) vX1_generationAt lk_X6_168 rfl (by decide) rfl rfl (Nat.le_of_ble_eq_true rfl) (by decide) dX6_generation_10 ?_
  rw [(hC.1.2.1 c hcn).2.2.1]
  exact q_iretO C CM rfl (by decide) (by decide) dX6_generation_13 (post_ok (by simp only [oGeneration, hc]) hC (cls_refl _))
set_option maxHeartbeats 4000000 in
set_option maxRecDepth 100000 in
theorem sp_X6_isAncestor (G : gG) (M : gMem) {A : gSt0} (hA : gAi A) (hB : gAb A) (hC : gRC A M) (x y : Int32) : SpO G mX6_isAncestor (gRm 3 2) [.ref (gb G + 0), .int x, .int y] M (gPost ["java/lang/IndexOutOfBoundsException"] (oTwo A (fAnc A) x y) M) := by
  refine Sp.of (by decide +kernel) (Nat.le_of_ble_eq_true rfl) (fun X C CM => ?_)
  have C : gC G X RX6 cX6_isAncestor 3 (gRm 3 2) := C
  refine j_aload_n C dX6_isAncestor_0 rfl ?_
  refine j_iload_n C dX6_isAncestor_1 rfl ?_
  refine q_callVO C CM rfl (sp_X6_requireCommit G M hC.1.1 hA.1.2 x) vX6_requireCommit lk_X6_123 rfl (by decide) rfl rfl (Nat.le_of_ble_eq_true rfl) (by decide) (by decide) (by decide) dX6_isAncestor_2 (fun w2 M2 w => ?_) (fun E M2 w => by obtain ⟨rfl, h0, rfl⟩ := ask_x w; exact post_no (k := 0) (by simp only [oTwo, h0]) rfl hC (cls_refl _))
  obtain ⟨rfl, c, hc, rfl⟩ := ask_v w
  obtain ⟨rfl, hcn⟩ := inB_some (by have := hA.1.2; omega) hc
  refine j_aload_n C dX6_isAncestor_5 rfl ?_
  refine j_iload_n C dX6_isAncestor_6 rfl ?_
  refine q_callVO C CM rfl (sp_X6_requireCommit G M hC.1.1 hA.1.2 y) vX6_requireCommit lk_X6_123 rfl (by decide) rfl rfl (Nat.le_of_ble_eq_true rfl) (by decide) (by decide) (by decide) dX6_isAncestor_7 (fun w7 M7 w => ?_) (fun E M7 w => by obtain ⟨rfl, h0, rfl⟩ := ask_x w; exact post_no (k := 0) (by simp only [oTwo, hc, h0]) rfl hC (cls_refl _))
  obtain ⟨rfl, o, ho, rfl⟩ := ask_v w
  obtain ⟨rfl, hon⟩ := inB_some (by have := hA.1.2; omega) ho
  refine j_aload_n C dX6_isAncestor_10 rfl ?_
  refine q_get C fX6 0 rfl (by decide) (by decide) lf_X6_10 rfl rfl dX6_isAncestor_11 ?_
  refine j_iload_n C dX6_isAncestor_14 rfl ?_
  refine j_iload_n C dX6_isAncestor_15 rfl ?_
  refine q_callV C (sp_X1_contains G M hC.1.1 hA.1.2 hon hcn) vX1_contains lk_X6_126 rfl (by decide) rfl rfl (Nat.le_of_ble_eq_true rfl) (by decide) dX6_isAncestor_16 ?_
  rw [(hC.1.2.1 o hon).2.2.2 c (by have := hA.1.2; omega)]
  exact q_zretO C CM rfl (by decide) (by decide) dX6_isAncestor_19 (post_ok (by simp only [oTwo, hc, ho]; rfl) hC (cls_refl _))
set_option maxHeartbeats 4000000 in
set_option maxRecDepth 100000 in
theorem sp_X6_isAncestorByWalking (G : gG) (M : gMem) {A : gSt0} (hA : gAi A) (hB : gAb A) (hC : gRC A M) (x y : Int32) : SpO G mX6_isAncestorByWalking (gRm 4 2) [.ref (gb G + 0), .int x, .int y] M (gPost ["java/lang/IndexOutOfBoundsException"] (oTwo A (fAnc A) x y) M) := by
  refine Sp.of (by decide +kernel) (Nat.le_of_ble_eq_true rfl) (fun X C CM => ?_)
  have C : gC G X RX6 cX6_isAncestorByWalking 3 (gRm 4 2) := C
  refine j_aload_n C dX6_isAncestorByWalking_0 rfl ?_
  refine j_iload_n C dX6_isAncestorByWalking_1 rfl ?_
  refine q_callVO C CM rfl (sp_X6_requireCommit G M hC.1.1 hA.1.2 x) vX6_requireCommit lk_X6_123 rfl (by decide) rfl rfl (Nat.le_of_ble_eq_true rfl) (by decide) (by decide) (by decide) dX6_isAncestorByWalking_2 (fun w2 M2 w => ?_) (fun E M2 w => by obtain ⟨rfl, h0, rfl⟩ := ask_x w; exact post_no (k := 0) (by simp only [oTwo, h0]) rfl hC (cls_refl _))
  obtain ⟨rfl, c, hc, rfl⟩ := ask_v w
  obtain ⟨rfl, hcn⟩ := inB_some (by have := hA.1.2; omega) hc
  refine j_aload_n C dX6_isAncestorByWalking_5 rfl ?_
  refine j_iload_n C dX6_isAncestorByWalking_6 rfl ?_
  refine q_callVO C CM rfl (sp_X6_requireCommit G M hC.1.1 hA.1.2 y) vX6_requireCommit lk_X6_123 rfl (by decide) rfl rfl (Nat.le_of_ble_eq_true rfl) (by decide) (by decide) (by decide) dX6_isAncestorByWalking_7 (fun w7 M7 w => ?_) (fun E M7 w => by obtain ⟨rfl, h0, rfl⟩ := ask_x w; exact post_no (k := 0) (by simp only [oTwo, hc, h0]) rfl hC (cls_refl _))
  obtain ⟨rfl, o, ho, rfl⟩ := ask_v w
  obtain ⟨rfl, hon⟩ := inB_some (by have := hA.1.2; omega) ho
  refine j_aload_n C dX6_isAncestorByWalking_10 rfl ?_
  refine q_get C fX6 0 rfl (by decide) (by decide) lf_X6_10 rfl rfl dX6_isAncestorByWalking_11 ?_
  refine j_iload_n C dX6_isAncestorByWalking_14 rfl ?_
  refine j_iload_n C dX6_isAncestorByWalking_15 rfl ?_
  refine q_callVS C (sp_X1_walkMeets G M hC.1.1 hA.1.2 (aF A) (aS A) hA.2.1 (fun c hc => (hC.1.2.1 c hc).1) (fun c hc => (hC.1.2.1 c hc).2.1) hon hcn) vX1_walkMeets lk_X6_171 rfl (by decide) rfl rfl (Nat.le_of_ble_eq_true rfl) (by decide) dX6_isAncestorByWalking_16 (fun M2 hM2 => ?_)
  exact q_zretO C CM rfl (by decide) (by decide) dX6_isAncestorByWalking_19 (post_ok (by simp only [oTwo, hc, ho]; rfl) (rc_scr hA hC (scr_9 hM2)) (scr_9 hM2).2.2.2)
set_option maxHeartbeats 4000000 in
set_option maxRecDepth 100000 in
theorem sp_X6_base (G : gG) (M : gMem) {A : gSt0} (hA : gAi A) (hB : gAb A) (hC : gRC A M) (x y : Int32) : SpO G mX6_base (gRm 3 2) [.ref (gb G + 0), .int x, .int y] M (gPost ["java/lang/IndexOutOfBoundsException"] (oTwo A (fBase A) x y) M) := by
  refine Sp.of (by decide +kernel) (Nat.le_of_ble_eq_true rfl) (fun X C CM => ?_)
  have C : gC G X RX6 cX6_base 3 (gRm 3 2) := C
  refine j_aload_n C dX6_base_0 rfl ?_
  refine j_iload_n C dX6_base_1 rfl ?_
  refine q_callVO C CM rfl (sp_X6_requireCommit G M hC.1.1 hA.1.2 x) vX6_requireCommit lk_X6_123 rfl (by decide) rfl rfl (Nat.le_of_ble_eq_true rfl) (by decide) (by decide) (by decide) dX6_base_2 (fun w2 M2 w => ?_) (fun E M2 w => by obtain ⟨rfl, h0, rfl⟩ := ask_x w; exact post_no (k := 0) (by simp only [oTwo, h0]) rfl hC (cls_refl _))
  obtain ⟨rfl, c, hc, rfl⟩ := ask_v w
  obtain ⟨rfl, hcn⟩ := inB_some (by have := hA.1.2; omega) hc
  refine j_aload_n C dX6_base_5 rfl ?_
  refine j_iload_n C dX6_base_6 rfl ?_
  refine q_callVO C CM rfl (sp_X6_requireCommit G M hC.1.1 hA.1.2 y) vX6_requireCommit lk_X6_123 rfl (by decide) rfl rfl (Nat.le_of_ble_eq_true rfl) (by decide) (by decide) (by decide) dX6_base_7 (fun w7 M7 w => ?_) (fun E M7 w => by obtain ⟨rfl, h0, rfl⟩ := ask_x w; exact post_no (k := 0) (by simp only [oTwo, hc, h0]) rfl hC (cls_refl _))
  obtain ⟨rfl, o, ho, rfl⟩ := ask_v w
  obtain ⟨rfl, hon⟩ := inB_some (by have := hA.1.2; omega) ho
  refine j_aload_n C dX6_base_10 rfl ?_
  refine q_get C fX6 0 rfl (by decide) (by decide) lf_X6_10 rfl rfl dX6_base_11 ?_
  refine j_iload_n C dX6_base_14 rfl ?_
  refine j_iload_n C dX6_base_15 rfl ?_
  refine q_callV C (sp_X1_bestBase G M hC.1.1 hA.1.2 hcn hon) vX1_bestBase lk_X6_174 rfl (by decide) rfl rfl (Nat.le_of_ble_eq_true rfl) (by decide) dX6_base_16 ?_
  rw [base_of hA hC.1 hcn hon]
  exact q_iretO C CM rfl (by decide) (by decide) dX6_base_19 (post_ok (by simp only [oTwo, hc, ho]; rfl) hC (cls_refl _))
set_option maxHeartbeats 4000000 in
set_option maxRecDepth 100000 in
theorem sp_X6_baseByWalking (G : gG) (M : gMem) {A : gSt0} (hA : gAi A) (hB : gAb A) (hC : gRC A M) (x y : Int32) : SpO G mX6_baseByWalking (gRm 4 2) [.ref (gb G + 0), .int x, .int y] M (gPost ["java/lang/IndexOutOfBoundsException"] (oTwo A (fBase A) x y) M) := by
  refine Sp.of (by decide +kernel) (Nat.le_of_ble_eq_true rfl) (fun X C CM => ?_)
  have C : gC G X RX6 cX6_baseByWalking 3 (gRm 4 2) := C
  refine j_aload_n C dX6_baseByWalking_0 rfl ?_
  refine j_iload_n C dX6_baseByWalking_1 rfl ?_
  refine q_callVO C CM rfl (sp_X6_requireCommit G M hC.1.1 hA.1.2 x) vX6_requireCommit lk_X6_123 rfl (by decide) rfl rfl (Nat.le_of_ble_eq_true rfl) (by decide) (by decide) (by decide) dX6_baseByWalking_2 (fun w2 M2 w => ?_) (fun E M2 w => by obtain ⟨rfl, h0, rfl⟩ := ask_x w; exact post_no (k := 0) (by simp only [oTwo, h0]) rfl hC (cls_refl _))
  obtain ⟨rfl, c, hc, rfl⟩ := ask_v w
  obtain ⟨rfl, hcn⟩ := inB_some (by have := hA.1.2; omega) hc
  refine j_aload_n C dX6_baseByWalking_5 rfl ?_
  refine j_iload_n C dX6_baseByWalking_6 rfl ?_
  refine q_callVO C CM rfl (sp_X6_requireCommit G M hC.1.1 hA.1.2 y) vX6_requireCommit lk_X6_123 rfl (by decide) rfl rfl (Nat.le_of_ble_eq_true rfl) (by decide) (by decide) (by decide) dX6_baseByWalking_7 (fun w7 M7 w => ?_) (fun E M7 w => by obtain ⟨rfl, h0, rfl⟩ := ask_x w; exact post_no (k := 0) (by simp only [oTwo, hc, h0]) rfl hC (cls_refl _))
  obtain ⟨rfl, o, ho, rfl⟩ := ask_v w
  obtain ⟨rfl, hon⟩ := inB_some (by have := hA.1.2; omega) ho
  refine j_aload_n C dX6_baseByWalking_10 rfl ?_
  refine q_get C fX6 0 rfl (by decide) (by decide) lf_X6_10 rfl rfl dX6_baseByWalking_11 ?_
  refine j_iload_n C dX6_baseByWalking_14 rfl ?_
  refine j_iload_n C dX6_baseByWalking_15 rfl ?_
  refine q_callVS C (sp_X1_walkToBestBase G M hC.1.1 hA.1.2 (aF A) (aS A) hA.2.1 (fun c hc => (hC.1.2.1 c hc).1) (fun c hc => (hC.1.2.1 c hc).2.1) hcn hon) vX1_walkToBestBase lk_X6_177 rfl (by decide) rfl rfl (Nat.le_of_ble_eq_true rfl) (by decide) dX6_baseByWalking_16 (fun M2 hM2 => ?_)
  exact q_iretO C CM rfl (by decide) (by decide) dX6_baseByWalking_19 (post_ok (by simp only [oTwo, hc, ho]; rfl) (rc_scr hA hC (scr_9 hM2)) (scr_9 hM2).2.2.2)
set_option maxHeartbeats 4000000 in
set_option maxRecDepth 100000 in
theorem sp_X6_bases (G : gG) (M : gMem) {A : gSt0} (hA : gAi A) (hB : gAb A) (hC : gRC A M) (x y : Int32) : SpO G mX6_bases (gRm 3 2) [.ref (gb G + 0), .int x, .int y] M (gPost ["java/lang/IndexOutOfBoundsException"] (oTwo A (fBases A) x y) M) := by
  refine Sp.of (by decide +kernel) (Nat.le_of_ble_eq_true rfl) (fun X C CM => ?_)
  have C : gC G X RX6 cX6_bases 3 (gRm 3 2) := C
  refine j_aload_n C dX6_bases_0 rfl ?_
  refine j_iload_n C dX6_bases_1 rfl ?_
  refine q_callVO C CM rfl (sp_X6_requireCommit G M hC.1.1 hA.1.2 x) vX6_requireCommit lk_X6_123 rfl (by decide) rfl rfl (Nat.le_of_ble_eq_true rfl) (by decide) (by decide) (by decide) dX6_bases_2 (fun w2 M2 w => ?_) (fun E M2 w => by obtain ⟨rfl, h0, rfl⟩ := ask_x w; exact post_no (k := 0) (by simp only [oTwo, h0]) rfl hC (cls_refl _))
  obtain ⟨rfl, c, hc, rfl⟩ := ask_v w
  obtain ⟨rfl, hcn⟩ := inB_some (by have := hA.1.2; omega) hc
  refine j_aload_n C dX6_bases_5 rfl ?_
  refine j_iload_n C dX6_bases_6 rfl ?_
  refine q_callVO C CM rfl (sp_X6_requireCommit G M hC.1.1 hA.1.2 y) vX6_requireCommit lk_X6_123 rfl (by decide) rfl rfl (Nat.le_of_ble_eq_true rfl) (by decide) (by decide) (by decide) dX6_bases_7 (fun w7 M7 w => ?_) (fun E M7 w => by obtain ⟨rfl, h0, rfl⟩ := ask_x w; exact post_no (k := 0) (by simp only [oTwo, hc, h0]) rfl hC (cls_refl _))
  obtain ⟨rfl, o, ho, rfl⟩ := ask_v w
  obtain ⟨rfl, hon⟩ := inB_some (by have := hA.1.2; omega) ho
  refine j_aload_n C dX6_bases_10 rfl ?_
  refine q_get C fX6 0 rfl (by decide) (by decide) lf_X6_10 rfl rfl dX6_bases_11 ?_
  refine j_iload_n C dX6_bases_14 rfl ?_
  refine j_iload_n C dX6_bases_15 rfl ?_
  refine q_callV C (sp_X1_countBases G M hC.1.1 hA.1.2 hcn hon) vX1_countBases lk_X6_180 rfl (by decide) rfl rfl (Nat.le_of_ble_eq_true rfl) (by decide) dX6_bases_16 ?_
  rw [bases_of hA hC.1 hcn hon]
  exact q_iretO C CM rfl (by decide) (by decide) dX6_bases_19 (post_ok (by simp only [oTwo, hc, ho]; rfl) hC (cls_refl _))
set_option maxHeartbeats 4000000 in
set_option maxRecDepth 100000 in
theorem sp_X6_conflicts (G : gG) (M : gMem) {A : gSt0} (hA : gAi A) (hB : gAb A) (hC : gRC A M) (x y : Int32) : SpO G mX6_conflicts (gRm 5 2) [.ref (gb G + 0), .int x, .int y] M (gPost ["java/lang/IndexOutOfBoundsException"] (oTwo A (fConf A) x y) M) := by
  refine Sp.of (by decide +kernel) (Nat.le_of_ble_eq_true rfl) (fun X C CM => ?_)
  have C : gC G X RX6 cX6_conflicts 3 (gRm 5 2) := C
  refine j_aload_n C dX6_conflicts_0 rfl ?_
  refine j_iload_n C dX6_conflicts_1 rfl ?_
  refine q_callVO C CM rfl (sp_X6_requireCommit G M hC.1.1 hA.1.2 x) vX6_requireCommit lk_X6_123 rfl (by decide) rfl rfl (Nat.le_of_ble_eq_true rfl) (by decide) (by decide) (by decide) dX6_conflicts_2 (fun w2 M2 w => ?_) (fun E M2 w => by obtain ⟨rfl, h0, rfl⟩ := ask_x w; exact post_no (k := 0) (by simp only [oTwo, h0]) rfl hC (cls_refl _))
  obtain ⟨rfl, c, hc, rfl⟩ := ask_v w
  obtain ⟨rfl, hcn⟩ := inB_some (by have := hA.1.2; omega) hc
  refine j_aload_n C dX6_conflicts_5 rfl ?_
  refine j_iload_n C dX6_conflicts_6 rfl ?_
  refine q_callVO C CM rfl (sp_X6_requireCommit G M hC.1.1 hA.1.2 y) vX6_requireCommit lk_X6_123 rfl (by decide) rfl rfl (Nat.le_of_ble_eq_true rfl) (by decide) (by decide) (by decide) dX6_conflicts_7 (fun w7 M7 w => ?_) (fun E M7 w => by obtain ⟨rfl, h0, rfl⟩ := ask_x w; exact post_no (k := 0) (by simp only [oTwo, hc, h0]) rfl hC (cls_refl _))
  obtain ⟨rfl, o, ho, rfl⟩ := ask_v w
  obtain ⟨rfl, hon⟩ := inB_some (by have := hA.1.2; omega) ho
  refine j_aload_n C dX6_conflicts_10 rfl ?_
  refine q_get C fX6 1 rfl (by decide) (by decide) lf_X6_19 rfl rfl dX6_conflicts_11 ?_
  refine j_aload_n C dX6_conflicts_14 rfl ?_
  refine q_get C fX6 0 rfl (by decide) (by decide) lf_X6_10 rfl rfl dX6_conflicts_15 ?_
  refine j_aload_n C dX6_conflicts_18 rfl ?_
  refine q_get C fX6 0 rfl (by decide) (by decide) lf_X6_10 rfl rfl dX6_conflicts_19 ?_
  refine j_iload_n C dX6_conflicts_22 rfl ?_
  refine j_iload_n C dX6_conflicts_23 rfl ?_
  refine q_callV C (sp_X1_bestBase G M hC.1.1 hA.1.2 hcn hon) vX1_bestBase lk_X6_174 rfl (by decide) rfl rfl (Nat.le_of_ble_eq_true rfl) (by decide) dX6_conflicts_24 ?_
  have hb := bb_some hA hcn hon
  rw [base_of hA hC.1 hcn hon, hb.1, show oI (some ((bbO A c o).getD 0)) = nI ((bbO A c o).getD 0) from rfl]
  refine j_iload_n C dX6_conflicts_27 rfl ?_
  refine j_iload_n C dX6_conflicts_28 rfl ?_
  refine q_callVS C (sp_X5_run G M hC.1.1 hA.1.2 (hA.2.2.2 _) (hA.2.2.2 c) (hA.2.2.2 o) hb.2 hcn hon (hC.1.2.2 _ hb.2) (hC.1.2.2 c hcn) (hC.1.2.2 o hon)) vX5_run lk_X6_189 rfl (by decide) rfl rfl (Nat.le_of_ble_eq_true rfl) (by decide) dX6_conflicts_29 (fun M2 hM2 => ?_)
  exact q_iretO C CM rfl (by decide) (by decide) dX6_conflicts_32 (post_ok (by simp only [oTwo, hc, ho]; rfl) (rc_scr hA hC (scr_sd hM2.1)) (cls_sd hM2.1))
set_option maxHeartbeats 4000000 in
set_option maxRecDepth 100000 in
theorem sp_X6_movedTo (G : gG) (M : gMem) {A : gSt0} (hA : gAi A) (hB : gAb A) (hC : gRC A M) (x y z : Int32) : SpO G mX6_movedTo (gRm 5 4) [.ref (gb G + 0), .int x, .int y, .int z] M (gPost ["java/lang/IndexOutOfBoundsException", "java/util/NoSuchElementException"] (oMovedTo A x y z) M) := by
  refine Sp.of (by decide +kernel) (Nat.le_of_ble_eq_true rfl) (fun X C CM => ?_)
  have C : gC G X RX6 cX6_movedTo 5 (gRm 5 4) := C
  refine j_aload_n C dX6_movedTo_0 rfl ?_
  refine j_iload_n C dX6_movedTo_1 rfl ?_
  refine q_callVO C CM rfl (sp_X6_requireCommit G M hC.1.1 hA.1.2 x) vX6_requireCommit lk_X6_123 rfl (by decide) rfl rfl (Nat.le_of_ble_eq_true rfl) (by decide) (by decide) (by decide) dX6_movedTo_2 (fun w2 M2 w => ?_) (fun E M2 w => by obtain ⟨rfl, h0, rfl⟩ := ask_x w; exact post_no (k := 0) (by simp only [oMovedTo, h0]) rfl hC (cls_refl _))
  obtain ⟨rfl, c, hc, rfl⟩ := ask_v w
  obtain ⟨rfl, hcn⟩ := inB_some (by have := hA.1.2; omega) hc
  refine j_aload_n C dX6_movedTo_5 rfl ?_
  refine j_iload_n C dX6_movedTo_6 rfl ?_
  refine q_callVO C CM rfl (sp_X6_requireCommit G M hC.1.1 hA.1.2 y) vX6_requireCommit lk_X6_123 rfl (by decide) rfl rfl (Nat.le_of_ble_eq_true rfl) (by decide) (by decide) (by decide) dX6_movedTo_7 (fun w7 M7 w => ?_) (fun E M7 w => by obtain ⟨rfl, h0, rfl⟩ := ask_x w; exact post_no (k := 0) (by simp only [oMovedTo, hc, h0]) rfl hC (cls_refl _))
  obtain ⟨rfl, o, ho, rfl⟩ := ask_v w
  obtain ⟨rfl, hon⟩ := inB_some (by have := hA.1.2; omega) ho
  refine j_iload_n C dX6_movedTo_10 rfl ?_
  refine q_callSO C CM rfl (sp_X6_requirePath G M z) vX6_requirePath lk_X6_48 rfl rfl (Nat.le_of_ble_eq_true rfl) (by decide) (by decide) (by decide) dX6_movedTo_11 (fun w11 M11 w => ?_) (fun E M11 w => by obtain ⟨rfl, h0, rfl⟩ := ask_x w; exact post_no (k := 0) (by simp only [oMovedTo, hc, ho, h0]) rfl hC (cls_refl _))
  obtain ⟨rfl, p, hp, rfl⟩ := ask_v w
  obtain ⟨rfl, hp8⟩ := inB_some (by decide) hp
  refine j_aload_n C dX6_movedTo_14 rfl ?_
  refine q_get C fX6 1 rfl (by decide) (by decide) lf_X6_19 rfl rfl dX6_movedTo_15 ?_
  refine j_aload_n C dX6_movedTo_18 rfl ?_
  refine q_get C fX6 0 rfl (by decide) (by decide) lf_X6_10 rfl rfl dX6_movedTo_19 ?_
  refine j_iload_n C dX6_movedTo_22 rfl ?_
  refine q_callV C (sp_X1_treeOf G M hC.1.1 hA.1.2 hcn) vX1_treeOf lk_X6_79 rfl (by decide) rfl rfl (Nat.le_of_ble_eq_true rfl) (by decide) dX6_movedTo_23 ?_
  refine j_aload_n C dX6_movedTo_26 rfl ?_
  refine q_get C fX6 0 rfl (by decide) (by decide) lf_X6_10 rfl rfl dX6_movedTo_27 ?_
  refine j_iload_n C dX6_movedTo_30 rfl ?_
  refine q_callV C (sp_X1_treeOf G M hC.1.1 hA.1.2 hon) vX1_treeOf lk_X6_79 rfl (by decide) rfl rfl (Nat.le_of_ble_eq_true rfl) (by decide) dX6_movedTo_31 ?_
  refine j_iload_n C dX6_movedTo_34 rfl ?_
  refine q_callVS C (sp_X5_moveBetween G M (hA.2.2.2 c) (hA.2.2.2 o) (hC.1.2.2 c hcn) (hC.1.2.2 o hon) (gTr_c (Nat.lt_of_lt_of_le hcn hA.1.2)) (gTr_c (Nat.lt_of_lt_of_le hon hA.1.2)) (by have := hA.1.2; omega) (by have := hA.1.2; omega) hp8) vX5_moveBetween lk_X6_183 rfl (by decide) rfl rfl (Nat.le_of_ble_eq_true rfl) (by decide) dX6_movedTo_35 (fun M2 hM2 => ?_)
  refine j_istore C dX6_movedTo_38 (by decide) rfl ?_
  refine j_iload C dX6_movedTo_40 rfl ?_
  refine j_iconst C (v := -1) dX6_movedTo_42 rfl ?_
  refine q_icmp_neN C 56 dX6_movedTo_43 (by decide) (fun v hv => Nat.lt_trans (mv_all _ _ p v hp8 hv).1 (by decide)) (fun v43 h43 => ?_) (fun h43 => ?_)
  · refine j_iload C dX6_movedTo_56 rfl ?_
    rw [h43]
    exact q_iretO C CM rfl (by decide) (by decide) dX6_movedTo_58 (post_ok (v := nI v43) (by simp only [oMovedTo, hc, ho, hp, h43]) (rc_scr hA hC (scr_sd hM2)) (cls_sd hM2))
  · exact j_throwX xr_0 xr_1 xr_2 xr_5 (text := "the path was not moved") C CM rfl (by decide +kernel) (by decide +kernel) lc_X6_163 z_NoSuchElementException (by decide) xg_NSE xn_NSE (by decide) (xo_NSE 163) dX6_movedTo_46 dX6_movedTo_49 dX6_movedTo_50 dX6_movedTo_52 dX6_movedTo_55 (by decide) (by decide) (by decide) (by decide) (by decide) (by decide) ⟨rfl, M2, post_no (k := 1) (by simp only [oMovedTo, hc, ho, hp, h43]) rfl (rc_scr hA hC (scr_sd hM2)) (cls_sd hM2), rfl⟩
set_option maxHeartbeats 4000000 in
set_option maxRecDepth 100000 in
theorem sp_X6_lastChange (G : gG) (M : gMem) {A : gSt0} (hA : gAi A) (hB : gAb A) (hC : gRC A M) (x : Int32) : SpO G mX6_lastChange (gRm 3 2) [.ref (gb G + 0), .int x] M (gPost ["java/lang/IndexOutOfBoundsException", "java/util/NoSuchElementException"] (oLastChange A x) M) := by
  refine Sp.of (by decide +kernel) (Nat.le_of_ble_eq_true rfl) (fun X C CM => ?_)
  have C : gC G X RX6 cX6_lastChange 3 (gRm 3 2) := C
  refine j_iload_n C dX6_lastChange_0 rfl ?_
  refine q_callSO C CM rfl (sp_X6_requirePath G M x) vX6_requirePath lk_X6_48 rfl rfl (Nat.le_of_ble_eq_true rfl) (by decide) (by decide) (by decide) dX6_lastChange_1 (fun w1 M1 w => ?_) (fun E M1 w => by obtain ⟨rfl, h0, rfl⟩ := ask_x w; exact post_no (k := 0) (by simp only [oLastChange, h0]) rfl hC (cls_refl _))
  obtain ⟨rfl, p, hp, rfl⟩ := ask_v w
  obtain ⟨rfl, hp8⟩ := inB_some (by decide) hp
  refine j_aload_n C dX6_lastChange_4 rfl ?_
  refine q_get C fX6 0 rfl (by decide) (by decide) lf_X6_10 rfl rfl dX6_lastChange_5 ?_
  refine j_iload_n C dX6_lastChange_8 rfl ?_
  refine j_aload_n C dX6_lastChange_9 rfl ?_
  refine j_aload_n C dX6_lastChange_10 rfl ?_
  refine q_get C fX6 6 rfl (by decide) (by decide) lf_X6_44 rfl rfl dX6_lastChange_11 ?_
  rw [hC.2.1.2.1]
  refine q_callV C (sp_X6_headOf G M hC.2.1 hB.1) vX6_headOf lk_X6_76 rfl (by decide) rfl rfl (Nat.le_of_ble_eq_true rfl) (by decide) dX6_lastChange_14 ?_
  rw [(ab_hd hB).1, show oI (some (aHd A)) = nI (aHd A) from rfl]
  refine q_callV C (sp_X1_lastChangeAt G M hC.1.1 hA.1.2 (aF A) hA.2.1.1 (fun c hc => (hC.1.2.1 c hc).1) hp8 (ab_hd hB).2) vX1_lastChangeAt lk_X6_193 rfl (by decide) rfl rfl (Nat.le_of_ble_eq_true rfl) (by decide) dX6_lastChange_17 ?_
  rw [lc_of hA hC.1 hp8 (ab_hd hB).2]
  refine j_istore_n C dX6_lastChange_20 (by decide) rfl ?_
  refine j_iload_n C dX6_lastChange_21 rfl ?_
  refine j_iconst C (v := -1) dX6_lastChange_22 rfl ?_
  refine q_icmp_neN C 36 dX6_lastChange_23 (by decide) (fun v hv => by have h1 := lch_lt hA.2.1.1 60 _ v hv; have h2 := (ab_hd hB).2; have h3 := hA.1.2; omega) (fun v23 h23 => ?_) (fun h23 => ?_)
  · refine j_iload_n C dX6_lastChange_36 rfl ?_
    rw [h23]
    exact q_iretO C CM rfl (by decide) (by decide) dX6_lastChange_37 (post_ok (v := nI v23) (by simp only [oLastChange, hp, h23]) hC (cls_refl _))
  · exact j_throwX xr_0 xr_1 xr_2 xr_5 (text := "no commit changed the path") C CM rfl (by decide +kernel) (by decide +kernel) lc_X6_163 z_NoSuchElementException (by decide) xg_NSE xn_NSE (by decide) (xo_NSE 163) dX6_lastChange_26 dX6_lastChange_29 dX6_lastChange_30 dX6_lastChange_32 dX6_lastChange_35 (by decide) (by decide) (by decide) (by decide) (by decide) (by decide) ⟨rfl, M, post_no (k := 1) (by simp only [oLastChange, hp, h23]) rfl hC (cls_refl _), rfl⟩
set_option maxHeartbeats 4000000 in
set_option maxRecDepth 100000 in
theorem sp_X6_packed (G : gG) (M : gMem) {A : gSt0} (hC : gRC A M) : SpR G mX6_packed (gRm 1 0) [.ref (gb G + 0)] M (some (.int (nI (aP A).1))) M := by
  refine Sp.of (by decide +kernel) (Nat.le_of_ble_eq_true rfl) (fun X C CM => ?_)
  have C : gC G X RX6 cX6_packed 1 (gRm 1 0) := C
  refine j_aload_n C dX6_packed_0 rfl ?_
  refine q_get C fX6 2 rfl (by decide) (by decide) lf_X6_26 rfl rfl dX6_packed_1 ?_
  refine q_callV C (sp_X3_size G M) vX3_size lk_X6_198 rfl (by decide) rfl rfl (Nat.le_of_ble_eq_true rfl) (by decide) dX6_packed_4 ?_
  exact q_iret C CM rfl (by decide) (by decide) dX6_packed_7 hC.2.2.1.1 rfl
set_option maxHeartbeats 4000000 in
set_option maxRecDepth 100000 in
theorem sp_X6_packSize (G : gG) (M : gMem) {A : gSt0} (hC : gRC A M) : SpR G mX6_packSize (gRm 1 0) [.ref (gb G + 0)] M (some (.long (lI (sumN (aP A).2.2.1 (aP A).1)))) M := by
  refine Sp.of (by decide +kernel) (Nat.le_of_ble_eq_true rfl) (fun X C CM => ?_)
  have C : gC G X RX6 cX6_packSize 1 (gRm 1 0) := C
  refine j_aload_n C dX6_packSize_0 rfl ?_
  refine q_get C fX6 2 rfl (by decide) (by decide) lf_X6_26 rfl rfl dX6_packSize_1 ?_
  refine q_callV C (sp_X3_sumOfSizes G M) vX3_sumOfSizes lk_X6_212 rfl (by decide) rfl rfl (Nat.le_of_ble_eq_true rfl) (by decide) dX6_packSize_4 ?_
  exact q_lret C CM rfl (by decide) (by decide) dX6_packSize_7 hC.2.2.1.2.1 rfl
set_option maxHeartbeats 4000000 in
set_option maxRecDepth 100000 in
theorem sp_X6_depthOf (G : gG) (M : gMem) {A : gSt0} (hA : gAi A) (hB : gAb A) (hC : gRC A M) (x : Int32) : SpO G mX6_depthOf (gRm 2 1) [.ref (gb G + 0), .int x] M (gPost ["java/util/NoSuchElementException"] (oDepthOf A x) M) := by
  refine Sp.of (by decide +kernel) (Nat.le_of_ble_eq_true rfl) (fun X C CM => ?_)
  have C : gC G X RX6 cX6_depthOf 3 (gRm 2 1) := C
  refine j_aload_n C dX6_depthOf_0 rfl ?_
  refine q_get C fX6 2 rfl (by decide) (by decide) lf_X6_26 rfl rfl dX6_depthOf_1 ?_
  refine j_aload_n C dX6_depthOf_4 rfl ?_
  refine q_get C fX6 2 rfl (by decide) (by decide) lf_X6_26 rfl rfl dX6_depthOf_5 ?_
  refine j_iload_n C dX6_depthOf_8 rfl ?_
  refine q_callV C (sp_X3_find G M (P := aP A) hC.2.2.1 (pk_lim hA).2 x) vX3_find lk_X6_199 rfl (by decide) rfl rfl (Nat.le_of_ble_eq_true rfl) (by decide) dX6_depthOf_9 ?_
  refine q_callV C (sp_depth G M (P := aP A) hC.2.2.1 (pk_lim hA).2 (fun k hk => pkF_lt hk)) vX3_depthAt lk_X6_202 rfl (by decide) rfl rfl (Nat.le_of_ble_eq_true rfl) (by decide) dX6_depthOf_12 ?_
  refine j_istore_n C dX6_depthOf_15 (by decide) rfl ?_
  refine j_iload_n C dX6_depthOf_16 rfl ?_
  refine j_iconst C (v := -1) dX6_depthOf_17 rfl ?_
  refine q_icmp_neN C 31 dX6_depthOf_18 (by decide) (o_depth_lt hA) (fun v18 h18 => ?_) (fun h18 => ?_)
  · refine j_iload_n C dX6_depthOf_31 rfl ?_
    rw [h18]
    exact q_iretO C CM rfl (by decide) (by decide) dX6_depthOf_32 (post_ok (v := nI v18) (o_depth_s h18) hC (cls_refl _))
  · exact j_throwX xr_0 xr_1 xr_2 xr_5 (text := "the content is not packed") C CM rfl (by decide +kernel) (by decide +kernel) lc_X6_163 z_NoSuchElementException (by decide) xg_NSE xn_NSE (by decide) (xo_NSE 163) dX6_depthOf_21 dX6_depthOf_24 dX6_depthOf_25 dX6_depthOf_27 dX6_depthOf_30 (by decide) (by decide) (by decide) (by decide) (by decide) (by decide) ⟨rfl, M, post_no (k := 0) (o_depth_n h18) rfl hC (cls_refl _), rfl⟩
set_option maxHeartbeats 4000000 in
set_option maxRecDepth 100000 in
theorem sp_X6_packedFrom (G : gG) (M : gMem) {A : gSt0} (hA : gAi A) (hB : gAb A) (hC : gRC A M) (x : Int32) : SpO G mX6_packedFrom (gRm 2 1) [.ref (gb G + 0), .int x] M (gPost ["java/util/NoSuchElementException"] (oPackedFrom A x) M) := by
  refine Sp.of (by decide +kernel) (Nat.le_of_ble_eq_true rfl) (fun X C CM => ?_)
  have C : gC G X RX6 cX6_packedFrom 3 (gRm 2 1) := C
  refine j_aload_n C dX6_packedFrom_0 rfl ?_
  refine q_get C fX6 2 rfl (by decide) (by decide) lf_X6_26 rfl rfl dX6_packedFrom_1 ?_
  refine j_aload_n C dX6_packedFrom_4 rfl ?_
  refine q_get C fX6 2 rfl (by decide) (by decide) lf_X6_26 rfl rfl dX6_packedFrom_5 ?_
  refine j_iload_n C dX6_packedFrom_8 rfl ?_
  refine q_callV C (sp_X3_find G M (P := aP A) hC.2.2.1 (pk_lim hA).2 x) vX3_find lk_X6_199 rfl (by decide) rfl rfl (Nat.le_of_ble_eq_true rfl) (by decide) dX6_packedFrom_9 ?_
  refine q_callV C (sp_source G M (P := aP A) hC.2.2.1 (pk_lim hA).2 (fun k hk => pkF_lt hk)) vX3_sourceAt lk_X6_207 rfl (by decide) rfl rfl (Nat.le_of_ble_eq_true rfl) (by decide) dX6_packedFrom_12 ?_
  refine j_istore_n C dX6_packedFrom_15 (by decide) rfl ?_
  refine j_iload_n C dX6_packedFrom_16 rfl ?_
  refine j_iconst C (v := -1) dX6_packedFrom_17 rfl ?_
  refine q_icmp_neN C 31 dX6_packedFrom_18 (by decide) (o_from_lt hA) (fun v18 h18 => ?_) (fun h18 => ?_)
  · refine j_iload_n C dX6_packedFrom_31 rfl ?_
    rw [h18]
    exact q_iretO C CM rfl (by decide) (by decide) dX6_packedFrom_32 (post_ok (v := nI v18) (o_from_s h18) hC (cls_refl _))
  · exact j_throwX xr_0 xr_1 xr_2 xr_5 (text := "the content is not packed by a difference") C CM rfl (by decide +kernel) (by decide +kernel) lc_X6_163 z_NoSuchElementException (by decide) xg_NSE xn_NSE (by decide) (xo_NSE 163) dX6_packedFrom_21 dX6_packedFrom_24 dX6_packedFrom_25 dX6_packedFrom_27 dX6_packedFrom_30 (by decide) (by decide) (by decide) (by decide) (by decide) (by decide) ⟨rfl, M, post_no (k := 0) (o_from_n h18) rfl hC (cls_refl _), rfl⟩
