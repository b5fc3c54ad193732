/-! what can change: rows of ints (and booleans), rows of longs, int fields by object and place, the long field, the doubles -/
abbrev gMem : Type := (Nat → Nat → Int32) × (Nat → Nat → Int64) × (Nat → Nat → Int32) × Int64 × (Nat → UInt64)
abbrev mL (M : gMem) : Nat → Nat → Int64 := M.2.1
abbrev mF (M : gMem) : Nat → Nat → Int32 := M.2.2.1
abbrev mS (M : gMem) : Int64 := M.2.2.2.1
abbrev mD (M : gMem) : Nat → UInt64 := M.2.2.2.2
def sI (M : gMem) (o : Nat) (f : Nat → Int32) : gMem := (va_up M.1 o f, M.2)
def sL (M : gMem) (o : Nat) (f : Nat → Int64) : gMem := (M.1, va_up M.2.1 o f, M.2.2)
def sF (M : gMem) (o j : Nat) (v : Int32) : gMem := (M.1, M.2.1, va_up M.2.2.1 o (va_up (M.2.2.1 o) j v), M.2.2.2)
def sS (M : gMem) (v : Int64) : gMem := (M.1, M.2.1, M.2.2.1, v, M.2.2.2.2)
def sD (M : gMem) (f : Nat → UInt64) : gMem := (M.1, M.2.1, M.2.2.1, M.2.2.2.1, f)
theorem sI_I (M : gMem) (o : Nat) (f : Nat → Int32) (a : Nat) : (sI M o f).1 a = if a = o then f else M.1 a := rfl
theorem sI_s (M : gMem) (o : Nat) (f : Nat → Int32) : (sI M o f).1 o = f := if_pos rfl
theorem sI_n (M : gMem) {o : Nat} (f : Nat → Int32) {a : Nat} (h : a ≠ o) : (sI M o f).1 a = M.1 a := if_neg h
theorem sI_2 (M : gMem) (o : Nat) (f : Nat → Int32) : (sI M o f).2 = M.2 := rfl
theorem sL_1 (M : gMem) (o : Nat) (f : Nat → Int64) : (sL M o f).1 = M.1 := rfl
theorem sL_L (M : gMem) (o : Nat) (f : Nat → Int64) (a : Nat) : (sL M o f).2.1 a = if a = o then f else M.2.1 a := rfl
theorem sL_22 (M : gMem) (o : Nat) (f : Nat → Int64) : (sL M o f).2.2 = M.2.2 := rfl
theorem sF_1 (M : gMem) (o j : Nat) (v : Int32) : (sF M o j v).1 = M.1 := rfl
theorem sF_L (M : gMem) (o j : Nat) (v : Int32) : (sF M o j v).2.1 = M.2.1 := rfl
theorem sF_F (M : gMem) (o j : Nat) (v : Int32) (a i : Nat) : (sF M o j v).2.2.1 a i = if a = o then (if i = j then v else M.2.2.1 o i) else M.2.2.1 a i := by
  show va_up M.2.2.1 o (va_up (M.2.2.1 o) j v) a i = _
  unfold va_up
  by_cases h : a = o
  · rw [if_pos h, if_pos h]
  · rw [if_neg h, if_neg h]
theorem sF_222 (M : gMem) (o j : Nat) (v : Int32) : (sF M o j v).2.2.2 = M.2.2.2 := rfl
theorem sS_1 (M : gMem) (v : Int64) : (sS M v).1 = M.1 := rfl
theorem sS_L (M : gMem) (v : Int64) : (sS M v).2.1 = M.2.1 := rfl
theorem sS_F (M : gMem) (v : Int64) : (sS M v).2.2.1 = M.2.2.1 := rfl
theorem sS_S (M : gMem) (v : Int64) : (sS M v).2.2.2.1 = v := rfl
theorem sS_D (M : gMem) (v : Int64) : (sS M v).2.2.2.2 = M.2.2.2.2 := rfl
theorem sD_1 (M : gMem) (f : Nat → UInt64) : (sD M f).1 = M.1 := rfl
theorem sD_L (M : gMem) (f : Nat → UInt64) : (sD M f).2.1 = M.2.1 := rfl
theorem sD_F (M : gMem) (f : Nat → UInt64) : (sD M f).2.2.1 = M.2.2.1 := rfl
theorem sD_S (M : gMem) (f : Nat → UInt64) : (sD M f).2.2.2.1 = M.2.2.2.1 := rfl
theorem sD_D (M : gMem) (f : Nat → UInt64) : (sD M f).2.2.2.2 = f := rfl
theorem sI_sI (M : gMem) (o : Nat) (f g : Nat → Int32) : sI (sI M o f) o g = sI M o g := by
  show (va_up (va_up M.1 o f) o g, M.2) = _
  rw [bx_uu]
  rfl
theorem sI_id (M : gMem) (o : Nat) : sI M o (M.1 o) = M := by
  show (va_up M.1 o (M.1 o), M.2) = M
  have : va_up M.1 o (M.1 o) = M.1 := funext fun a => by
    unfold va_up
    by_cases h : a = o
    · rw [if_pos h, h]
    · rw [if_neg h]
  rw [this]
/-! the cells by their offsets -/
def gKt : List (Nat × Nat × Nat) := [(0, 6, 7), (1, 6, 3), (2, 4, 60), (3, 6, 5), (4, 0, 8), (5, 0, 60), (6, 0, 60), (7, 0, 60), (8, 1, 60), (9, 0, 60), (130, 6, 6), (131, 6, 2), (132, 6, 5), (133, 0, 8), (134, 6, 5), (135, 0, 8), (136, 0, 8), (137, 0, 8), (138, 6, 2), (139, 6, 5), (140, 0, 8), (141, 6, 5), (142, 0, 8), (143, 0, 8), (144, 0, 8), (145, 6, 5), (146, 0, 8), (147, 0, 8), (148, 6, 4), (149, 0, 480), (150, 0, 480), (151, 0, 480), (152, 6, 5), (153, 0, 8), (154, 0, 5), (155, 0, 60)]
def gKl : List (Nat × Nat × Nat) → Nat → Nat × Nat
  | [], _ => (9, 0)
  | (a, x) :: t, o => if a = o then x else gKl t o
def gKd (o : Nat) : Nat × Nat := if 10 ≤ o ∧ o < 130 then (if o % 2 = 0 then (6, 5) else (0, 8)) else gKl gKt o
def gFs (b : Nat) (F : Nat → Nat → Int32) (S : Int64) (o : Nat) : List Value :=
  if o = 0 then [.ref (b + 1), .ref (b + 130), .ref (b + 148), .ref (b + 152), .ref (b + 154), .ref (b + 155), .int (F 0 6)]
  else if o = 1 then [.ref (b + 2), .ref (b + 3), .ref (b + 5), .ref (b + 6), .ref (b + 7), .ref (b + 8), .ref (b + 9), .int (F 1 7)]
  else if o = 130 then [.ref (b + 131), .ref (b + 138), .ref (b + 145), .ref (b + 147), .int (F 130 4)]
  else if o = 131 then [.ref (b + 132), .ref (b + 134), .ref (b + 136), .ref (b + 137)]
  else if o = 138 then [.ref (b + 139), .ref (b + 141), .ref (b + 143), .ref (b + 144)]
  else if o = 148 then [.ref (b + 149), .ref (b + 150), .ref (b + 151), .int (F 148 3), .int (F 148 4), .long S]
  else [.ref (b + (o + 1))]
def mkW (G : gG) (M : gMem) : gE := fun o => match gKd o with
  | (0, m) => .inl (G.2.2.1 0, m, .inl (M.1 o))
  | (1, m) => .inl (G.2.2.1 1, m, .inr (.inl (M.2.1 o)))
  | (4, m) => .inl (G.2.2.1 2, m, .inr (.inr (.inr (.inr (fun c => if c < 60 then some (gb G + (10 + 2 * c)) else none)))))
  | (_, ci) => .inr (ci, gFs (gb G) M.2.2.1 M.2.2.2.1 o)
theorem mk0 (G : gG) (M : gMem) {o m : Nat} (h : gKd o = (0, m)) : mkW G M o = .inl (G.2.2.1 0, m, .inl (M.1 o)) := by unfold mkW; rw [h]; rfl
theorem mk1 (G : gG) (M : gMem) {o m : Nat} (h : gKd o = (1, m)) : mkW G M o = .inl (G.2.2.1 1, m, .inr (.inl (M.2.1 o))) := by unfold mkW; rw [h]; rfl
theorem mk6 (G : gG) (M : gMem) {o ci : Nat} (h : gKd o = (6, ci)) : mkW G M o = .inr (ci, gFs (gb G) M.2.2.1 M.2.2.2.1 o) := by unfold mkW; rw [h]; rfl
theorem up0 (G : gG) (M : gMem) {o m : Nat} (h : gKd o = (0, m)) (f : Nat → Int32) : va_up (mkW G M) o (.inl (G.2.2.1 0, m, .inl f)) = mkW G (sI M o f) := by
  funext a
  by_cases c : a = o
  · subst c
    rw [mk0 G (sI M a f) h, sI_s]
    exact if_pos rfl
  · rw [show va_up (mkW G M) o (.inl (G.2.2.1 0, m, .inl f)) a = mkW G M a from if_neg c]
    unfold mkW
    rw [sI_n M f c, sI_2]
theorem up1 (G : gG) (M : gMem) {o m : Nat} (h : gKd o = (1, m)) (f : Nat → Int64) : va_up (mkW G M) o (.inl (G.2.2.1 1, m, .inr (.inl f))) = mkW G (sL M o f) := by
  funext a
  by_cases c : a = o
  · subst c
    rw [mk1 G (sL M a f) h, sL_L, if_pos rfl]
    exact if_pos rfl
  · rw [show va_up (mkW G M) o (.inl (G.2.2.1 1, m, .inr (.inl f))) a = mkW G M a from if_neg c]
    unfold mkW
    rw [sL_L, if_neg c, sL_1, sL_22]
theorem gFs_loc {b : Nat} {F F' : Nat → Nat → Int32} {S S' : Int64} {a : Nat} (h : ∀ j, F a j = F' a j) (hS : a = 148 → S = S') : gFs b F S a = gFs b F' S' a := by
  unfold gFs
  repeat' split
  all_goals first | rfl | (subst_vars; simp only [h, hS])
theorem up6 (G : gG) (M : gMem) {o ci j : Nat} {v : Int32} (h : gKd o = (6, ci)) (hs : (gFs (gb G) M.2.2.1 M.2.2.2.1 o).set j (.int v) = gFs (gb G) (sF M o j v).2.2.1 M.2.2.2.1 o) : va_up (mkW G M) o (.inr (ci, (gFs (gb G) M.2.2.1 M.2.2.2.1 o).set j (.int v))) = mkW G (sF M o j v) := by
  funext a
  by_cases c : a = o
  · subst c
    rw [mk6 G (sF M a j v) h, hs, sF_222]
    exact if_pos rfl
  · rw [show va_up (mkW G M) o (.inr (ci, (gFs (gb G) M.2.2.1 M.2.2.2.1 o).set j (.int v))) a = mkW G M a from if_neg c]
    have e : gFs (gb G) M.2.2.1 M.2.2.2.1 a = gFs (gb G) (sF M o j v).2.2.1 (sF M o j v).2.2.2.1 a := gFs_loc (fun i => by rw [sF_F, if_neg c]) (fun _ => rfl)
    unfold mkW
    rw [sF_1, sF_L, e, sF_222]
theorem upS (G : gG) (M : gMem) {v : Int64} : va_up (mkW G M) 148 (.inr (4, (gFs (gb G) M.2.2.1 M.2.2.2.1 148).set 5 (.long v))) = mkW G (sS M v) := by
  funext a
  by_cases c : a = 148
  · subst c
    rw [mk6 G (sS M v) (ci := 4) rfl]
    exact if_pos rfl
  · rw [show va_up (mkW G M) 148 (.inr (4, (gFs (gb G) M.2.2.1 M.2.2.2.1 148).set 5 (.long v))) a = mkW G M a from if_neg c]
    have e : gFs (gb G) M.2.2.1 M.2.2.2.1 a = gFs (gb G) (sS M v).2.2.1 (sS M v).2.2.2.1 a := gFs_loc (fun i => rfl) (fun q => absurd q c)
    unfold mkW
    rw [sS_1, sS_L, e]
theorem gKl_mem : ∀ (l : List (Nat × Nat × Nat)) (o : Nat) (k : Nat × Nat), gKl l o = k → k ≠ (9, 0) → (o, k) ∈ l
  | [], o, k, h, hn => absurd h.symm hn
  | (a, x) :: t, o, k, h, hn => by
    unfold gKl at h
    by_cases c : a = o
    · rw [if_pos c] at h
      subst c; subst h
      exact List.mem_cons_self
    · rw [if_neg c] at h
      exact List.mem_cons_of_mem _ (gKl_mem t o k h hn)
/-! trees -/
def gTr (t : Nat) : Prop := gKd t = (6, 5) ∧ gKd (t + 1) = (0, 8) ∧ t + 1 < 156 ∧ t ≠ 0 ∧ t ≠ 1 ∧ t ≠ 130 ∧ t ≠ 131 ∧ t ≠ 138 ∧ t ≠ 148 ∧ t ≠ 156
theorem gTr_c {c : Nat} (h : c < 60) : gTr (10 + 2 * c) := by
  refine ⟨?_, ?_, by omega, by omega, by omega, by omega, by omega, by omega, by omega, by omega⟩
  · unfold gKd
    rw [if_pos ⟨by omega, by omega⟩, if_pos (by omega)]
  · unfold gKd
    rw [if_pos ⟨by omega, by omega⟩, if_neg (by omega)]
theorem gFs_tr {b : Nat} {F : Nat → Nat → Int32} {S : Int64} {t : Nat} (h : gTr t) : gFs b F S t = [.ref (b + (t + 1))] := by
  obtain ⟨-, -, -, h1, h2, h3, h4, h5, h6, -⟩ := h
  unfold gFs
  rw [if_neg h1, if_neg h2, if_neg h3, if_neg h4, if_neg h5, if_neg h6]
def oI : Option Nat → Int32
  | none => -1
  | some v => nI v
def gRm (d c : Nat) : Room := { frames := d + 7, cells := c, slots := 8 * c, locals := 100 + 40 * d }
/-- returns v, the memory then M -/
def Rt (G : gG) (v : Option Value) (M : gMem) : gF := fun r N σ => r = .inl v ∧ N = 156 ∧ σ = mkW G M
/-- throws E, the memory then M -/
def Th (G : gG) (E : String) (M : gMem) : gF := fun r N σ => r = .inr E ∧ N = 156 ∧ σ = mkW G M
abbrev SpR (G : gG) (μ : gM) (rm : Room) (av : List Value) (M : gMem) (v : Option Value) (M' : gMem) : Prop := Sp G μ rm false 156 av (mkW G M) (Rt G v M')
abbrev SpT (G : gG) (μ : gM) (rm : Room) (av : List Value) (M : gMem) (E : String) (M' : gMem) : Prop := Sp G μ rm false 156 av (mkW G M) (Th G E M')
/-- what is known of a method that is called on an object of kind ci -/
def gV (μ : gM) (na ci : Nat) (T : u_T) (F : Nat) : Prop := gCd μ = .code μ.1 μ.2.1 μ.2.2.1 μ.2.2.2.1 ∧ gKn μ na ∧ Cond.instanceMethod μ.1 ∈ gw ∧ Cond.selects μ.1.cls μ.1 μ.1 ∈ gw ∧ vwCl[ci]? = some (μ.1.cls, T, F)
def gSt (μ : gM) (na : Nat) : Prop := gCd μ = .code μ.1 μ.2.1 μ.2.2.1 μ.2.2.2.1 ∧ gKn μ na ∧ Cond.static μ.1 ∈ gw
section QROWS
variable {G : gG} {X : gX} {own : String} {cc : ByteArray} {nL : Nat} {R : Room} {k n pc : Nat} {lv : List (Option Value)} {st : List Value} {M : gMem}
abbrev Q (G : gG) (X : gX) (k n pc : Nat) (lv : List (Option Value)) (st : List Value) (M : gMem) : Prop := J G X false 156 k n pc lv st (mkW G M)
theorem q_get (C : gC G X own cc nL R) {ci F o idx : Nat} {Cn ref : String} {T : u_T} {ty : Nat → FieldType} {v : Value} (hF : gFd ci Cn T F ty) (kf : Nat) (hk : gKd o = (6, ci)) (ho : o < 156) (hkf : kf < F) (hl : Cond.fieldLink own idx ref (T kf).2.1 (T kf).2.2.1 ∈ gw) (hr : (T kf).1 = ref) (hv : (gFs (gb G) M.2.2.1 M.2.2.2.1 o)[kf]? = some v) (d : decode cc pc = .ok (.getfield idx, 3))
    (kk : Q G X k n (pc + 3) lv (v :: st) M) : Q G X k n pc lv (.ref (gb G + o) :: st) M := j_get C hF kf (mk6 G M hk) ho hkf hl hr hv d kk
theorem q_putI (C : gC G X own cc nL R) {ci F o idx : Nat} {Cn ref : String} {T : u_T} {ty : Nat → FieldType} {v : Int32} (hF : gFd ci Cn T F ty) (kf : Nat) (hk : gKd o = (6, ci)) (ho : o < 156) (hkf : kf < F) (hl : Cond.fieldLink own idx ref (T kf).2.1 (T kf).2.2.1 ∈ gw) (hr : (T kf).1 = ref) (hfin : (T kf).2.2.2 = false) (hty : ty kf = .int) (hlen : kf < (gFs (gb G) M.2.2.1 M.2.2.2.1 o).length) (hs : (gFs (gb G) M.2.2.1 M.2.2.2.1 o).set kf (.int v) = gFs (gb G) (sF M o kf v).2.2.1 M.2.2.2.1 o) (d : decode cc pc = .ok (.putfield idx, 3))
    (kk : Q G X k n (pc + 3) lv st (sF M o kf v)) : Q G X k n pc lv (.int v :: .ref (gb G + o) :: st) M :=
  j_put C hF kf (mk6 G M hk) ho hkf hl hr (Or.inl hfin) (by rw [hty]; rfl) (by rw [hty]; rfl) hlen d (by rw [up6 G M hk hs]; exact kk)
theorem q_putS (C : gC G X own cc nL R) {F idx : Nat} {Cn ref : String} {T : u_T} {ty : Nat → FieldType} {v : Int64} (hF : gFd 4 Cn T F ty) (hkf : 5 < F) (hl : Cond.fieldLink own idx ref (T 5).2.1 (T 5).2.2.1 ∈ gw) (hr : (T 5).1 = ref) (hfin : (T 5).2.2.2 = false) (hty : ty 5 = .long) (d : decode cc pc = .ok (.putfield idx, 3))
    (kk : Q G X k n (pc + 3) lv st (sS M v)) : Q G X k n pc lv (.long v :: .ref (gb G + 148) :: st) M :=
  j_put C hF 5 (mk6 G M (ci := 4) rfl) (by decide) hkf hl hr (Or.inl hfin) (by rw [hty]; rfl) (by rw [hty]; rfl) (Nat.le_of_ble_eq_true rfl) d (by rw [upS G M]; exact kk)
theorem q_alen (C : gC G X own cc nL R) {o m : Nat} (hk : gKd o = (0, m)) (ho : o < 156) (d : decode cc pc = .ok (.arraylength, 1)) (kk : Q G X k n (pc + 1) lv (.int (nI m) :: st) M) : Q G X k n pc lv (.ref (gb G + o) :: st) M :=
  j_alen C 0 rfl (mk0 G M hk) ho rfl d kk
theorem q_iald (C : gC G X own cc nL R) {o m a : Nat} (hk : gKd o = (0, m)) (ho : o < 156) (hm : m < 1000) (ha : a < m) (d : decode cc pc = .ok (.iaload, 1)) (kk : Q G X k n (pc + 1) lv (.int (M.1 o a) :: st) M) : Q G X k n pc lv (.int (nI a) :: .ref (gb G + o) :: st) M :=
  j_iald C (mk0 G M hk) ho (vp_in_nI ha (by omega)) d (by rw [nI_clamp (by omega)]; exact kk)
theorem q_lald (C : gC G X own cc nL R) {o m a : Nat} (hk : gKd o = (1, m)) (ho : o < 156) (hm : m < 1000) (ha : a < m) (d : decode cc pc = .ok (.laload, 1)) (kk : Q G X k n (pc + 1) lv (.long (M.2.1 o a) :: st) M) : Q G X k n pc lv (.int (nI a) :: .ref (gb G + o) :: st) M :=
  j_lald C (mk1 G M hk) ho (vp_in_nI ha (by omega)) d (by rw [nI_clamp (by omega)]; exact kk)
theorem q_iast (C : gC G X own cc nL R) {o m a : Nat} {x : Int32} (hk : gKd o = (0, m)) (ho : o < 156) (hm : m < 1000) (ha : a < m) (d : decode cc pc = .ok (.iastore, 1)) (kk : Q G X k n (pc + 1) lv st (sI M o (upd (M.1 o) a x))) : Q G X k n pc lv (.int x :: .int (nI a) :: .ref (gb G + o) :: st) M :=
  j_iast C (mk0 G M hk) ho (vp_in_nI ha (by omega)) d (by rw [nI_clamp (by omega), up0 G M hk]; exact kk)
theorem q_last (C : gC G X own cc nL R) {o m a : Nat} {x : Int64} (hk : gKd o = (1, m)) (ho : o < 156) (hm : m < 1000) (ha : a < m) (d : decode cc pc = .ok (.lastore, 1)) (kk : Q G X k n (pc + 1) lv st (sL M o (vp_updL (M.2.1 o) a x))) : Q G X k n pc lv (.long x :: .int (nI a) :: .ref (gb G + o) :: st) M :=
  j_last C (mk1 G M hk) ho (vp_in_nI ha (by omega)) d (by rw [nI_clamp (by omega), up1 G M hk]; exact kk)
/-- trees[c] -/
theorem q_aald2 (C : gC G X own cc nL R) {a : Nat} (ha : a < 60) (d : decode cc pc = .ok (.aaload, 1)) (kk : Q G X k n (pc + 1) lv (.ref (gb G + (10 + 2 * a)) :: st) M) : Q G X k n pc lv (.int (nI a) :: .ref (gb G + 2) :: st) M :=
  j_aald C 2 rfl (show mkW G M 2 = _ from rfl) (by decide) (vp_in_nI ha (by decide)) (by rw [nI_clamp (by omega)]; exact if_pos ha) d kk
theorem q_iinc (C : gC G X own cc nL R) {i a : Nat} (d : decode cc pc = .ok (.iinc i 1, 3)) (h : gL lv i = some (.int (nI a))) (hi : i < nL) (hn : gN lv i = true) (kk : Q G X k n (pc + 3) (gS lv i (some (.int (nI (a + 1))))) st M) : Q G X k n pc lv st M :=
  j_iinc C d h hi hn (by rw [show nI a + Int32.ofInt 1 = nI (a + 1) from nI_1 a]; exact kk)
theorem q_idec (C : gC G X own cc nL R) {i a : Nat} (d : decode cc pc = .ok (.iinc i (-1), 3)) (h : gL lv i = some (.int (nI (a + 1)))) (hi : i < nL) (hn : gN lv i = true) (kk : Q G X k n (pc + 3) (gS lv i (some (.int (nI a)))) st M) : Q G X k n pc lv st M :=
  j_iinc C d h hi hn (by rw [show nI (a + 1) + Int32.ofInt (-1) = nI a from pk_m1 a]; exact kk)
theorem q_callV (C : gC G X own cc nL R) {μ : gM} {rm : Room} {As : List Value} {i ci F na idx : Nat} {T : u_T} {v : Option Value} {M' : gMem} {stk : List Value} (hM : SpR G μ rm (.ref (gb G + i) :: As) M v M') (hV : gV μ na ci T F) (hlk : Cond.methodLink own idx μ.1 ∈ gw)
    (hk : gKd i = (6, ci)) (hi : i < 156) (hn : As.length = na) (hstk : stk = As.reverse ++ .ref (gb G + i) :: st) (hcat : (st.map fun v => v.category).sum ≤ 8) (hR : (rm.frames + 1 ≤ R.frames ∧ 8 + (μ.2.2.1 + 11) + rm.locals ≤ R.locals) ∧ k + rm.cells ≤ R.cells ∧ n + rm.slots ≤ R.slots) (d : decode cc pc = .ok (.invokevirtual idx, 3))
    (kk : Q G X (k + rm.cells) (n + rm.slots) (pc + 3) lv (v.toList ++ st) M') : Q G X k n pc lv stk M := by
  refine j_callV C hM hV.1 hV.2.1 hV.2.2.1 hV.2.2.2.1 hlk (mk6 G M hk) hi hV.2.2.2.2 hn hstk hcat hR d (fun v' N' σ' h => ?_) (fun E N' σ' h => ?_)
  · obtain ⟨h1, rfl, rfl⟩ := h
    cases h1
    exact kk
  · obtain ⟨h1, -, -⟩ := h
    cases h1
theorem q_callS (C : gC G X own cc nL R) {μ : gM} {rm : Room} {As : List Value} {na idx : Nat} {v : Option Value} {M' : gMem} {stk : List Value} (hM : SpR G μ rm As M v M') (hV : gSt μ na) (hlk : Cond.methodLink own idx μ.1 ∈ gw)
    (hn : As.length = na) (hstk : stk = As.reverse ++ st) (hcat : (st.map fun v => v.category).sum ≤ 8) (hR : (rm.frames + 1 ≤ R.frames ∧ 8 + (μ.2.2.1 + 11) + rm.locals ≤ R.locals) ∧ k + rm.cells ≤ R.cells ∧ n + rm.slots ≤ R.slots) (d : decode cc pc = .ok (.invokestatic idx, 3))
    (kk : Q G X (k + rm.cells) (n + rm.slots) (pc + 3) lv (v.toList ++ st) M') : Q G X k n pc lv stk M := by
  refine j_callS C hM hV.1 hV.2.1 hV.2.2 hlk hn hstk hcat hR d (fun v' N' σ' h => ?_) (fun E N' σ' h => ?_)
  · obtain ⟨h1, rfl, rfl⟩ := h
    cases h1
    exact kk
  · obtain ⟨h1, -, -⟩ := h
    cases h1
/-- the call throws, and what it throws leaves this method -/
theorem q_callVT (C : gC G X own cc nL R) {μ0 : gM} {rm0 : Room} {Φ : gF} (CM : gCM G X μ0 rm0 false Φ) (hh : μ0.2.2.2.2 = []) {μ : gM} {rm : Room} {As : List Value} {i ci F na idx : Nat} {T : u_T} {E : String} {M' : gMem} {stk : List Value} (hM : SpT G μ rm (.ref (gb G + i) :: As) M E M') (hV : gV μ na ci T F) (hlk : Cond.methodLink own idx μ.1 ∈ gw)
    (hk : gKd i = (6, ci)) (hi : i < 156) (hn : As.length = na) (hstk : stk = As.reverse ++ .ref (gb G + i) :: st) (hcat : (st.map fun v => v.category).sum ≤ 8) (hR : (rm.frames + 1 ≤ R.frames ∧ 8 + (μ.2.2.1 + 11) + rm.locals ≤ R.locals) ∧ k + rm.cells ≤ R.cells ∧ n + rm.slots ≤ R.slots) (hk2 : k + rm.cells ≤ rm0.cells) (hn2 : n + rm.slots ≤ rm0.slots) (d : decode cc pc = .ok (.invokevirtual idx, 3))
    (hΦ : Φ (.inr E) 156 (mkW G M')) : Q G X k n pc lv stk M := by
  refine j_callV C hM hV.1 hV.2.1 hV.2.2.1 hV.2.2.2.1 hlk (mk6 G M hk) hi hV.2.2.2.2 hn hstk hcat hR d (fun v' N' σ' h => ?_) (fun E' N' σ' h => ?_)
  · obtain ⟨h1, -, -⟩ := h
    cases h1
  · obtain ⟨h1, rfl, rfl⟩ := h
    cases h1
    exact j_out C CM hh hk2 hn2 hΦ
theorem q_callST (C : gC G X own cc nL R) {μ0 : gM} {rm0 : Room} {Φ : gF} (CM : gCM G X μ0 rm0 false Φ) (hh : μ0.2.2.2.2 = []) {μ : gM} {rm : Room} {As : List Value} {na idx : Nat} {E : String} {M' : gMem} {stk : List Value} (hM : SpT G μ rm As M E M') (hV : gSt μ na) (hlk : Cond.methodLink own idx μ.1 ∈ gw)
    (hn : As.length = na) (hstk : stk = As.reverse ++ st) (hcat : (st.map fun v => v.category).sum ≤ 8) (hR : (rm.frames + 1 ≤ R.frames ∧ 8 + (μ.2.2.1 + 11) + rm.locals ≤ R.locals) ∧ k + rm.cells ≤ R.cells ∧ n + rm.slots ≤ R.slots) (hk2 : k + rm.cells ≤ rm0.cells) (hn2 : n + rm.slots ≤ rm0.slots) (d : decode cc pc = .ok (.invokestatic idx, 3))
    (hΦ : Φ (.inr E) 156 (mkW G M')) : Q G X k n pc lv stk M := by
  refine j_callS C hM hV.1 hV.2.1 hV.2.2 hlk hn hstk hcat hR d (fun v' N' σ' h => ?_) (fun E' N' σ' h => ?_)
  · obtain ⟨h1, -, -⟩ := h
    cases h1
  · obtain ⟨h1, rfl, rfl⟩ := h
    cases h1
    exact j_out C CM hh hk2 hn2 hΦ
theorem q_mmax (C : gC G X own cc nL R) {idx : Nat} {x y : Int32} (hlk : Cond.methodLink own idx Lib.Math.max.name ∈ gw) (hstat : Cond.static Lib.Math.max.name ∈ gw) (hini : Cond.initialized "java/lang/Math" ∈ gw) (hc : Cond.code Lib.Math.max.name Lib.Math.max.code 2 (some .int) ∈ gw) (hfr : 1 ≤ R.frames) (hlo : 21 ≤ R.locals) (hcat : (st.map fun v => v.category).sum ≤ 8) (hk : k ≤ R.cells) (hn : n ≤ R.slots) (d : decode cc pc = .ok (.invokestatic idx, 3))
    (kk : Q G X k n (pc + 3) lv (.int (if x < y then y else x) :: st) M) : Q G X k n pc lv (.int y :: .int x :: st) M := fun H locs ls hW hS hl => by
  have hts := C.2.2.2.2.1
  have hXR : xR X = R := C.2.2.2.2.2.2.2.2
  exact va_mmax C.1 C.2.1 hl.1.symm C.2.2.2.1 (hts _ hlk) (hts _ hstat) (hts _ hini) (hts _ hc) (by rw [hXR]; exact hfr) (by rw [hXR]; omega) (by rw [hXR]; exact hk) (by rw [hXR]; exact hn) d (kk H locs ls hW hS hl)
theorem q_mmin (C : gC G X own cc nL R) {idx : Nat} {x y : Int32} (hlk : Cond.methodLink own idx Lib.Math.min.name ∈ gw) (hstat : Cond.static Lib.Math.min.name ∈ gw) (hini : Cond.initialized "java/lang/Math" ∈ gw) (hc : Cond.code Lib.Math.min.name Lib.Math.min.code 2 (some .int) ∈ gw) (hfr : 1 ≤ R.frames) (hlo : 21 ≤ R.locals) (hcat : (st.map fun v => v.category).sum ≤ 8) (hk : k ≤ R.cells) (hn : n ≤ R.slots) (d : decode cc pc = .ok (.invokestatic idx, 3))
    (kk : Q G X k n (pc + 3) lv (.int (if y < x then y else x) :: st) M) : Q G X k n pc lv (.int y :: .int x :: st) M := fun H locs ls hW hS hl => by
  have hts := C.2.2.2.2.1
  have hXR : xR X = R := C.2.2.2.2.2.2.2.2
  exact va_mmin C.1 C.2.1 hl.1.symm C.2.2.2.1 (hts _ hlk) (hts _ hstat) (hts _ hini) (hts _ hc) (by rw [hXR]; exact hfr) (by rw [hXR]; omega) (by rw [hXR]; exact hk) (by rw [hXR]; exact hn) d (kk H locs ls hW hS hl)
theorem q_if_lt (C : gC G X own cc nL R) {a : Nat} {off : Int} (ha : a < 2 ^ 31) (d : decode cc pc = .ok (.ifCond .lt off, 3)) (tgt : Nat) (ht : (pc : Int) + off = (tgt : Int)) (kf : Q G X k n (pc + 3) lv st M) : Q G X k n pc lv (.int (nI a) :: st) M :=
  j_if_lt C tgt d (fun h => absurd h (nI_pos ha)) (fun _ => kf) ht
theorem q_icmp_eq (C : gC G X own cc nL R) {a b : Nat} {off : Int} (tgt : Nat) (d : decode cc pc = .ok (.if_icmp .eq off, 3)) (ht : (pc : Int) + off = (tgt : Int)) (ha : a < 2 ^ 31) (hb : b < 2 ^ 31) (kt : a = b → Q G X k n tgt lv st M) (kf : ¬ a = b → Q G X k n (pc + 3) lv st M) : Q G X k n pc lv (.int (nI b) :: .int (nI a) :: st) M := j_icmp_eq C tgt d (fun h => kt ((nI_eq ha hb).mp h)) (fun h => kf (fun q => h ((nI_eq ha hb).mpr q))) ht
theorem q_icmp_ne (C : gC G X own cc nL R) {a b : Nat} {off : Int} (tgt : Nat) (d : decode cc pc = .ok (.if_icmp .ne off, 3)) (ht : (pc : Int) + off = (tgt : Int)) (ha : a < 2 ^ 31) (hb : b < 2 ^ 31) (kt : ¬ a = b → Q G X k n tgt lv st M) (kf : a = b → Q G X k n (pc + 3) lv st M) : Q G X k n pc lv (.int (nI b) :: .int (nI a) :: st) M := j_icmp_ne C tgt d (fun h => kt (fun q => h ((nI_eq ha hb).mpr q))) (fun h => kf ((nI_eq ha hb).mp h)) ht
theorem q_icmp_lt (C : gC G X own cc nL R) {a b : Nat} {off : Int} (tgt : Nat) (d : decode cc pc = .ok (.if_icmp .lt off, 3)) (ht : (pc : Int) + off = (tgt : Int)) (ha : a < 2 ^ 31) (hb : b < 2 ^ 31) (kt : a < b → Q G X k n tgt lv st M) (kf : b ≤ a → Q G X k n (pc + 3) lv st M) : Q G X k n pc lv (.int (nI b) :: .int (nI a) :: st) M := j_icmp_lt C tgt d (fun h => kt ((nI_ltI ha hb).mp h)) (fun h => kf (Nat.not_lt.mp (fun q => h ((nI_ltI ha hb).mpr q)))) ht
theorem q_icmp_ge (C : gC G X own cc nL R) {a b : Nat} {off : Int} (tgt : Nat) (d : decode cc pc = .ok (.if_icmp .ge off, 3)) (ht : (pc : Int) + off = (tgt : Int)) (ha : a < 2 ^ 31) (hb : b < 2 ^ 31) (kt : b ≤ a → Q G X k n tgt lv st M) (kf : a < b → Q G X k n (pc + 3) lv st M) : Q G X k n pc lv (.int (nI b) :: .int (nI a) :: st) M := j_icmp_ge C tgt d (fun h => kt ((nI_leI hb ha).mp h)) (fun h => kf (Nat.not_le.mp (fun q => h ((nI_leI hb ha).mpr q)))) ht
theorem q_icmp_gt (C : gC G X own cc nL R) {a b : Nat} {off : Int} (tgt : Nat) (d : decode cc pc = .ok (.if_icmp .gt off, 3)) (ht : (pc : Int) + off = (tgt : Int)) (ha : a < 2 ^ 31) (hb : b < 2 ^ 31) (kt : b < a → Q G X k n tgt lv st M) (kf : a ≤ b → Q G X k n (pc + 3) lv st M) : Q G X k n pc lv (.int (nI b) :: .int (nI a) :: st) M := j_icmp_gt C tgt d (fun h => kt ((nI_ltI hb ha).mp h)) (fun h => kf (Nat.not_lt.mp (fun q => h ((nI_ltI hb ha).mpr q)))) ht
theorem q_icmp_le (C : gC G X own cc nL R) {a b : Nat} {off : Int} (tgt : Nat) (d : decode cc pc = .ok (.if_icmp .le off, 3)) (ht : (pc : Int) + off = (tgt : Int)) (ha : a < 2 ^ 31) (hb : b < 2 ^ 31) (kt : a ≤ b → Q G X k n tgt lv st M) (kf : b < a → Q G X k n (pc + 3) lv st M) : Q G X k n pc lv (.int (nI b) :: .int (nI a) :: st) M := j_icmp_le C tgt d (fun h => kt ((nI_leI ha hb).mp h)) (fun h => kf (Nat.not_le.mp (fun q => h ((nI_leI ha hb).mpr q)))) ht
def bI (b : Bool) : Int32 := if b = true then 1 else 0
theorem q_if_eq0 (C : gC G X own cc nL R) {b : Bool} {off : Int} (tgt : Nat) (d : decode cc pc = .ok (.ifCond .eq off, 3)) (ht : (pc : Int) + off = (tgt : Int)) (kt : b = false → Q G X k n tgt lv st M) (kf : b = true → Q G X k n (pc + 3) lv st M) : Q G X k n pc lv (.int (bI b) :: st) M := j_if_eq C tgt d (fun h => kt (by cases b; rfl; cases h)) (fun h => kf (by cases b; exact absurd rfl h; rfl)) ht
theorem q_if_ne0 (C : gC G X own cc nL R) {b : Bool} {off : Int} (tgt : Nat) (d : decode cc pc = .ok (.ifCond .ne off, 3)) (ht : (pc : Int) + off = (tgt : Int)) (kt : b = true → Q G X k n tgt lv st M) (kf : b = false → Q G X k n (pc + 3) lv st M) : Q G X k n pc lv (.int (bI b) :: st) M := j_if_ne C tgt d (fun h => kt (by cases b; exact absurd rfl h; rfl)) (fun h => kf (by cases b; rfl; cases h)) ht
theorem oI_none {o : Option Nat} (ho : ∀ v, o = some v → v < 2 ^ 31) : oI o = -1 ↔ o = none := by
  constructor
  · intro h
    cases o with
    | none => rfl
    | some v =>
      exfalso
      have := nI_toInt (ho v rfl)
      rw [show nI v = -1 from h] at this
      have h1 : (-1 : Int32).toInt = -1 := by decide
      omega
  · intro h
    rw [h]
    rfl
theorem oI_eq {a b : Option Nat} (ha : ∀ v, a = some v → v < 2 ^ 31) (hb : ∀ v, b = some v → v < 2 ^ 31) : oI a = oI b ↔ a = b := by
  constructor
  · intro h
    cases a with
    | none => exact ((oI_none hb).mp h.symm).symm
    | some v =>
      cases b with
      | none => exact (oI_none ha).mp h
      | some w => exact congrArg some ((nI_eq (ha v rfl) (hb w rfl)).mp h)
  · intro h
    rw [h]
theorem q_icmp_eqN (C : gC G X own cc nL R) {o : Option Nat} {off : Int} (tgt : Nat) (d : decode cc pc = .ok (.if_icmp .eq off, 3)) (ht : (pc : Int) + off = (tgt : Int)) (ho : ∀ v, o = some v → v < 2 ^ 31) (kt : o = none → Q G X k n tgt lv st M) (kf : ∀ v, o = some v → Q G X k n (pc + 3) lv st M) : Q G X k n pc lv (.int (-1) :: .int (oI o) :: st) M := j_icmp_eq C tgt d (fun h => kt ((oI_none ho).mp h)) (fun h => by
  cases o with
  | none => exact absurd rfl h
  | some v => exact kf v rfl) ht
theorem q_icmp_neN (C : gC G X own cc nL R) {o : Option Nat} {off : Int} (tgt : Nat) (d : decode cc pc = .ok (.if_icmp .ne off, 3)) (ht : (pc : Int) + off = (tgt : Int)) (ho : ∀ v, o = some v → v < 2 ^ 31) (kt : ∀ v, o = some v → Q G X k n tgt lv st M) (kf : o = none → Q G X k n (pc + 3) lv st M) : Q G X k n pc lv (.int (-1) :: .int (oI o) :: st) M := j_icmp_ne C tgt d (fun h => by
  cases o with
  | none => exact absurd rfl h
  | some v => exact kt v rfl) (fun h => kf ((oI_none ho).mp h)) ht
theorem q_top {x y : Int32} (e : x = y) (kk : Q G X k n pc lv (.int y :: st) M) : Q G X k n pc lv (.int x :: st) M := by rw [e]; exact kk
theorem q_mem {M' : gMem} (e : M = M') (kk : Q G X k n pc lv st M') : Q G X k n pc lv st M := by rw [e]; exact kk
end QROWS
