/-! makers: what lies below p is as σ has it, the rest as it will stay -/
def gLy (G : gG) (p : Nat) (σ : gE) (M : gMem) : gE := fun a => if a < p then σ a else mkW G M a
theorem ly_lt {G : gG} {p a : Nat} {σ : gE} {M : gMem} (h : a < p) : gLy G p σ M a = σ a := if_pos h
theorem ly_ge {G : gG} {p a : Nat} {σ : gE} {M : gMem} (h : p ≤ a) : gLy G p σ M a = mkW G M a := if_neg (Nat.not_lt.mpr h)
theorem ly_up {G : gG} {p o : Nat} {σ : gE} {M : gMem} {e : va_E} (h : o < p) : va_up (gLy G p σ M) o e = gLy G p (va_up σ o e) M := by
  funext a
  by_cases c : a = o
  · subst c
    rw [va_up_self, ly_lt h, va_up_self]
  · rw [va_up_ne _ _ c]
    by_cases d : a < p
    · rw [ly_lt d, ly_lt d, va_up_ne _ _ c]
    · rw [ly_ge (Nat.not_lt.mp d), ly_ge (Nat.not_lt.mp d)]
theorem ly_upM {G : gG} {p o : Nat} {σ : gE} {M M' : gMem} {e : va_E} (h : p ≤ o) (hM : va_up (mkW G M) o e = mkW G M') : va_up (gLy G p σ M) o e = gLy G p σ M' := by
  funext a
  by_cases d : a < p
  · rw [va_up_ne _ _ (show a ≠ o by omega), ly_lt d, ly_lt d]
  · have d' := Nat.not_lt.mp d
    rw [ly_ge d', ← hM]
    by_cases c : a = o
    · subst c
      rw [va_up_self, va_up_self]
    · rw [va_up_ne _ _ c, va_up_ne _ _ c, ly_ge d']
theorem ly_ly {G : gG} {p o : Nat} {σ : gE} {M : gMem} {e : va_E} (h : p ≤ o) : gLy G o (va_up (gLy G p σ M) o e) M = gLy G p σ M := by
  funext a
  by_cases d : a < o
  · rw [ly_lt d, va_up_ne _ _ (show a ≠ o by omega)]
  · rw [ly_ge (Nat.not_lt.mp d), ly_ge (show p ≤ a by omega)]
theorem up_id {α : Type} {f : Nat → α} {o : Nat} {e : α} (h : f o = e) : va_up f o e = f := by
  funext a
  by_cases c : a = o
  · subst c; rw [va_up_self, h]
  · rw [va_up_ne _ _ c]
theorem up_cm {α : Type} (f : Nat → α) {o q : Nat} (e e' : α) (h : o ≠ q) : va_up (va_up f o e) q e' = va_up (va_up f q e') o e := by
  funext a
  by_cases c : a = o
  · subst c; rw [va_up_ne _ _ h, va_up_self, va_up_self]
  · rw [va_up_ne (va_up f q e') _ c]
    by_cases d : a = q
    · subst d; rw [va_up_self, va_up_self]
    · rw [va_up_ne _ _ d, va_up_ne _ _ c, va_up_ne _ _ d]
/-- a maker's end: what came from o on stays so -/
def gMkr (G : gG) (o N' : Nat) (σ : gE) (M : gMem) : gF := fun r N s => r = .inl none ∧ N = N' ∧ s = gLy G o σ M
theorem mkr_no {G : gG} {o N' : Nat} {σ : gE} {M : gMem} : ∀ E N s, ¬ gMkr G o N' σ M (.inr E) N s := fun _ _ _ h => by
  have := h.1
  cases this
def gRmq (d c n : Nat) : Room := { frames := d + 7, cells := c, slots := n, locals := 100 + 40 * d }
/-! rows with some -1 ahead -/
def ngF (m : Nat) : Nat → Int32 := fun j => if j < m then -1 else 0
theorem ng_0 : ngF 0 = fun _ => 0 := funext fun _ => if_neg (Nat.not_lt_zero _)
theorem ng_s (i : Nat) : upd (ngF i) i (-1) = ngF (i + 1) := by
  funext j
  by_cases c : j = i
  · subst c
    rw [upd_s]
    exact (if_pos (Nat.lt_succ_self _)).symm
  · rw [upd_n _ _ c]
    unfold ngF
    by_cases d : j < i
    · rw [if_pos d, if_pos (by omega)]
    · rw [if_neg d, if_neg (by omega)]
theorem ng_lt {m j : Nat} (h : j < m) : ngF m j = -1 := if_pos h
theorem ng_ge {m j : Nat} (h : m ≤ j) : ngF m j = 0 := if_neg (Nat.not_lt.mpr h)
def hdF (m : Nat) : Nat → Int32 := fun j => if j = 0 then 0 else ngF m j
theorem hd_1 : hdF 1 = fun _ => 0 := by
  funext j
  unfold hdF
  by_cases c : j = 0
  · rw [if_pos c]
  · rw [if_neg c, ng_ge (by omega)]
theorem hd_s {i : Nat} (h : 1 ≤ i) : upd (hdF i) i (-1) = hdF (i + 1) := by
  funext j
  by_cases c : j = i
  · subst c
    rw [upd_s]
    unfold hdF
    rw [if_neg (by omega), ng_lt (Nat.lt_succ_self _)]
  · rw [upd_n _ _ c]
    unfold hdF
    by_cases d : j = 0
    · rw [if_pos d, if_pos d]
    · rw [if_neg d, if_neg d, ← ng_s i, upd_n _ _ c]
theorem hd_0 (i : Nat) : upd (hdF i) 0 0 = hdF i := by
  funext j
  by_cases c : j = 0
  · subst c
    rw [upd_s]; rfl
  · rw [upd_n _ _ c]
/-! the first memory -/
def gNg : List (Nat × Nat) → Nat → Nat
  | [], _ => 0
  | (a, x) :: t, o => if a = o then x else gNg t o
def gNt : List (Nat × Nat) := [(4, 8), (5, 60), (6, 60), (133, 8), (135, 8), (140, 8), (142, 8), (146, 8), (153, 8)]
def iI0 (o : Nat) : Nat → Int32 := if o = 154 then hdF 5 else if 10 ≤ o ∧ o < 130 then (if o % 2 = 0 then ngF 0 else ngF 8) else ngF (gNg gNt o)
def mM0 : gMem := (iI0, fun o => if o = 8 then vp_updL (fun _ => 0) 0 1 else fun _ => 0, fun o j => if o = 1 ∧ j = 7 then nI 1 else 0, 0, fun _ => 0)
theorem m0_t {c : Nat} (h : c < 60) : mM0.1 (10 + 2 * c + 1) = ngF 8 := by
  show iI0 (10 + 2 * c + 1) = _
  unfold iI0
  rw [if_neg (by omega), if_pos ⟨by omega, by omega⟩, if_neg (by omega)]
section YROWS
variable {G : gG} {X : gX} {own : String} {cc : ByteArray} {nL : Nat} {R : Room} {N k n pc p : Nat} {lv lv' : List (Option Value)} {st : List Value} {σ σ' : gE} {M M' : gMem}
theorem j_sig {ex : Bool} {σ σ' : gE} (h : ∀ a, a < N → σ a = σ' a) (kk : J G X ex N k n pc lv st σ') : J G X ex N k n pc lv st σ :=
  fun H locs ls hW hS hl => kk H locs ls ⟨fun i hi => by rw [← h i hi]; exact hW.1 i hi, hW.2⟩ hS hl
abbrev YQ (G : gG) (X : gX) (N k n pc : Nat) (lv : List (Option Value)) (st : List Value) (p : Nat) (σ : gE) (M : gMem) : Prop := J G X true N k n pc lv st (gLy G p σ M)
theorem y_cast (h : YQ G X N k n pc lv' st p σ' M') (h1 : gLe lv' lv) (h0 : σ = σ') (h2 : M = M') : YQ G X N k n pc lv st p σ M := by
  rw [h2, h0]
  exact j_sub h1 h
theorem y_sz {N' k' n' : Nat} (hN : N = N') (hk : k ≤ k') (hn : n ≤ n') (h : YQ G X N' k' n' pc lv st p σ M) : YQ G X N k n pc lv st p σ M := by
  rw [hN]
  exact j_wide hk hn h
theorem y_begin {o : Nat} {e : va_E} (hs : σ o = e) (h : YQ G X (o + 1) k n pc lv st (o + 1) (va_up σ o e) M) : J G X true (o + 1) k n pc lv st σ :=
  j_sig (fun a ha => by rw [ly_lt ha, up_id hs]) h
theorem y_get (C : gC G X own cc nL R) {ci F o idx : Nat} {Cn ref : String} {T : u_T} {ty : Nat → FieldType} {fs : List Value} {v : Value} (hF : gFd ci Cn T F ty) (kf : Nat) (ho : o < p) (hp : p ≤ N) (hk : kf < F) (hl : Cond.fieldLink own idx ref (T kf).2.1 (T kf).2.2.1 ∈ gw) (hr : (T kf).1 = ref) (hv : fs[kf]? = some v) (d : decode cc pc = .ok (.getfield idx, 3))
    (kk : YQ G X N k n (pc + 3) lv (v :: st) p (va_up σ o (.inr (ci, fs))) M) : YQ G X N k n pc lv (.ref (gb G + o) :: st) p (va_up σ o (.inr (ci, fs))) M :=
  j_get C hF kf (show gLy G p (va_up σ o (.inr (ci, fs))) M o = .inr (ci, fs) by rw [ly_lt ho, va_up_self]) (by omega) hk hl hr hv d kk
theorem y_put (C : gC G X own cc nL R) {μ : gM} {rm : Room} {Φ : gF} (CM : gCM G X μ rm true Φ) (hμ : μ.1.name = "<init>") {ci F o idx : Nat} {Cn ref : String} {T : u_T} {ty : Nat → FieldType} {fs fs' : List Value} {v : Value} (hF : gFd ci Cn T F ty) (kf : Nat) (ho : o < p) (hp : p ≤ N) (hk : kf < F) (hl : Cond.fieldLink own idx ref (T kf).2.1 (T kf).2.2.1 ∈ gw) (hr : (T kf).1 = ref) (hfin : (T kf).2.2.2 = false ∨ ((T kf).2.2.2 = true ∧ (T kf).1 = own)) (hn : narrow (ty kf) v = v) (hfit : fits (ty kf) v = true) (hlen : kf < fs.length) (hset : fs.set kf v = fs') (d : decode cc pc = .ok (.putfield idx, 3))
    (kk : YQ G X N k n (pc + 3) lv st p (va_up σ o (.inr (ci, fs'))) M) : YQ G X N k n pc lv (v :: .ref (gb G + o) :: st) p (va_up σ o (.inr (ci, fs))) M :=
  j_put C hF kf (show gLy G p (va_up σ o (.inr (ci, fs))) M o = .inr (ci, fs) by rw [ly_lt ho, va_up_self]) (by omega) hk hl hr (hfin.elim Or.inl (fun h => Or.inr ⟨h.1, CM.2.2.2.trans hμ, h.2⟩)) hn hfit hlen d (by rw [ly_up ho, bx_uu, hset]; exact kk)
theorem y_newi (C : gC G X own cc nL R) {m : Nat} (hk : gKd N = (0, m)) (hp : p ≤ N) (hm : m < 1000) (hcells : k + 1 ≤ R.cells) (hslots : n + m ≤ R.slots) (d : decode cc pc = .ok (.newarray .int, 2))
    (kk : YQ G X (N + 1) (k + 1) (n + m) (pc + 2) lv (.ref (gb G + N) :: st) p σ (sI M N (ngF 0))) : YQ G X N k n pc lv (.int (nI m) :: st) p σ M :=
  j_newa (atype := .int) C 0 rfl (fun s h => by cases h) na_int (x := (m, .inl (fun _ => 0))) (fun _ => rfl) (nI_pos (by omega)) (nI_clamp (by omega)) (show m * 4 ≤ 536870912 by omega) hcells hslots d (by rw [ly_upM hp (up0 G M hk (fun _ => 0)), ← ng_0]; exact kk)
theorem y_newz (C : gC G X own cc nL R) {m : Nat} (hz : M.1 N = ngF 0) (hk : gKd N = (0, m)) (hp : p ≤ N) (hm : m < 1000) (hcells : k + 1 ≤ R.cells) (hslots : n + m ≤ R.slots) (d : decode cc pc = .ok (.newarray .int, 2))
    (kk : YQ G X (N + 1) (k + 1) (n + m) (pc + 2) lv (.ref (gb G + N) :: st) p σ M) : YQ G X N k n pc lv (.int (nI m) :: st) p σ M :=
  y_newi C hk hp hm hcells hslots d (by rw [← hz, sI_id]; exact kk)
theorem y_newl (C : gC G X own cc nL R) {m : Nat} (hk : gKd N = (1, m)) (hp : p ≤ N) (hm : m < 1000) (hcells : k + 1 ≤ R.cells) (hslots : n + m ≤ R.slots) (d : decode cc pc = .ok (.newarray .long, 2))
    (kk : YQ G X (N + 1) (k + 1) (n + m) (pc + 2) lv (.ref (gb G + N) :: st) p σ (sL M N (fun _ => 0))) : YQ G X N k n pc lv (.int (nI m) :: st) p σ M :=
  j_newa (atype := .long) C 1 rfl (fun s h => by cases h) na_long (x := (m, .inr (.inl (fun _ => 0)))) (fun _ => rfl) (nI_pos (by omega)) (nI_clamp (by omega)) (show m * 8 ≤ 536870912 by omega) hcells hslots d (by rw [ly_upM hp (up1 G M hk (fun _ => 0))]; exact kk)
theorem y_iast (C : gC G X own cc nL R) {r m a : Nat} {x : Int32} {f : Nat → Int32} (hk : gKd r = (0, m)) (hp : p ≤ r) (hr : r < N) (hm : m < 1000) (ha : a < m) (hf : upd (M.1 r) a x = f) (d : decode cc pc = .ok (.iastore, 1)) (kk : YQ G X N k n (pc + 1) lv st p σ (sI M r f)) : YQ G X N k n pc lv (.int x :: .int (nI a) :: .ref (gb G + r) :: st) p σ M :=
  j_iast C (show gLy G p σ M r = _ by rw [ly_ge hp]; exact mk0 G M hk) hr (vp_in_nI ha (by omega)) d (by rw [nI_clamp (by omega), ly_upM hp (up0 G M hk _), hf]; exact kk)
theorem y_last (C : gC G X own cc nL R) {r m a : Nat} {x : Int64} (hk : gKd r = (1, m)) (hp : p ≤ r) (hr : r < N) (hm : m < 1000) (ha : a < m) (d : decode cc pc = .ok (.lastore, 1)) (kk : YQ G X N k n (pc + 1) lv st p σ (sL M r (vp_updL (M.2.1 r) a x))) : YQ G X N k n pc lv (.long x :: .int (nI a) :: .ref (gb G + r) :: st) p σ M :=
  j_last C (show gLy G p σ M r = _ by rw [ly_ge hp]; exact mk1 G M hk) hr (vp_in_nI ha (by omega)) d (by rw [nI_clamp (by omega), ly_upM hp (up1 G M hk _)]; exact kk)
theorem y_alen (C : gC G X own cc nL R) {r m : Nat} (hk : gKd r = (0, m)) (hp : p ≤ r) (hr : r < N) (d : decode cc pc = .ok (.arraylength, 1)) (kk : YQ G X N k n (pc + 1) lv (.int (nI m) :: st) p σ M) : YQ G X N k n pc lv (.ref (gb G + r) :: st) p σ M :=
  j_alen (x := (m, .inl (M.1 r))) C 0 rfl (show gLy G p σ M r = _ by rw [ly_ge hp]; exact mk0 G M hk) hr rfl d kk
theorem y_iinc (C : gC G X own cc nL R) {i a : Nat} (d : decode cc pc = .ok (.iinc i 1, 3)) (h : gL lv i = some (.int (nI a))) (hi : i < nL) (hn : gN lv i = true) (kk : YQ G X N k n (pc + 3) (gS lv i (some (.int (nI (a + 1))))) st p σ M) : YQ G X N k n pc lv st p σ M :=
  j_iinc C d h hi hn (by rw [show nI a + Int32.ofInt 1 = nI (a + 1) from nI_1 a]; exact kk)
theorem y_ge (C : gC G X own cc nL R) {a b : Nat} {off : Int} (tgt : Nat) (d : decode cc pc = .ok (.if_icmp .ge off, 3)) (ht : (pc : Int) + off = (tgt : Int)) (ha : a < 2 ^ 31) (hb : b < 2 ^ 31) (kt : b ≤ a → YQ G X N k n tgt lv st p σ M) (kf : a < b → YQ G X N k n (pc + 3) lv st p σ M) : YQ G X N k n pc lv (.int (nI b) :: .int (nI a) :: st) p σ M :=
  j_icmp_ge C tgt d (fun h => kt ((nI_leI hb ha).mp h)) (fun h => kf (Nat.not_le.mp (fun q => h ((nI_leI hb ha).mpr q)))) ht
/-- new C() -/
theorem y_sub (C : gC G X own cc nL R) {ci F iN iI N' : Nat} {Cn : String} {T : u_T} {ty : Nat → FieldType} {fs : List Value} {μ : gM} {rm : Room} (hF : gFd ci Cn T F ty) (hcl : Cond.classLink own iN Cn ∈ gw) (hinst : Cond.instantiable Cn F ∈ gw) (hini : Cond.initialized Cn ∈ gw) (hfs : ∀ j, j < F → defaultValue (ty j) = vp_V fs j) (hsub : ∀ σ : gE, σ N = .inr (ci, fs) → Sp G μ rm true (N + 1) [.ref (gb G + N)] σ (gMkr G N N' σ M))
    (hc : gCd μ = .code μ.1 μ.2.1 μ.2.2.1 none) (hy : μ.1.name = "<init>") (hK : gKn μ 0) (hin : Cond.instanceMethod μ.1 ∈ gw) (hlk : Cond.methodLink own iI μ.1 ∈ gw) (hp : p ≤ N) (hcat : (st.map fun v => v.category).sum ≤ 6) (hfr : rm.frames + 1 ≤ R.frames ∧ 8 + (μ.2.2.1 + 11) + rm.locals ≤ R.locals) (hcells : k + (1 + rm.cells) ≤ R.cells) (hslots : n + (F + rm.slots) ≤ R.slots)
    (d0 : decode cc pc = .ok (.new iN, 3)) (d3 : decode cc (pc + 3) = .ok (.dup, 1)) (d4 : decode cc (pc + 4) = .ok (.invokespecial iI, 3))
    (kk : YQ G X N' (k + (1 + rm.cells)) (n + (F + rm.slots)) (pc + 7) lv (.ref (gb G + N) :: st) p σ M) : YQ G X N k n pc lv st p σ M := by
  refine j_new C hF hcl hinst hini hfs (by omega) (by omega) d0 ?_
  refine j_dup C d3 rfl ?_
  refine j_callI (As := []) C (hsub _ (va_up_self _ _ _)) mkr_no hc hy hK hin hlk rfl rfl (by simp only [List.map_cons, List.sum_cons, show (Value.ref (gb G + N)).category = 1 from rfl]; omega) ⟨hfr, by omega, by omega⟩ d4 (fun v N'' σ'' h => ?_)
  obtain ⟨h1, rfl, rfl⟩ := h
  cases h1
  rw [ly_ly hp]
  rw [show k + 1 + rm.cells = k + (1 + rm.cells) by omega, show n + F + rm.slots = n + (F + rm.slots) by omega]
  exact kk
/-- a maker comes to its end -/
theorem y_end (C : gC G X own cc nL R) {μ : gM} {rm : Room} {o N' : Nat} {fs : List Value} {ci : Nat} {τ : gE} (CM : gCM G X μ rm true (gMkr G o N' τ M')) (hN : N = N') (hp : p = o + 1) (hσ : σ = va_up τ o (.inr (ci, fs))) (hM : M = M') (he : mkW G M' o = .inr (ci, fs)) (hret : μ.2.2.2.1 = none) (hk : k ≤ rm.cells) (hn : n ≤ rm.slots) (d : decode cc pc = .ok (.return_, 1)) : YQ G X N k n pc lv [] p σ M := by
  subst hN; subst hp; subst hσ; subst hM
  have e : gLy G (o + 1) (va_up τ o (.inr (ci, fs))) M = gLy G o τ M := by
    funext a
    by_cases c : a < o
    · rw [ly_lt (show a < o + 1 by omega), ly_lt c, va_up_ne _ _ (show a ≠ o by omega)]
    · rw [ly_ge (Nat.not_lt.mp c)]
      by_cases c2 : a = o
      · subst c2
        rw [ly_lt (Nat.lt_succ_self _), va_up_self, he]
      · rw [ly_ge (by omega)]
  show J G X true _ _ _ _ _ _ (gLy G (o + 1) (va_up τ o (.inr (ci, fs))) M)
  rw [e]
  exact j_vret C CM hret hk hn d ⟨rfl, rfl, rfl⟩
/-- the rows of trees while they are made -/
def arT (G : gG) (i : Nat) : va_E := .inl (G.2.2.1 2, 60, .inr (.inr (.inr (.inr (fun c => if c < i then some (gb G + (10 + 2 * c)) else none)))))
theorem y_anew (C : gC G X own cc nL R) {idx : Nat} {τ : gE} {e : va_E} (hcl : Cond.classLink own idx RX4 ∈ gw) (hcells : k + 1 ≤ R.cells) (hslots : n + 60 ≤ R.slots) (d : decode cc pc = .ok (.anewarray idx, 3))
    (kk : YQ G X 3 (k + 1) (n + 60) (pc + 3) lv (.ref (gb G + 2) :: st) 3 (va_up (va_up τ 2 (arT G 0)) 1 e) M) : YQ G X 2 k n pc lv (.int (nI 60) :: st) 2 (va_up τ 1 e) M := by
  refine j_anew C hcl (nI_pos (by decide)) (nI_clamp (by decide)) (by decide) hcells hslots d (j_sig (fun a ha => ?_) kk)
  rw [ly_lt ha]
  by_cases c : a = 2
  · subst c
    rw [va_up_self, va_up_ne _ _ (show (2 : Nat) ≠ 1 by decide), va_up_self]
    unfold arT
    congr 7
  · rw [va_up_ne _ _ c, ly_lt (show a < 2 by omega)]
    by_cases c1 : a = 1
    · subst c1
      rw [va_up_self, va_up_self]
    · rw [va_up_ne _ _ c1, va_up_ne _ _ c1, va_up_ne _ _ c]
theorem y_aast (C : gC G X own cc nL R) {i : Nat} {vs : List Value} {τ : gE} {e : va_E} (hi : i < 60) (hv : mkW G M (10 + 2 * i) = .inr (5, vs)) (hN : 10 + 2 * i < N) (d : decode cc pc = .ok (.aastore, 1))
    (kk : YQ G X N k n (pc + 1) lv st 3 (va_up (va_up τ 2 (arT G (i + 1))) 1 e) M) : YQ G X N k n pc lv (.ref (gb G + (10 + 2 * i)) :: .int (nI i) :: .ref (gb G + 2) :: st) 3 (va_up (va_up τ 2 (arT G i)) 1 e) M := by
  refine j_aast (m := 60) (vs := vs) (f := fun c => if c < i then some (gb G + (10 + 2 * c)) else none) C (show gLy G 3 (va_up (va_up τ 2 (arT G i)) 1 e) M 2 = _ by rw [ly_lt (by decide), va_up_ne _ _ (show (2 : Nat) ≠ 1 by decide), va_up_self]; rfl) (by omega) (show gLy G 3 _ M (10 + 2 * i) = _ by rw [ly_ge (by omega)]; exact hv) hN (vp_in_nI hi (by decide)) d ?_
  rw [nI_clamp (by omega), ly_up (by decide), up_cm _ _ _ (show (1 : Nat) ≠ 2 by decide), bx_uu]
  have e1 : (va_up (fun c => if c < i then some (gb G + (10 + 2 * c)) else none) i (some (gb G + (10 + 2 * i))) : Nat → Option Nat) = fun c => if c < i + 1 then some (gb G + (10 + 2 * c)) else none := by
    funext c
    by_cases h : c = i
    · subst h
      rw [va_up_self]
      exact (if_pos (Nat.lt_succ_self _)).symm
    · rw [va_up_ne _ _ h]
      by_cases h2 : c < i
      · exact (if_pos h2).trans (if_pos (show c < i + 1 by omega)).symm
      · exact (if_neg h2).trans (if_neg (show ¬ c < i + 1 by omega)).symm
  rw [e1]
  exact kk
theorem y_cl {o : Nat} {τ : gE} {e : va_E} (h : mkW G M o = e) (kk : YQ G X N k n pc lv st o τ M) : YQ G X N k n pc lv st (o + 1) (va_up τ o e) M := by
  have e : gLy G (o + 1) (va_up τ o e) M = gLy G o τ M := by
    funext a
    by_cases c : a < o
    · rw [ly_lt (show a < o + 1 by omega), ly_lt c, va_up_ne _ _ (show a ≠ o by omega)]
    · rw [ly_ge (Nat.not_lt.mp c)]
      by_cases c2 : a = o
      · subst c2
        rw [ly_lt (Nat.lt_succ_self _), va_up_self, h]
      · rw [ly_ge (by omega)]
  show J G X true _ _ _ _ _ _ (gLy G (o + 1) _ M)
  rw [e]
  exact kk
end YROWS
theorem sI_cm (M : gMem) (o q : Nat) (f g : Nat → Int32) (h : o ≠ q) : sI (sI M o f) q g = sI (sI M q g) o f := Prod.ext (up_cm M.1 f g h) rfl
/-- the commits' rows in the making -/
def mI (i : Nat) : gMem := sL (sI (sI mM0 5 (ngF i)) 6 (ngF i)) 8 (fun _ => 0)
theorem mI_t {i c : Nat} (h : c < 60) : (mI i).1 (10 + 2 * c + 1) = ngF 8 := by
  show (sI (sI mM0 5 _) 6 _).1 _ = _
  rw [sI_n _ _ (by omega), sI_n _ _ (by omega)]
  exact m0_t h
theorem mI_s (i : Nat) : sI (sI (mI i) 5 (ngF (i + 1))) 6 (ngF (i + 1)) = mI (i + 1) := by
  refine Prod.ext ?_ rfl
  show va_up (va_up (va_up (va_up mM0.1 5 (ngF i)) 6 (ngF i)) 5 (ngF (i + 1))) 6 (ngF (i + 1)) = va_up (va_up mM0.1 5 (ngF (i + 1))) 6 (ngF (i + 1))
  rw [up_cm _ (o := 6) (q := 5) _ _ (by decide), bx_uu, bx_uu]
theorem mI_e : sL (mI 60) 8 (vp_updL ((mI 60).2.1 8) 0 1) = mM0 := by
  refine Prod.ext ?_ (Prod.ext ?_ rfl)
  · show va_up (va_up mM0.1 5 (ngF 60)) 6 (ngF 60) = mM0.1
    rw [up_id (f := mM0.1) (o := 5) (e := ngF 60) rfl, up_id (f := mM0.1) (o := 6) (e := ngF 60) rfl]
  · show va_up (va_up mM0.2.1 8 (fun _ => 0)) 8 (vp_updL (va_up mM0.2.1 8 (fun _ => 0) 8) 0 1) = mM0.2.1
    rw [bx_uu, va_up_self]
    exact up_id rfl
