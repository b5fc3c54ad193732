/-! the good words of the tables -/
def gw : List Cond := lw_tbl.filter goodWord
theorem gw_mem {w : Cond} (h : w ∈ lw_tbl) (g : goodWord w = true) : w ∈ gw := List.mem_filter.mpr ⟨h, g⟩
theorem gw_t {w : Cond} (i : Nat) (h : tables_1[i]? = some w) (g : goodWord w = true) : w ∈ gw := gw_mem (List.mem_append_right _ (List.mem_of_getElem? h)) g
theorem gw_p {w : Cond} (i : Nat) (h : (k2_sels lw_privs)[i]? = some w) (g : goodWord w = true) : w ∈ gw := gw_mem (List.mem_append_left _ (List.mem_of_getElem? h)) g
theorem gw_good {w : Cond} (h : w ∈ gw) : (w.onTables && w.keeps) = true ∨ ∃ ty, w = .arrayClass ty := good_of_word (List.mem_filter.mp h).2
/-! the world: cells at b, b + 1, .. by their offsets; launch, numbers and layouts, numbers of the kinds of rows, b; the script: where, how long, its ints -/
abbrev gE : Type := Nat → va_E
abbrev gG : Type := Launch × va_G × (Nat → ClassId) × Nat × Nat × Nat × (Nat → Int32)
abbrev gb (G : gG) : Nat := G.2.2.2.1
abbrev gSb (G : gG) : Nat := G.2.2.2.2.1
abbrev gSl (G : gG) : Nat := G.2.2.2.2.2.1
abbrev gSx (G : gG) : Nat → Int32 := G.2.2.2.2.2.2
def gT (G : gG) : List (ClassId × FieldType) := [(G.2.2.1 0, .int), (G.2.2.1 1, .long), (G.2.2.1 2, .object RX4)]
abbrev gA (G : gG) : Nat → Prop := fun q => gb G ≤ q
def gW (G : gG) (ex : Bool) (N : Nat) (σ : gE) (H : Heap) : Prop := (∀ i, i < N → va_at G.2.1 vwCl (gb G + i, σ i) H) ∧ gb G + N ≤ H.size ∧ (ex = true → H.size = gb G + N)
theorem gW.put {G : gG} {ex : Bool} {N i : Nat} {σ : gE} {H H1 : Heap} {e : va_E} (h : gW G ex N σ H) (he : va_at G.2.1 vwCl (gb G + i, e) H1) (hz : H1.size = H.size) (hq : ∀ q : Nat, q ≠ gb G + i → H1[q]? = H[q]?) : gW G ex N (va_up σ i e) H1 := by
  refine ⟨fun j hj => ?_, by rw [hz]; exact h.2.1, fun x => by rw [hz]; exact h.2.2 x⟩
  by_cases c : j = i
  · subst c
    simpa [va_up] using he
  · have := (h.1 j hj).kept (H1 := H1) (hq (gb G + j) (by omega))
    simpa [va_up, c] using this
theorem gW.new {G : gG} {N : Nat} {σ : gE} {H H1 : Heap} {e : va_E} (h : gW G true N σ H) (he : va_at G.2.1 vwCl (gb G + N, e) H1) (hz : H1.size = H.size + 1) (hq : ∀ q : Nat, q < H.size → H1[q]? = H[q]?) : gW G true (N + 1) (va_up σ N e) H1 := by
  have hs := h.2.2 rfl
  refine ⟨fun j hj => ?_, by omega, fun _ => by omega⟩
  by_cases c : j = N
  · subst c
    simpa [va_up] using he
  · have := (h.1 j (by omega)).kept (H1 := H1) (hq (gb G + j) (by omega))
    simpa [va_up, c] using this
theorem gW.kept {G : gG} {ex : Bool} {N : Nat} {σ : gE} {H H1 : Heap} (h : gW G ex N σ H) (hz : H.size ≤ H1.size) (hq : ∀ q : Nat, q < H.size → H1[q]? = H[q]?) : gW G false N σ H1 :=
  ⟨fun j hj => (h.1 j hj).kept (hq _ (h.1 j hj).lt), Nat.le_trans h.2.1 hz, fun x => by cases x⟩
theorem gW.ex {G : gG} {ex : Bool} {N : Nat} {σ : gE} {H : Heap} (h : gW G ex N σ H) : gW G false N σ H := ⟨h.1, h.2.1, fun x => by cases x⟩
/-! texts, casts -/
def gStr : List (String × Nat × String) := [("ForkHall", 226, "there is no such path"), ("ForkHall", 54, "the content is out of range"), ("ForkHall", 228, "there is no such file"), ("ForkHall", 73, "there is a file with the other path"), ("ForkHall", 91, "the work tree has no changes"), ("ForkHall", 97, "no further commit has room"), ("ForkHall", 108, "the number is out of range"), ("ForkHall", 111, "the branch exists"), ("ForkHall", 235, "the branch does not exist"), ("ForkHall", 237, "the work tree has changes"), ("ForkHall", 233, "there is no such commit"), ("ForkHall", 130, "the current branch has all of the other one"), ("ForkHall", 138, "a conflict, or no room for a commit"), ("ForkHall", 141, "the other branch has all of the current one"), ("ForkHall", 155, "the second number is neither 0 nor 1"), ("ForkHall", 165, "the commit has no such parent"), ("ForkHall", 187, "the path was not moved"), ("ForkHall", 196, "no commit changed the path"), ("ForkHall", 205, "the content is not packed"), ("ForkHall", 210, "the content is not packed by a difference")]
def gCa : List (String × String) := [("java/lang/ArrayIndexOutOfBoundsException", "java/lang/ArrayIndexOutOfBoundsException"), ("java/lang/IndexOutOfBoundsException", "java/lang/IndexOutOfBoundsException"), ("java/lang/IllegalArgumentException", "java/lang/IllegalArgumentException"), ("java/util/NoSuchElementException", "java/util/NoSuchElementException"), ("java/lang/IllegalStateException", "java/lang/IllegalStateException"), ("java/lang/UnsupportedOperationException", "java/lang/UnsupportedOperationException"), ("java/lang/ArrayIndexOutOfBoundsException", "java/lang/IndexOutOfBoundsException"), ("ForkHall", "java/lang/Object"), ("ForkHall$History", "java/lang/Object"), ("ForkHall$Tree", "java/lang/Object"), ("ForkHall$TreeMerge", "java/lang/Object"), ("ForkHall$Comparison", "java/lang/Object"), ("ForkHall$Pack", "java/lang/Object"), ("java/lang/ArrayIndexOutOfBoundsException", "java/lang/Object"), ("java/lang/IndexOutOfBoundsException", "java/lang/Object"), ("java/util/NoSuchElementException", "java/lang/Object"), ("java/lang/IllegalArgumentException", "java/lang/Object"), ("java/lang/IllegalStateException", "java/lang/Object"), ("java/lang/UnsupportedOperationException", "java/lang/Object"), ("java/lang/Throwable", "java/lang/Object"), ("java/lang/String", "java/lang/Object")]
def gNc : List (String × String) := [("java/util/NoSuchElementException", "java/lang/IndexOutOfBoundsException"), ("java/lang/IllegalArgumentException", "java/lang/IndexOutOfBoundsException"), ("java/lang/IllegalStateException", "java/lang/IndexOutOfBoundsException"), ("java/lang/UnsupportedOperationException", "java/lang/IndexOutOfBoundsException"), ("java/lang/ArrayIndexOutOfBoundsException", "java/lang/IllegalArgumentException"), ("java/lang/IndexOutOfBoundsException", "java/lang/IllegalArgumentException"), ("java/util/NoSuchElementException", "java/lang/IllegalArgumentException"), ("java/lang/IllegalStateException", "java/lang/IllegalArgumentException"), ("java/lang/UnsupportedOperationException", "java/lang/IllegalArgumentException"), ("java/lang/ArrayIndexOutOfBoundsException", "java/util/NoSuchElementException"), ("java/lang/IndexOutOfBoundsException", "java/util/NoSuchElementException"), ("java/lang/IllegalArgumentException", "java/util/NoSuchElementException"), ("java/lang/IllegalStateException", "java/util/NoSuchElementException"), ("java/lang/UnsupportedOperationException", "java/util/NoSuchElementException"), ("java/lang/ArrayIndexOutOfBoundsException", "java/lang/IllegalStateException"), ("java/lang/IndexOutOfBoundsException", "java/lang/IllegalStateException"), ("java/util/NoSuchElementException", "java/lang/IllegalStateException"), ("java/lang/IllegalArgumentException", "java/lang/IllegalStateException"), ("java/lang/UnsupportedOperationException", "java/lang/IllegalStateException"), ("java/lang/ArrayIndexOutOfBoundsException", "java/lang/UnsupportedOperationException"), ("java/lang/IndexOutOfBoundsException", "java/lang/UnsupportedOperationException"), ("java/util/NoSuchElementException", "java/lang/UnsupportedOperationException"), ("java/lang/IllegalArgumentException", "java/lang/UnsupportedOperationException"), ("java/lang/IllegalStateException", "java/lang/UnsupportedOperationException")]
def gDc : List MethodName := [Bundle.initS "java/lang/RuntimeException", Bundle.initS "java/lang/Exception", Bundle.initS "java/lang/Throwable"]
def gU (G : gG) (U : State) : Prop :=
  va_K G.2.1 vwCl (gT G) U ∧ G.1.stackTraces = false ∧ (∀ q ∈ gStr, ∃ a, vk_R q.1 q.2.1 q.2.2 a U) ∧ (∀ q ∈ gCa, va_Nw (.castable q.1 q.2) U) ∧ (∀ q ∈ gNc, va_Nc q.1 q.2 U) ∧ (∀ q ∈ gDc, va_Nw (.declares q) U) ∧ va_AO RX4 U
def gZ (G : gG) (U : State) (H : Heap) : Prop := vx_Zq Bundle.tN "UNASSIGNED_STACK" Bundle.steD (gA G) U H ∧ vx_Zq Bundle.tN "SUPPRESSED_SENTINEL" Bundle.listD (gA G) U H ∧ gb G ≤ H.size ∧ gSb G < gb G ∧ va_X (gSb G) (gSl G) (gSx G) U H
theorem gU.warm {G : gG} {s U : State} (hW : s.WarmedH U.vm) (h : gU G s) : gU G U := by
  obtain ⟨h1, h2, h3, h4, h5, h6, h7⟩ := h
  refine ⟨h1.moved hW.alike, h2, fun q hq => ?_, fun q hq => (h4 q hq).warmC hW, fun q hq => (h5 q hq).moved hW.alike, fun q hq => va_tabs rfl (rfl : (s.setVm U.vm).vm = U.vm) (by rw [Cond.declares_setVm hW.alike]; exact h6 q hq), h7.moved hW.alike⟩
  obtain ⟨a, ha⟩ := h3 q hq
  exact ⟨a, ha.warm hW⟩
theorem gZ.moved {G : gG} {s U : State} {H H1 : Heap} {locs : List Loc} (hvm : s.vm.Alike U.vm) (hS : va_S (gA G) H H1 locs) (h : gZ G s H) : gZ G U H1 :=
  ⟨vx_Zq.moved hvm (h.1.kept hS.2.1), vx_Zq.moved hvm (h.2.1.kept hS.2.1), Nat.le_trans h.2.2.1 hS.1, h.2.2.2.1, (h.2.2.2.2.moved hvm).kept (hS.2.1 _ (Nat.lt_of_lt_of_le h.2.2.2.1 h.2.2.1) (Nat.not_le.mpr h.2.2.2.1))⟩
/-! a method: name, bytes, locals, what it returns, its table -/
abbrev gM : Type := MethodName × ByteArray × Nat × Option FieldType × List (Nat × Nat × Nat × Nat)
def gCd (μ : gM) : Cond := match μ.2.2.2.2 with
  | [] => .code μ.1 μ.2.1 μ.2.2.1 μ.2.2.2.1
  | hh => .codeWith μ.1 μ.2.1 μ.2.2.1 μ.2.2.2.1 hh
abbrev gWs (μ : gM) : List Cond := gCd μ :: gw
abbrev gR : Type := Option Value ⊕ String
abbrev gF : Type := gR → Nat → gE → Prop
def gQ (G : gG) (ex : Bool) (Φ : gF) : Array Value → State → Outcome → State → Prop := fun _ st o t => (∃ (v : Option Value) (N : Nat) (σ : gE), o = .returned v ∧ Φ (.inl v) N σ ∧ gW G ex N σ t.heap) ∧ va_F (gA G) st t
def gXC (G : gG) (Φ : gF) : String → State → State → Prop := fun E st t => (∃ (N : Nat) (σ : gE), Φ (.inr E) N σ ∧ gW G false N σ t.heap) ∧ va_F (gA G) st t
def gPc (G : gG) (ex : Bool) (N : Nat) (av : List Value) (σ : gE) : Array Value → State → Prop := va_Pc av (fun U => gU G U ∧ gZ G U U.heap ∧ gW G ex N σ U.heap)
/-- a method's contract -/
def Sp (G : gG) (μ : gM) (rm : Room) (ex : Bool) (N : Nat) (av : List Value) (σ : gE) (Φ : gF) : Prop :=
  vx_Met G.1 μ.1 (gWs μ) rm (gPc G ex N av σ) (gQ G ex Φ) (gXC G Φ) rm.cells rm.slots (gA G)
theorem gPc_blind {G : gG} {ex : Bool} {N : Nat} {av : List Value} {σ : gE} : FrameBlind (gPc G ex N av σ) := by
  intro a U g mk h
  obtain ⟨h1, h2, h3, h4⟩ := h
  have hW : U.WarmedH (U.calling g mk a).vm := State.WarmedH.refl U
  exact ⟨h1, h2.warm hW, gZ.moved (H := U.heap) (H1 := U.heap) (locs := []) hW.alike va_S.rf h3, h4⟩
/-! a frame's surroundings -/
abbrev gX : Type := Program × Env × Room × State × MethodId × Array Value × List Frame × Method × Code × (State → Prop)
abbrev xp (X : gX) : Program := X.1
abbrev xe (X : gX) : Env := X.2.1
abbrev xR (X : gX) : Room := X.2.2.1
abbrev xs (X : gX) : State := X.2.2.2.1
abbrev xm (X : gX) : MethodId := X.2.2.2.2.1
abbrev xa (X : gX) : Array Value := X.2.2.2.2.2.1
abbrev xb (X : gX) : List Frame := X.2.2.2.2.2.2.1
abbrev xh (X : gX) : Method := X.2.2.2.2.2.2.2.1
abbrev xc (X : gX) : Code := X.2.2.2.2.2.2.2.2.1
abbrev xQ (X : gX) : State → Prop := X.2.2.2.2.2.2.2.2.2
def gC (G : gG) (X : gX) (own : String) (cc : ByteArray) (nL : Nat) (R : Room) : Prop :=
  (xp X).tables.exec = Jvm.exec ∧ (xc X).code = cc ∧ (xc X).maxLocals = nL ∧ (xs X).vm.findClass own = some (xm X).cls ∧ (∀ w ∈ gw, w.before (xa X) (xs X) = true) ∧ (xh X).locks = false ∧ gU G (xs X) ∧ gZ G (xs X) (xs X).heap ∧ xR X = R
def gCM (G : gG) (X : gX) (μ : gM) (rm : Room) (ex : Bool) (Φ : gF) : Prop :=
  xQ X = vx_MQ (xb X) (gQ G ex Φ) (gXC G Φ) (xa X) (xs X) rm.cells rm.slots (gA G) ∧ (xh X).sig.returnType = μ.2.2.2.1 ∧ (xc X).exceptionTable.toList = tableOf μ.2.2.2.2 ∧ (xh X).name = μ.1.name
/-! locals by their places -/
def gL : List (Option Value) → Nat → Option Value
  | [], _ => none
  | o :: _, 0 => o
  | _ :: t, i + 1 => gL t i
def gS : List (Option Value) → Nat → Option Value → List (Option Value)
  | [], _, _ => []
  | _ :: t, 0, v => v :: t
  | o :: t, i + 1, v => o :: gS t i v
/-- no value of two slots ends behind place i -/
def gN (lv : List (Option Value)) : Nat → Bool
  | 0 => true
  | i + 1 => match gL lv i with
    | some v => v.category == 1
    | none => true
theorem gL_S : ∀ (lv : List (Option Value)) (i j : Nat) (v : Option Value) (w : Value), gL (gS lv i v) j = some w → (j = i ∧ v = some w) ∨ (j ≠ i ∧ gL lv j = some w)
  | [], i, j, v, w, h => by cases h
  | o :: t, 0, 0, v, w, h => Or.inl ⟨rfl, h⟩
  | o :: t, 0, j + 1, v, w, h => Or.inr ⟨by omega, h⟩
  | o :: t, i + 1, 0, v, w, h => Or.inr ⟨by omega, h⟩
  | o :: t, i + 1, j + 1, v, w, h => by
    rcases gL_S t i j v w h with ⟨a, b⟩ | ⟨a, b⟩
    · exact Or.inl ⟨by omega, b⟩
    · exact Or.inr ⟨by omega, b⟩
def gH (ls : Array Slot) (nL : Nat) (lv : List (Option Value)) : Prop := ls.size = nL ∧ lv_wf ls ∧ ∀ (i : Nat) (v : Value), gL lv i = some v → ls[i]? = some (.val v)
def gPr (lv : List (Option Value)) : List (Nat × Value) := (List.range lv.length).filterMap (fun i => (gL lv i).map (fun v => (i, v)))
theorem gL_lt : ∀ (lv : List (Option Value)) (i : Nat) (v : Value), gL lv i = some v → i < lv.length
  | [], _, _, h => by cases h
  | _ :: t, 0, _, _ => by simp
  | _ :: t, i + 1, v, h => by
    have := gL_lt t i v h
    simp only [List.length_cons]
    omega
theorem gPr_mem {lv : List (Option Value)} {i : Nat} {v : Value} : (i, v) ∈ gPr lv ↔ gL lv i = some v := by
  constructor
  · intro h
    obtain ⟨j, hj, e⟩ := List.mem_filterMap.mp h
    cases hg : gL lv j with
    | none => rw [hg] at e; cases e
    | some w => rw [hg] at e; cases e; exact hg
  · intro h
    exact List.mem_filterMap.mpr ⟨i, List.mem_range.mpr (gL_lt lv i v h), by rw [h]; rfl⟩
theorem gH.has {ls : Array Slot} {nL : Nat} {lv : List (Option Value)} (h : gH ls nL lv) : lv_has ls nL (gPr lv) := ⟨h.1, h.2.1, fun q hq => h.2.2 q.1 q.2 (gPr_mem.mp hq)⟩
theorem gH.st1 {ls : Array Slot} {nL i : Nat} {lv : List (Option Value)} {v : Value} (hn : gN lv i = true) (h : lv_has ls nL ((i, v) :: (gPr lv).filter (fun q => !(q.1 == i) && !(q.1 + 1 == i && q.2.category == 2)))) : gH ls nL (gS lv i (some v)) := by
  refine ⟨h.1, h.2.1, fun j w hj => ?_⟩
  rcases gL_S lv i j (some v) w hj with ⟨a, b⟩ | ⟨a, b⟩
  · subst a
    cases b
    exact h.2.2 (j, v) List.mem_cons_self
  · refine h.2.2 (j, w) (List.mem_cons_of_mem _ (List.mem_filter.mpr ⟨gPr_mem.mpr b, ?_⟩))
    have h1 : (j == i) = false := by simp [a]
    have h2 : (j + 1 == i && w.category == 2) = false := by
      by_cases c : j + 1 = i
      · subst c
        simp only [gN, b] at hn
        have : w.category = 1 := by simpa using hn
        simp [this]
      · simp [c]
    simp [h1, h2]
theorem gH.st2 {ls : Array Slot} {nL i : Nat} {lv : List (Option Value)} {v : Value} (hn : gN lv i = true) (h : lv_has ls nL ((i, v) :: (gPr lv).filter (fun q => !(q.1 == i) && (!(q.1 == i + 1) && !(q.1 + 1 == i && q.2.category == 2))))) : gH ls nL (gS (gS lv i (some v)) (i + 1) none) := by
  refine ⟨h.1, h.2.1, fun j w hj => ?_⟩
  rcases gL_S _ _ _ _ _ hj with ⟨a, b⟩ | ⟨a0, b0⟩
  · cases b
  rcases gL_S lv i j (some v) w b0 with ⟨a, b⟩ | ⟨a, b⟩
  · subst a
    cases b
    exact h.2.2 (j, v) List.mem_cons_self
  · refine h.2.2 (j, w) (List.mem_cons_of_mem _ (List.mem_filter.mpr ⟨gPr_mem.mpr b, ?_⟩))
    have h1 : (j == i) = false := by simp [a]
    have h3 : (j == i + 1) = false := by simp [a0]
    have h2 : (j + 1 == i && w.category == 2) = false := by
      by_cases c : j + 1 = i
      · subst c
        simp only [gN, b] at hn
        have : w.category = 1 := by simpa using hn
        simp [this]
      · simp [c]
    simp [h1, h2, h3]
/-- fewer known locals -/
def gLe : List (Option Value) → List (Option Value) → Prop
  | [], _ => True
  | none :: t, _ :: t' => gLe t t'
  | some v :: t, o :: t' => o = some v ∧ gLe t t'
  | none :: t, [] => gLe t []
  | some _ :: _, [] => False
theorem gLe.get : ∀ (a b : List (Option Value)) (i : Nat) (v : Value), gLe a b → gL a i = some v → gL b i = some v
  | [], _, _, _, _, h => by cases h
  | none :: t, _ :: t', 0, v, _, h => by cases h
  | none :: t, _ :: t', i + 1, v, hl, h => gLe.get t t' i v hl h
  | some w :: t, o :: t', 0, v, hl, h => hl.1.trans h
  | some w :: t, o :: t', i + 1, v, hl, h => gLe.get t t' i v hl.2 h
  | none :: t, [], 0, v, _, h => by cases h
  | none :: t, [], i + 1, v, hl, h => by
    have := gLe.get t [] i v hl h
    cases this
  | some _ :: _, [], _, _, hl, _ => hl.elim
def gArgs : List Value → List (Option Value)
  | [] => []
  | v :: t => if v.category = 2 then some v :: none :: gArgs t else some v :: gArgs t
def gPad : Nat → List (Option Value) → List (Option Value)
  | 0, l => l
  | n + 1, [] => none :: gPad n []
  | n + 1, o :: t => o :: gPad n t
theorem gL_pad : ∀ (n : Nat) (l : List (Option Value)) (i : Nat) (v : Value), gL (gPad n l) i = some v → gL l i = some v
  | 0, _, _, _, h => h
  | n + 1, [], 0, v, h => by cases h
  | n + 1, [], i + 1, v, h => by
    have := gL_pad n [] i v h
    cases this
  | n + 1, o :: t, 0, v, h => h
  | n + 1, o :: t, i + 1, v, h => gL_pad n t i v h
theorem gL_args : ∀ (av : List Value) (k i : Nat) (v : Value), gL (gArgs av) i = some v → (k + i, v) ∈ lv_args k av
  | [], _, _, _, h => by cases h
  | w :: t, k, i, v, h => by
    unfold gArgs at h
    by_cases c : w.category = 2
    · rw [if_pos c] at h
      match i, h with
      | 0, h => cases h; exact List.mem_cons_self
      | 1, h => cases h
      | i + 2, h =>
        have := gL_args t (k + 2) i v h
        refine List.mem_cons_of_mem _ ?_
        rw [if_pos c]
        rwa [show k + (i + 2) = k + 2 + i by omega]
    · rw [if_neg c] at h
      match i, h with
      | 0, h => cases h; exact List.mem_cons_self
      | i + 1, h =>
        have := gL_args t (k + 1) i v h
        refine List.mem_cons_of_mem _ ?_
        rw [if_neg c]
        rwa [show k + (i + 1) = k + 1 + i by omega]
abbrev gEnt (av : List Value) (n : Nat) : List (Option Value) := gPad n (gArgs av)
theorem gH_entry (av : List Value) {n : Nat} (h : (lg_sl av).length ≤ n) : gH ((lg_sl av ++ List.replicate (n - (lg_sl av).length) Slot.unset).toArray) n (gEnt av n) := by
  obtain ⟨h1, h2, h3⟩ := lv_entry av h
  refine ⟨h1, h2, fun i v hi => ?_⟩
  have := gL_args av 0 i v (gL_pad _ _ _ _ hi)
  rw [Nat.zero_add] at this
  exact h3 (i, v) this
/-! the judgement: from here the frame comes to its end as X asks -/
def J (G : gG) (X : gX) (ex : Bool) (N k n : Nat) (pc : Nat) (lv : List (Option Value)) (st : List Value) (σ : gE) : Prop :=
  ∀ (H : Heap) (locs : List Loc) (ls : Array Slot), gW G ex N σ H → va_S (gA G) (xs X).heap H locs → gH ls (xc X).maxLocals lv →
    W (xp X) G.1 (xe X) (xR X) (xs X) (xm X) (xa X) (xb X) (xh X) (xc X) H locs k n (xQ X) (F0 (xm X) pc ls st)
/-- an object of E thrown at pc -/
def JX (G : gG) (X : gX) (N k n : Nat) (pc : Nat) (lv : List (Option Value)) (st : List Value) (σ : gE) (E : String) : Prop :=
  ∀ (H : Heap) (locs : List Loc) (ls : Array Slot) (q : Nat) (ce : Cell), gW G false N σ H → va_S (gA G) (xs X).heap H locs → gH ls (xc X).maxLocals lv → H[q]? = some ce → ce.vm = .none → (xs X).vm.findClass E = some ce.cls →
    vx_W (xp X) G.1 (xe X) (xR X) (xs X) (xm X) (xa X) (xb X) (xh X) (xc X) H locs k n (xQ X) (F0 (xm X) pc ls st) q
section JROWS
variable {G : gG} {X : gX} {own : String} {cc : ByteArray} {nL : Nat} {R : Room} {ex : Bool} {N k n pc : Nat} {lv : List (Option Value)} {st : List Value} {σ : gE}
theorem j_sub {lv' : List (Option Value)} (h : gLe lv' lv) (kk : J G X ex N k n pc lv' st σ) : J G X ex N k n pc lv st σ :=
  fun H locs ls hW hS hl => kk H locs ls hW hS ⟨hl.1, hl.2.1, fun i v hi => hl.2.2 i v (h.get _ _ _ _ hi)⟩
theorem j_ex (kk : J G X false N k n pc lv st σ) : J G X ex N k n pc lv st σ := fun H locs ls hW hS hl => kk H locs ls hW.ex hS hl
theorem j_wide {k' n' : Nat} (h1 : k ≤ k') (h2 : n ≤ n') (kk : J G X ex N k' n' pc lv st σ) : J G X ex N k n pc lv st σ := fun H locs ls hW hS hl => W.widen h1 h2 (kk H locs ls hW hS hl)
end JROWS
