/-! the law's own script and numbers -/
def atN (G : gG) (k : Nat) : Int32 := if k < gSl G then gSx G k else 0
def smN (x : Int32) (n : Nat) : Nat := (fmv x (nI n)).toNatClampNeg
theorem sm_eq (x : Int32) {n : Nat} (h0 : 0 < n) (h : n < 2 ^ 31) : fmv x (nI n) = nI (smN x n) ∧ smN x n < n := by
  obtain ⟨c, h1, h2⟩ := fmv_nat (a := x) (m := nI n) (by rw [nI_toInt h]; omega)
  rw [nI_toInt h] at h2
  have h3 : c < n := by omega
  have e : fmv x (nI n) = nI c := h1
  unfold smN
  rw [e, nI_clamp (by omega)]
  exact ⟨rfl, h3⟩
theorem fm_ge {x y : Int32} (h : 0 ≤ x - x / y * y) : x - x / y * y = fmv x y := (if_pos h).symm
theorem fm_lt {x y : Int32} (h : ¬ 0 ≤ x - x / y * y) : x - x / y * y + y = fmv x y := (if_neg h).symm
/-- a content of the law's -/
def txN (t : Nat) : Nat := 1000 * (t % 2) + 100 * (t / 2 % 2) + 10 * (t / 4 % 3) + t / 12 % 4
theorem tx_lt (t : Nat) : txN t < 2000 := by
  have h1 := Nat.mod_lt t (show 0 < 2 by decide)
  have h2 := Nat.mod_lt (t / 2) (show 0 < 2 by decide)
  have h3 := Nat.mod_lt (t / 4) (show 0 < 3 by decide)
  have h4 := Nat.mod_lt (t / 12) (show 0 < 4 by decide)
  unfold txN
  omega
section SROWS
variable {G : gG} {X : gX} {own : String} {cc : ByteArray} {nL : Nat} {R : Room} {ex : Bool} {N k n pc : Nat} {lv : List (Option Value)} {st : List Value} {σ : gE} {M : gMem}
theorem j_ldc (C : gC G X own cc nL R) {idx : Nat} (v : Int32) (hc : Cond.constant own idx v ∈ gw) (d : decode cc pc = .ok (.ldc idx, 2)) (kk : J G X ex N k n (pc + 2) lv (.int v :: st) σ) : J G X ex N k n pc lv st σ := fun H locs ls hW hS hl => lv_ldc C.1 C.2.1 C.2.2.2.1 (C.2.2.2.2.1 _ hc) d (kk H locs ls hW hS hl)
theorem s_len (C : gC G X own cc nL R) (d : decode cc pc = .ok (.arraylength, 1)) (kk : J G X ex N k n (pc + 1) lv (.int (nI (gSl G)) :: st) σ) : J G X ex N k n pc lv (.ref (gSb G) :: st) σ := fun H locs ls hW hS hl =>
  have hZ := C.2.2.2.2.2.2.2.1
  va_slen C.1 C.2.1 hZ.2.2.2.2 (Nat.lt_of_lt_of_le hZ.2.2.2.1 hZ.2.2.1) (Nat.not_le.mpr hZ.2.2.2.1) hS d (kk H locs ls hW hS hl)
theorem s_ld (C : gC G X own cc nL R) {a : Nat} (ha : a < gSl G) (hL : gSl G ≤ 260) (d : decode cc pc = .ok (.iaload, 1)) (kk : J G X ex N k n (pc + 1) lv (.int (gSx G a) :: st) σ) : J G X ex N k n pc lv (.int (nI a) :: .ref (gSb G) :: st) σ := fun H locs ls hW hS hl =>
  have hZ := C.2.2.2.2.2.2.2.1
  va_sld C.1 C.2.1 hZ.2.2.2.2 (Nat.lt_of_lt_of_le hZ.2.2.2.1 hZ.2.2.1) (Nat.not_le.mpr hZ.2.2.2.1) hS (vp_in_nI ha (by omega)) d (by rw [nI_clamp (by omega)]; exact kk H locs ls hW hS hl)
theorem q_callSS (C : gC G X own cc nL R) {μ : gM} {rm : Room} {As : List Value} {na idx : Nat} {v : Option Value} {S : gMem → Prop} {stk : List Value} (hM : SpS G μ rm As M v S) (hV : gSt μ na) (hlk : Cond.methodLink own idx μ.1 ∈ gw)
    (hn : As.length = na) (hstk : stk = As.reverse ++ st) (hcat : (st.map fun v => v.category).sum ≤ 8) (hR : (rm.frames + 1 ≤ R.frames ∧ 8 + (μ.2.2.1 + 11) + rm.locals ≤ R.locals) ∧ k + rm.cells ≤ R.cells ∧ n + rm.slots ≤ R.slots) (d : decode cc pc = .ok (.invokestatic idx, 3))
    (kk : ∀ M', S M' → Q G X (k + rm.cells) (n + rm.slots) (pc + 3) lv (v.toList ++ st) M') : Q G X k n pc lv stk M := by
  refine j_callS C hM hV.1 hV.2.1 hV.2.2 hlk hn hstk hcat hR d (fun v' N' σ' h => ?_) (fun E N' σ' h => ?_)
  · obtain ⟨h1, rfl, M', hS, rfl⟩ := h
    cases h1
    exact kk M' hS
  · obtain ⟨h1, -, -⟩ := h
    cases h1
theorem q_callHS (C : gC G X own cc nL R) {μ : gM} {rm : Room} {As : List Value} {na idx : Nat} {v : Option Value} {S : gMem → Prop} {stk : List Value} (hM : SpS G μ rm As M v S) (hc : gCd μ = .codeWith μ.1 μ.2.1 μ.2.2.1 μ.2.2.2.1 μ.2.2.2.2) (hK : gKn μ na) (hstat : Cond.static μ.1 ∈ gw) (hlk : Cond.methodLink own idx μ.1 ∈ gw)
    (hn : As.length = na) (hstk : stk = As.reverse ++ st) (hcat : (st.map fun v => v.category).sum ≤ 8) (hR : (rm.frames + 1 ≤ R.frames ∧ 8 + (μ.2.2.1 + 11) + rm.locals ≤ R.locals) ∧ k + rm.cells ≤ R.cells ∧ n + rm.slots ≤ R.slots) (d : decode cc pc = .ok (.invokestatic idx, 3))
    (kk : ∀ M', S M' → Q G X (k + rm.cells) (n + rm.slots) (pc + 3) lv (v.toList ++ st) M') : Q G X k n pc lv stk M := by
  refine j_callH C hM hc hK hstat hlk hn hstk hcat hR d (fun v' N' σ' h => ?_) (fun E N' σ' h => ?_)
  · obtain ⟨h1, rfl, M', hS, rfl⟩ := h
    cases h1
    exact kk M' hS
  · obtain ⟨h1, -, -⟩ := h
    cases h1
end SROWS
theorem gl_1000000 : Cond.constant RL 74 (1000000) ∈ gw := gw_t 726 (by decide +kernel) rfl
theorem gl_100000000 : Cond.constant RL 159 (100000000) ∈ gw := gw_t 824 (by decide +kernel) rfl
/-! ends of the calls -/
theorem wI_0 {o : gRes} (h : o.1 = 0) : o.2.1 = wI o := (if_pos h).symm
theorem wI_s {o : gRes} {j : Nat} {z : Int32} (h : o.1 = j + 1) (hz : z = -1000 - nI (j + 1)) : z = wI o := by
  unfold wI
  rw [if_neg (by omega), h, hz]
theorem post_in {L : List String} {o : gRes} {M M' : gMem} {v : Option Value} (h : gPost L o M (.inl v) M') : o.1 = 0 ∧ v = some (.int o.2.1) ∧ gRC o.2.2 M' ∧ gCls M M' := by
  obtain ⟨h1, h2, h3⟩ := h
  rcases h1 with ⟨h4, h5⟩ | ⟨E, _, _, h5⟩
  · exact ⟨h4, Sum.inl.inj h5, h2, h3⟩
  · cases h5
theorem post_ex {L : List String} {o : gRes} {M M' : gMem} {E : String} (h : gPost L o M (.inr E) M') : ∃ j, o.1 = j + 1 ∧ L[j]? = some E ∧ gRC o.2.2 M' ∧ gCls M M' := by
  obtain ⟨h1, h2, h3⟩ := h
  rcases h1 with ⟨_, h5⟩ | ⟨E', h4, h6, h5⟩
  · cases h5
  · cases h5
    exact ⟨o.1 - 1, by omega, h6, h2, h3⟩
/-- a call that is known to return -/
theorem post_S {G : gG} {μ : gM} {rm : Room} {av : List Value} {M : gMem} {L : List String} {o : gRes} (h : SpO G μ rm av M (gPost L o M)) (h0 : o.1 = 0) : SpS G μ rm av M (some (.int o.2.1)) (gRC o.2.2) := by
  refine g_mono h (fun a st out t hq => ?_)
  rcases hq with ⟨⟨⟨v', N', σ', hv, ⟨h1, M1, h2, h3⟩, hW⟩, hF⟩, hL⟩ | ⟨q, ho, E, ce, L', ⟨⟨N', σ', ⟨h1, M1, h2, h3⟩, _⟩, _⟩, _⟩
  · obtain ⟨-, e1, e2, -⟩ := post_in h2
    exact Or.inl ⟨⟨⟨v', N', σ', hv, ⟨by rw [e1], h1, M1, e2, h3⟩, hW⟩, hF⟩, hL⟩
  · obtain ⟨j, e1, -⟩ := post_ex h2
    omega
theorem two_ok {A : gSt0} (hA : gAi A) (f : Nat → Nat → Int32) {c o : Nat} (hc : c < aN A) (ho : o < aN A) : oTwo A f (nI c) (nI o) = (0, f c o, A) := by
  have h60 := hA.1.2
  unfold oTwo
  rw [inB_nI (by omega) hc, inB_nI (by omega) ho]
theorem sq_two (G : gG) (M : gMem) {A : gSt0} {c o : Nat} {μ : gM} {rm : Room} {f : Nat → Nat → Int32} {L : List String} {z : Int32} (h : SpO G μ rm [.ref (gb G + 0), .int (nI c), .int (nI o)] M (gPost L (oTwo A f (nI c) (nI o)) M)) (hA : gAi A) (hc : c < aN A) (ho : o < aN A) (hz : f c o = z) : SpS G μ rm [.ref (gb G + 0), .int (nI c), .int (nI o)] M (some (.int z)) (gRC A) := by
  rw [two_ok hA f hc ho] at h
  have := post_S h rfl
  rw [← hz]
  exact this
theorem sq_base (G : gG) (M : gMem) {A : gSt0} (hO : gOk A) (hC : gRC A M) {c o : Nat} (hc : c < aN A) (ho : o < aN A) : SpS G mX6_base (gRm 3 2) [.ref (gb G + 0), .int (nI c), .int (nI o)] M (some (.int (nI (bbN A c o)))) (gRC A) := sq_two G M (sp_X6_base G M hO.1 hO.2 hC _ _) hO.1 hc ho (by show oI (bbO A c o) = _; rw [(bb_cm hO.1 hc ho).2.2.2]; rfl)
theorem sq_baseS (G : gG) (M : gMem) {A : gSt0} (hO : gOk A) (hC : gRC A M) {c o : Nat} (hc : c < aN A) (ho : o < aN A) : SpS G mX6_base (gRm 3 2) [.ref (gb G + 0), .int (nI o), .int (nI c)] M (some (.int (nI (bbN A c o)))) (gRC A) := sq_two G M (sp_X6_base G M hO.1 hO.2 hC _ _) hO.1 ho hc (by show oI (bbO A o c) = _; rw [bb_sym, (bb_cm hO.1 hc ho).2.2.2]; rfl)
theorem sq_baseW (G : gG) (M : gMem) {A : gSt0} (hO : gOk A) (hC : gRC A M) {c o : Nat} (hc : c < aN A) (ho : o < aN A) : SpS G mX6_baseByWalking (gRm 4 2) [.ref (gb G + 0), .int (nI c), .int (nI o)] M (some (.int (nI (bbN A c o)))) (gRC A) := sq_two G M (sp_X6_baseByWalking G M hO.1 hO.2 hC _ _) hO.1 hc ho (by show oI (bbO A c o) = _; rw [(bb_cm hO.1 hc ho).2.2.2]; rfl)
theorem sq_bases (G : gG) (M : gMem) {A : gSt0} (hO : gOk A) (hC : gRC A M) {c o : Nat} (hc : c < aN A) (ho : o < aN A) : SpS G mX6_bases (gRm 3 2) [.ref (gb G + 0), .int (nI c), .int (nI o)] M (some (.int (nI (cntN (bsB A c o) (aN A))))) (gRC A) := sq_two G M (sp_X6_bases G M hO.1 hO.2 hC _ _) hO.1 hc ho rfl
theorem sq_basesS (G : gG) (M : gMem) {A : gSt0} (hO : gOk A) (hC : gRC A M) {c o : Nat} (hc : c < aN A) (ho : o < aN A) : SpS G mX6_bases (gRm 3 2) [.ref (gb G + 0), .int (nI o), .int (nI c)] M (some (.int (nI (cntN (bsB A c o) (aN A))))) (gRC A) := sq_two G M (sp_X6_bases G M hO.1 hO.2 hC _ _) hO.1 ho hc (by show nI (cntN (bsB A o c) (aN A)) = _; rw [bs_sym])
theorem sq_anc (G : gG) (M : gMem) {A : gSt0} (hO : gOk A) (hC : gRC A M) {c o : Nat} (hc : c < aN A) (ho : o < aN A) {b : Bool} (hb : anc (aF A) (aS A) o c = b) : SpS G mX6_isAncestor (gRm 3 2) [.ref (gb G + 0), .int (nI c), .int (nI o)] M (some (.int (bI b))) (gRC A) := sq_two G M (sp_X6_isAncestor G M hO.1 hO.2 hC _ _) hO.1 hc ho (by show bI (anc (aF A) (aS A) o c) = _; rw [hb])
theorem sq_ancW (G : gG) (M : gMem) {A : gSt0} (hO : gOk A) (hC : gRC A M) {c o : Nat} (hc : c < aN A) (ho : o < aN A) {b : Bool} (hb : anc (aF A) (aS A) o c = b) : SpS G mX6_isAncestorByWalking (gRm 4 2) [.ref (gb G + 0), .int (nI c), .int (nI o)] M (some (.int (bI b))) (gRC A) := sq_two G M (sp_X6_isAncestorByWalking G M hO.1 hO.2 hC _ _) hO.1 hc ho (by show bI (anc (aF A) (aS A) o c) = _; rw [hb])
theorem sq_conf (G : gG) (M : gMem) {A : gSt0} (hO : gOk A) (hC : gRC A M) {c o : Nat} (hc : c < aN A) (ho : o < aN A) {m : Nat} (hm : mgA A c o = m) : SpS G mX6_conflicts (gRm 5 2) [.ref (gb G + 0), .int (nI c), .int (nI o)] M (some (.int (nI m))) (gRC A) := sq_two G M (sp_X6_conflicts G M hO.1 hO.2 hC _ _) hO.1 hc ho (by show nI (mgA A c o) = _; rw [hm])
theorem sq_gen (G : gG) (M : gMem) {A : gSt0} (hO : gOk A) (hC : gRC A M) {c : Nat} (hc : c < aN A) : SpS G mX6_generation (gRm 2 1) [.ref (gb G + 0), .int (nI c)] M (some (.int (nI (gn (aF A) (aS A) c)))) (gRC A) := by
  have h := sp_X6_generation G M hO.1 hO.2 hC (nI c)
  have e : oGeneration A (nI c) = (0, nI (gn (aF A) (aS A) c), A) := by
    have h60 := hO.1.1.2
    unfold oGeneration
    rw [inB_nI (by omega) hc]
  rw [e] at h
  exact post_S h rfl
/-! the sum that the law makes of all answers -/
def sm0 (A : gSt0) : Int64 := (((nI (aN A)).toInt64 + 31 * (nI (aC A)).toInt64) + 961 * (nI (chgA A)).toInt64 + 7 * (nI (aP A).1).toInt64) + 11 * lI (sumN (aP A).2.2.1 (aP A).1)
def smP (A : gSt0) (c : Nat) (s : Int64) : Nat → Int64
  | 0 => s
  | p + 1 => 31 * smP A c s p + (wI (oContentIn A (nI c) (nI p))).toInt64
def smT (A : gSt0) (c : Nat) (s : Int64) : Int64 := 31 * s + (wI (oParentOf A (nI c) (nI 0))).toInt64 + 3 * (wI (oParentOf A (nI c) (nI 1))).toInt64
def smC (A : gSt0) : Nat → Int64
  | 0 => sm0 A
  | c + 1 => smP A c (smT A c (smC A c)) 8
def smW (A : gSt0) : Nat → Int64
  | 0 => smC A (aN A)
  | p + 1 => 31 * smW A p + (wI (oContent A (nI p))).toInt64 + 5 * (wI (oLastChange A (nI p))).toInt64 + 7 * (wI (oHead A (nI (p % 6)))).toInt64
def sumA (A : gSt0) : Int64 := smW A 8
theorem st_content (A : gSt0) (x : Int32) : (oContent A x).2.2 = A := by unfold oContent; (repeat' split) <;> rfl
theorem st_head (A : gSt0) (x : Int32) : (oHead A x).2.2 = A := by unfold oHead; (repeat' split) <;> rfl
theorem st_contentIn (A : gSt0) (x y : Int32) : (oContentIn A x y).2.2 = A := by unfold oContentIn; (repeat' split) <;> rfl
theorem st_parentOf (A : gSt0) (x y : Int32) : (oParentOf A x y).2.2 = A := by unfold oParentOf; (repeat' split) <;> rfl
theorem st_movedTo (A : gSt0) (x y z : Int32) : (oMovedTo A x y z).2.2 = A := by unfold oMovedTo; (repeat' split) <;> rfl
theorem st_lastChange (A : gSt0) (x : Int32) : (oLastChange A x).2.2 = A := by unfold oLastChange; (repeat' split) <;> rfl
theorem st_depthOf (A : gSt0) (x : Int32) : (oDepthOf A x).2.2 = A := by unfold oDepthOf; (repeat' split) <;> rfl
theorem st_packedFrom (A : gSt0) (x : Int32) : (oPackedFrom A x).2.2 = A := by unfold oPackedFrom; (repeat' split) <;> rfl
theorem rc_eq {A B : gSt0} {M : gMem} (h : gRC B M) (e : B = A) : gRC A M := e ▸ h
theorem lg_eq {x y : Int64} (h : x = y) : lg_cmp x y = 0 := by
  subst h
  unfold lg_cmp
  rw [if_neg (show ¬ x > x from Int64.lt_irrefl), if_pos rfl]
/-! what refuses -/
theorem r_write1 (A : gSt0) : oWrite A (nI 8) (-1) = (1, 0, A) := by
  unfold oWrite
  rw [show inB (nI 8) 8 = none by decide]
theorem r_write2 (A : gSt0) : oWrite A (nI 7) (nI 10000) = (2, 0, A) := by
  unfold oWrite
  rw [show inB (nI 7) 8 = some 7 by decide]
  show (match inB (nI 10000) 10000 with
    | none => ((2, 0, A) : gRes)
    | some c => (0, oI (aW A 7), setW A (uO (aW A) 7 (some c)))) = _
  rw [show inB (nI 10000) 10000 = none by decide]
theorem r_erase (A : gSt0) : oErase A (-1) = (1, 0, A) := by
  unfold oErase
  rw [show inB (-1) 8 = none by decide]
theorem r_move (A : gSt0) : oMove A (nI 0) (nI 8) = (1, 0, A) := by
  unfold oMove
  rw [show inB (nI 0) 8 = some 0 by decide, show inB (nI 8) 8 = none by decide]
theorem r_content (A : gSt0) : oContent A (nI 8) = (1, 0, A) := by
  unfold oContent
  rw [show inB (nI 8) 8 = none by decide]
theorem r_branch1 (A : gSt0) : oBranch A (nI 5) = (1, 0, A) := by
  unfold oBranch
  rw [show inB (nI 5) 5 = none by decide]
theorem r_branch2 {A : gSt0} (h : (aH A 0).isSome = true) : oBranch A (nI 0) = (2, 0, A) := by
  unfold oBranch
  rw [show inB (nI 0) 5 = some 0 by decide]
  show (match aH A 0 with
    | some _ => ((2, 0, A) : gRes)
    | none => _) = _
  cases e : aH A 0 with
  | none => rw [e] at h; cases h
  | some v => rfl
theorem r_check (A : gSt0) : oCheckOut A (-1) = (1, 0, A) := by
  unfold oCheckOut
  rw [show inB (-1) 5 = none by decide]
theorem in_self {n : Nat} (h : n < 2 ^ 31) : inB (nI n) n = none := by
  unfold inB
  rw [if_neg (nI_pos h), if_neg (fun q => absurd ((nI_ltI h h).mp q) (Nat.lt_irrefl _))]
theorem r_reset {A : gSt0} (hA : gAi A) : oReset A (nI (aN A)) = (1, 0, A) := by
  unfold oReset
  rw [in_self (lt_60 hA.1.2 (Nat.le_refl _))]
theorem r_merge1 (A : gSt0) : oMerge A (nI 5) = (1, 0, A) := by
  unfold oMerge
  rw [show inB (nI 5) 5 = none by decide]
theorem r_put1 (A : gSt0) : oPutOnto A (-1) = (1, 0, A) := by
  unfold oPutOnto
  rw [show inB (-1) 5 = none by decide]
theorem r_head (A : gSt0) : oHead A (nI 5) = (1, 0, A) := by
  unfold oHead
  rw [show inB (nI 5) 5 = none by decide]
theorem r_had1 {A : gSt0} (hA : gAi A) : oContentIn A (nI (aN A)) (nI 0) = (1, 0, A) := by
  unfold oContentIn
  rw [in_self (lt_60 hA.1.2 (Nat.le_refl _))]
theorem in_0 {A : gSt0} (hA : gAi A) : inB (nI 0) (aN A) = some 0 := inB_nI (lt_60 hA.1.2 (Nat.le_refl _)) (Nat.lt_of_lt_of_le Nat.zero_lt_one hA.1.1)
theorem r_had2 {A : gSt0} (hA : gAi A) (h : aT A 0 0 = none) : oContentIn A (nI 0) (nI 0) = (2, 0, A) := by
  unfold oContentIn
  rw [in_0 hA]
  show (match inB (nI 0) 8 with
    | none => ((1, 0, A) : gRes)
    | some p => match aT A 0 p with
      | none => (2, 0, A)
      | some x => (0, nI x, A)) = _
  rw [show inB (nI 0) 8 = some 0 by decide]
  show (match aT A 0 0 with
      | none => ((2, 0, A) : gRes)
      | some x => (0, nI x, A)) = _
  rw [h]
theorem r_parent1 {A : gSt0} (hA : gAi A) : oParentOf A (nI 0) (nI 2) = (1, 0, A) := by
  unfold oParentOf
  rw [in_0 hA, show inB (nI 2) 2 = none by decide]
theorem r_parent2 {A : gSt0} (hA : gAi A) : oParentOf A (nI 0) (nI 0) = (2, 0, A) := by
  unfold oParentOf
  rw [in_0 hA]
  show (match inB (nI 0) 2 with
    | none => ((1, 0, A) : gRes)
    | some d => match parO A 0 d with
      | none => (2, 0, A)
      | some x => (0, nI x, A)) = _
  rw [show inB (nI 0) 2 = some 0 by decide]
  show (match aF A 0 with
      | none => ((2, 0, A) : gRes)
      | some x => (0, nI x, A)) = _
  rw [(ai_0 hA).1]
theorem r_moved1 {A : gSt0} (hA : gAi A) : oMovedTo A (nI 0) (nI 0) (nI 8) = (1, 0, A) := by
  unfold oMovedTo
  rw [in_0 hA, show inB (nI 8) 8 = none by decide]
theorem r_moved2 {A : gSt0} (hA : gAi A) : oMovedTo A (nI 0) (nI 0) (nI 0) = (2, 0, A) := by
  unfold oMovedTo
  rw [in_0 hA]
  show (match inB (nI 0) 8 with
    | none => ((1, 0, A) : gRes)
    | some p => match moves (aT A 0) (aT A 0) p with
      | none => (2, 0, A)
      | some q => (0, nI q, A)) = _
  rw [show inB (nI 0) 8 = some 0 by decide]
  show (match moves (aT A 0) (aT A 0) 0 with
      | none => ((2, 0, A) : gRes)
      | some q => (0, nI q, A)) = _
  rw [mv_self _ (by decide)]
theorem r_last (A : gSt0) : oLastChange A (nI 8) = (1, 0, A) := by
  unfold oLastChange
  rw [show inB (nI 8) 8 = none by decide]
theorem pf_none {A : gSt0} (hA : gAi A) {v : Int32} (h : ∀ c, c < 10000 → nI c ≠ v) : pkF (aP A) v = none := first_none.mpr (fun i hi => decide_eq_false (h _ ((pk_lim hA).1 i hi).1))
theorem r_depth {A : gSt0} (hA : gAi A) : oDepthOf A (-1) = (1, 0, A) := by
  unfold oDepthOf
  rw [pf_none hA (fun c hc => ne_m1 (by omega))]
theorem r_from {A : gSt0} (hA : gAi A) : oPackedFrom A (nI 10000) = (1, 0, A) := by
  unfold oPackedFrom
  rw [pf_none hA (fun c hc e => by
    have := (nI_eq (by omega) (by decide)).mp e
    omega)]
theorem r_merge3 {A : gSt0} (hO : gOk A) : oMerge A (nI (aC A)) = (3, 0, A) := by
  unfold oMerge
  rw [inB_nI (by decide) hO.2.1]
  show (match aH A (aC A) with | none => ((2, 0, A) : gRes) | some t => if chgA A = 0 then (match anc (aF A) (aS A) (aHd A) t, anc (aF A) (aS A) t (aHd A) with
      | true, _ => (3, 0, A)
      | false, true => (0, nI t, takeA A t)
      | false, false => match rmO A (aHd A) t with
        | none => (4, 0, A)
        | some c => (0, nI c, takeA (rmA A (aHd A) t) c)) else (3, 0, A)) = _
  rw [(ab_hd hO.2).1]
  show (if chgA A = 0 then (match anc (aF A) (aS A) (aHd A) (aHd A), anc (aF A) (aS A) (aHd A) (aHd A) with
      | true, _ => ((3, 0, A) : gRes)
      | false, true => (0, nI (aHd A), takeA A (aHd A))
      | false, false => match rmO A (aHd A) (aHd A) with
        | none => (4, 0, A)
        | some c => (0, nI c, takeA (rmA A (aHd A) (aHd A)) c)) else (3, 0, A)) = _
  rw [anc_refl hO.1.2.1]
  split <;> rfl
theorem r_put3 {A : gSt0} (hO : gOk A) : oPutOnto A (nI (aC A)) = (3, 0, A) := by
  unfold oPutOnto
  rw [inB_nI (by decide) hO.2.1]
  show (match aH A (aC A) with | none => ((2, 0, A) : gRes) | some t => if chgA A = 0 then (match anc (aF A) (aS A) t (aHd A) with
      | true => (3, 0, A)
      | false => match (poR A t).1 with
        | none => (4, 0, A)
        | some l => (0, nI (chL A t (aHd A)), takeA (poR A t).2 l)) else (3, 0, A)) = _
  rw [(ab_hd hO.2).1]
  show (if chgA A = 0 then (match anc (aF A) (aS A) (aHd A) (aHd A) with
      | true => ((3, 0, A) : gRes)
      | false => match (poR A (aHd A)).1 with
        | none => (4, 0, A)
        | some l => (0, nI (chL A (aHd A) (aHd A)), takeA (poR A (aHd A)).2 l)) else (3, 0, A)) = _
  rw [anc_refl hO.1.2.1]
  split <;> rfl
theorem r_headC {A : gSt0} (hO : gOk A) : oHead A (nI (aC A)) = (0, nI (aHd A), A) := by
  unfold oHead
  rw [inB_nI (by decide) hO.2.1]
  show (match aH A (aC A) with
    | none => ((2, 0, A) : gRes)
    | some h => (0, nI h, A)) = _
  rw [(ab_hd hO.2).1]
