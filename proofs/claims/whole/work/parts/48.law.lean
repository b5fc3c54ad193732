/-! floats that are compared -/
theorem ok_dec64 {d : FP.Core.Datum} (hd : fOk FP.Core.b64 d) : FP.Core.decode FP.Core.b64 (UInt64.ofNat (FP.Core.encode FP.Core.b64 d)).toNat ≠ .nan := by
  obtain ⟨s, E, T, h1, h2, h3⟩ := f_enc (by decide) (by decide) (by decide) hd
  have h2 : T < 4503599627370496 := h2
  have h3 : E < 2047 ∨ (E = 2047 ∧ T = 0) := h3
  have hs : s.toNat ≤ 1 := by cases s <;> decide
  rw [h1, UInt64.toNat_ofNat']
  have e : FP.Core.assemble FP.Core.b64 s E T = (s.toNat * 2048 + E) * 4503599627370496 + T := rfl
  rw [e, Nat.mod_eq_of_lt (by omega)]
  unfold FP.Core.decode
  have eT : FP.Core.fieldT FP.Core.b64 ((s.toNat * 2048 + E) * 4503599627370496 + T) = T := by
    show ((s.toNat * 2048 + E) * 4503599627370496 + T) % 4503599627370496 = T
    omega
  have eE : FP.Core.fieldE FP.Core.b64 ((s.toNat * 2048 + E) * 4503599627370496 + T) = E := by
    show ((s.toNat * 2048 + E) * 4503599627370496 + T) / 4503599627370496 % 2048 = E
    omega
  rw [eT, eE]
  split
  · next hE =>
    have hE : E = 2047 := hE
    rcases h3 with h3 | h3
    · omega
    · rw [if_pos h3.2]
      exact fun q => by cases q
  · split
    · exact fun q => by cases q
    · exact fun q => by cases q
theorem ord_self {d : FP.Core.Datum} (h : d ≠ .nan) : FP.Core.order d d = some .eq := by
  cases d with
  | nan => exact absurd rfl h
  | inf s => exact congrArg some (by simp)
  | fin s c q => exact congrArg some (by simp)
theorem f_eqg (x y : UInt32) (hx : fFin (FP.Core.decode FP.Core.b32 x.toNat) = true) (hy : fPos (FP.Core.decode FP.Core.b32 y.toNat) = true) : Op.cmpValue (FP.dcmp (FP.f2d (FP.fdiv x y)) (FP.f2d (FP.fdiv x y))) .l = 0 := by
  have h := ok_dec (f_quot (f := FP.Core.b32) (by decide) (by decide) hx hy)
  have h2 := ok_dec64 (f_round (f := FP.Core.b64) (by decide) (by decide) h)
  have e : FP.dcmp (FP.f2d (FP.fdiv x y)) (FP.f2d (FP.fdiv x y)) = some .eq := by
    unfold FP.f2d FP.fdiv
    rw [if_neg (f_notnan (x := FP.Core.fdiv x y) h)]
    exact ord_self h2
  rw [e]
  rfl
theorem f_eq {a b : Nat} (ha : a < 1921) (hb : b < 1921) (h0 : 0 < b) : Op.cmpValue (FP.dcmp (FP.f2d (FP.fdiv (FP.i2f (nI a)) (FP.i2f (nI b)))) (FP.f2d (FP.fdiv (FP.i2f (nI a)) (FP.i2f (nI b))))) .l = 0 := by
  have ea := f_ints32 a ha
  have eb := f_ints32 b hb
  simp only [Bool.and_eq_true, Bool.or_eq_true, decide_eq_true_eq] at ea eb
  refine f_eqg _ _ ?_ ?_
  · show fFin (FP.Core.decode FP.Core.b32 (UInt32.ofNat (FP.Core.fromInt FP.Core.b32 (nI a).toInt)).toNat) = true
    rw [nI_toInt (by omega)]
    exact ea.1
  · show fPos (FP.Core.decode FP.Core.b32 (UInt32.ofNat (FP.Core.fromInt FP.Core.b32 (nI b).toInt)).toNat) = true
    rw [nI_toInt (by omega)]
    rcases eb.2 with e | e
    · omega
    · exact e
theorem sh_n64 {A : gSt0} (hA : gAi A) (h : 0 < (aP A).1) : vf_n64 (FP.f2d (shF A)) := f_f2d (sh_lim hA) (show 4 * (aP A).1 < 1921 by have := (pk_lim hA).2; omega) (by omega)
theorem sh_eq {A : gSt0} (hA : gAi A) (h : 0 < (aP A).1) : Op.cmpValue (FP.dcmp (FP.f2d (shF A)) (FP.f2d (shF A))) .l = 0 := f_eq (sh_lim hA) (show 4 * (aP A).1 < 1921 by have := (pk_lim hA).2; omega) (by omega)
set_option maxHeartbeats 4000000 in
set_option maxRecDepth 100000 in
theorem sp_L_packShare (G : gG) (M : gMem) {A : gSt0} (hA : gAi A) (hC : gRC A M) : SpS G mL_packShare (gRm 7 4) [.ref (gb G + 0), .ref (gb G + 238)] M (some (.int (nI (if (aP A).1 = 0 then 1 else 0)))) (fun M' => gRC A M' ∧ gCl0 M M' ∧ (0 < (aP A).1 → M'.2.2.2.2 0 = FP.f2d (shF A))) := by
  refine Sp.of (by decide +kernel) (Nat.le_of_ble_eq_true rfl) (fun X C CM => ?_)
  have C : gC G X RL cL_packShare 3 (gRm 7 4) := C
  refine j_aload_n C dL_packShare_0 rfl ?_
  refine j_iconst C (v := nI 0) dL_packShare_1 rfl ?_
  refine j_aload_n C dL_packShare_2 rfl ?_
  refine j_callV C (sp_X6_packShare G M hA hC) vX6_packShare.1 vX6_packShare.2.1 vX6_packShare.2.2.1 vX6_packShare.2.2.2.1 lk_L_96 (mk6 G M (o := 0) rfl) (by decide) vX6_packShare.2.2.2.2 rfl rfl (Nat.le_of_ble_eq_true rfl) ⟨⟨Nat.le_of_ble_eq_true rfl, Nat.le_of_ble_eq_true rfl⟩, Nat.le_of_ble_eq_true rfl, Nat.le_of_ble_eq_true rfl⟩ dL_packShare_3 (fun v N1 σ1 h => ?_) (fun E N1 σ1 h => ?_)
  · obtain ⟨rfl, M1, hp, rfl⟩ := h
    obtain ⟨rfl, hp⟩ := hp
    rcases hp with ⟨_, h5⟩ | ⟨h0, h5⟩
    · cases h5
    · cases h5
      refine j_f2d C dL_packShare_6 (sh_n64 hA h0) ?_
      refine q_dast C dL_packShare_7 ?_
      refine j_goto C 14 dL_packShare_8 ?_ (by decide)
      refine j_iconst C (v := nI 0) dL_packShare_14 rfl ?_
      exact q_iretS C CM rfl (Nat.le_of_ble_eq_true rfl) (Nat.le_of_ble_eq_true rfl) dL_packShare_15 (by rw [if_neg (by omega)]) ⟨rc_outD hC, cl0_outD (cls_refl M1), fun _ => rfl⟩
  · obtain ⟨rfl, M1, hp, rfl⟩ := h
    obtain ⟨rfl, hp⟩ := hp
    rcases hp with ⟨h0, h5⟩ | ⟨_, h5⟩
    · cases h5
      refine j_catch C CM [] ⟨0, 8, 11, 100⟩ [] rfl (fun z hz => absurd hz List.not_mem_nil) rfl (by decide) lc_L_100 (by decide +kernel) (fun q => ?_)
      show Q G X _ _ 11 _ _ _
      refine j_astore_n C dL_packShare_11 (by decide) rfl ?_
      refine j_iconst C (v := nI 1) dL_packShare_12 rfl ?_
      exact q_iretS C CM rfl (Nat.le_of_ble_eq_true rfl) (Nat.le_of_ble_eq_true rfl) dL_packShare_13 (by rw [if_pos h0]) ⟨hC, cl0_of (cls_refl M1), fun h => by omega⟩
    · cases h5
/-! the law's surroundings -/
def gLw (G : gG) (X : gX) (b L : Nat) (sx : Nat → Int32) : Prop := gC G X RL cL_law 10 room_1 ∧ va_X b L sx (xs X) (xs X).heap ∧ b < (xs X).heap.size ∧ b < gb G ∧ L ≤ 2048
abbrev gLv (G : gG) (b i : Nat) : List (Option Value) := [some (.ref b), some (.ref (gb G + 0)), some (.ref (gb G + 156)), some (.ref (gb G + 237)), some (.ref (gb G + 238)), some (.int (nI i)), none, none, none, none]
section LROWS
variable {G : gG} {X : gX} {own : String} {cc : ByteArray} {nL : Nat} {R : Room} {k n pc : Nat} {lv : List (Option Value)} {st : List Value} {M : gMem}
theorem j_sld {ex : Bool} {N : Nat} {σ : gE} (C : gC G X own cc nL R) {b L a : Nat} {sx : Nat → Int32} (hX : va_X b L sx (xs X) (xs X).heap) (hbl : b < (xs X).heap.size) (hbA : b < gb G) (hL : L ≤ 2048) (ha : a < L) (d : decode cc pc = .ok (.iaload, 1)) (kk : J G X ex N k n (pc + 1) lv (.int (sx a) :: st) σ) : J G X ex N k n pc lv (.int (nI a) :: .ref b :: st) σ := fun H locs ls hW hS hl =>
  va_sld C.1 C.2.1 hX hbl (Nat.not_le.mpr hbA) hS (vp_in_nI ha (by omega)) d (by rw [nI_clamp (by omega)]; exact kk H locs ls hW hS hl)
theorem j_slen {ex : Bool} {N : Nat} {σ : gE} (C : gC G X own cc nL R) {b L : Nat} {sx : Nat → Int32} (hX : va_X b L sx (xs X) (xs X).heap) (hbl : b < (xs X).heap.size) (hbA : b < gb G) (d : decode cc pc = .ok (.arraylength, 1)) (kk : J G X ex N k n (pc + 1) lv (.int (nI L) :: st) σ) : J G X ex N k n pc lv (.ref b :: st) σ := fun H locs ls hW hS hl =>
  va_slen C.1 C.2.1 hX hbl (Nat.not_le.mpr hbA) hS d (kk H locs ls hW hS hl)
theorem q_callHS (C : gC G X own cc nL R) {μ : gM} {rm : Room} {As : List Value} {na idx : Nat} {v : Option Value} {S : gMem → Prop} {stk : List Value} (hM : SpS G μ rm As M v S) (hc : gCd μ = .codeWith μ.1 μ.2.1 μ.2.2.1 μ.2.2.2.1 μ.2.2.2.2) (hK : gKn μ na) (hstat : Cond.static μ.1 ∈ gw) (hlk : Cond.methodLink own idx μ.1 ∈ gw)
    (hn : As.length = na) (hstk : stk = As.reverse ++ st) (hcat : (st.map fun v => v.category).sum ≤ 8) (hR : (rm.frames + 1 ≤ R.frames ∧ 8 + (μ.2.2.1 + 11) + rm.locals ≤ R.locals) ∧ k + rm.cells ≤ R.cells ∧ n + rm.slots ≤ R.slots) (d : decode cc pc = .ok (.invokestatic idx, 3))
    (kk : ∀ M', S M' → Q G X (k + rm.cells) (n + rm.slots) (pc + 3) lv (v.toList ++ st) M') : Q G X k n pc lv stk M := by
  refine j_callH C hM hc hK hstat hlk hn hstk hcat hR d (fun v' N' σ' h => ?_) (fun E N' σ' h => ?_)
  · obtain ⟨h1, rfl, M', hS, rfl⟩ := h
    cases h1
    exact kk M' hS
  · obtain ⟨h1, -, -⟩ := h
    cases h1
theorem q_dald (C : gC G X own cc nL R) (d : decode cc pc = .ok (.daload, 1)) (kk : Q G X k n (pc + 1) lv (.double (M.2.2.2.2 0) :: st) M) : Q G X k n pc lv (.int (nI 0) :: .ref (gb G + 238) :: st) M :=
  j_dald C (mk3 G M (o := 238) (m := 1) rfl) (by decide) (vp_in_nI (by decide) (by decide)) d (by rw [nI_clamp (by decide)]; exact kk)
end LROWS
theorem lg_eq {x y : Int64} (h : x = y) : lg_cmp x y = 0 := by
  subst h
  unfold lg_cmp
  rw [if_neg (show ¬ x > x from Int64.lt_irrefl), if_pos rfl]
theorem st_content (A : gSt0) (x : Int32) : (oContent A x).2.2 = A := by unfold oContent; (repeat' split) <;> rfl
theorem st_head (A : gSt0) (x : Int32) : (oHead A x).2.2 = A := by unfold oHead; (repeat' split) <;> rfl
theorem st_contentIn (A : gSt0) (x y : Int32) : (oContentIn A x y).2.2 = A := by unfold oContentIn; (repeat' split) <;> rfl
theorem st_parentOf (A : gSt0) (x y : Int32) : (oParentOf A x y).2.2 = A := by unfold oParentOf; (repeat' split) <;> rfl
theorem st_generation (A : gSt0) (x : Int32) : (oGeneration A x).2.2 = A := by unfold oGeneration; (repeat' split) <;> rfl
theorem st_two (A : gSt0) (f : Nat → Nat → Int32) (x y : Int32) : (oTwo A f x y).2.2 = A := by unfold oTwo; (repeat' split) <;> rfl
theorem st_movedTo (A : gSt0) (x y z : Int32) : (oMovedTo A x y z).2.2 = A := by unfold oMovedTo; (repeat' split) <;> rfl
theorem st_lastChange (A : gSt0) (x : Int32) : (oLastChange A x).2.2 = A := by unfold oLastChange; (repeat' split) <;> rfl
theorem st_depthOf (A : gSt0) (x : Int32) : (oDepthOf A x).2.2 = A := by unfold oDepthOf; (repeat' split) <;> rfl
theorem st_packedFrom (A : gSt0) (x : Int32) : (oPackedFrom A x).2.2 = A := by unfold oPackedFrom; (repeat' split) <;> rfl
theorem ok_same {A B : gSt0} (h : gOk A) (e : B = A) : gOk B := by rw [e]; exact h
