/-! contracts with two kinds of ends -/
abbrev gEnd : Type := Option Value ⊕ String
def Oc (G : gG) (Ψ : gEnd → gMem → Prop) : gF := fun r N σ => N = 156 ∧ ∃ M', Ψ r M' ∧ σ = mkW G M'
abbrev SpO (G : gG) (μ : gM) (rm : Room) (av : List Value) (M : gMem) (Ψ : gEnd → gMem → Prop) : Prop := Sp G μ rm false 156 av (mkW G M) (Oc G Ψ)
section QO
variable {G : gG} {X : gX} {own : String} {cc : ByteArray} {nL : Nat} {R : Room} {k n pc : Nat} {lv : List (Option Value)} {st : List Value} {M : gMem} {μ : gM} {rm : Room} {Ψ : gEnd → gMem → Prop}
theorem q_callVO (C : gC G X own cc nL R) (CM : gCM G X μ rm false (Oc G Ψ)) (hh : μ.2.2.2.2 = []) {μ1 : gM} {rm1 : Room} {As : List Value} {i ci F na idx : Nat} {T : u_T} {Ψ1 : gEnd → gMem → Prop} {stk : List Value} (hM : SpO G μ1 rm1 (.ref (gb G + i) :: As) M Ψ1) (hV : gV μ1 na ci T F) (hlk : Cond.methodLink own idx μ1.1 ∈ gw)
    (hk : gKd i = (6, ci)) (hi : i < 156) (hn : As.length = na) (hstk : stk = As.reverse ++ .ref (gb G + i) :: st) (hcat : (st.map fun v => v.category).sum ≤ 8) (hR : (rm1.frames + 1 ≤ R.frames ∧ 8 + (μ1.2.2.1 + 11) + rm1.locals ≤ R.locals) ∧ k + rm1.cells ≤ R.cells ∧ n + rm1.slots ≤ R.slots) (hk2 : k + rm1.cells ≤ rm.cells) (hn2 : n + rm1.slots ≤ rm.slots) (d : decode cc pc = .ok (.invokevirtual idx, 3))
    (kk : ∀ v M', Ψ1 (.inl v) M' → Q G X (k + rm1.cells) (n + rm1.slots) (pc + 3) lv (v.toList ++ st) M') (kx : ∀ E M', Ψ1 (.inr E) M' → Ψ (.inr E) M') : Q G X k n pc lv stk M := by
  refine j_callV C hM hV.1 hV.2.1 hV.2.2.1 hV.2.2.2.1 hlk (mk6 G M hk) hi hV.2.2.2.2 hn hstk hcat hR d (fun v' N' σ' h => ?_) (fun E' N' σ' h => ?_)
  · obtain ⟨rfl, M', h1, rfl⟩ := h
    exact kk _ _ h1
  · obtain ⟨rfl, M', h1, rfl⟩ := h
    exact j_out C CM hh hk2 hn2 ⟨rfl, M', kx _ _ h1, rfl⟩
theorem q_callSO (C : gC G X own cc nL R) (CM : gCM G X μ rm false (Oc G Ψ)) (hh : μ.2.2.2.2 = []) {μ1 : gM} {rm1 : Room} {As : List Value} {na idx : Nat} {Ψ1 : gEnd → gMem → Prop} {stk : List Value} (hM : SpO G μ1 rm1 As M Ψ1) (hV : gSt μ1 na) (hlk : Cond.methodLink own idx μ1.1 ∈ gw)
    (hn : As.length = na) (hstk : stk = As.reverse ++ st) (hcat : (st.map fun v => v.category).sum ≤ 8) (hR : (rm1.frames + 1 ≤ R.frames ∧ 8 + (μ1.2.2.1 + 11) + rm1.locals ≤ R.locals) ∧ k + rm1.cells ≤ R.cells ∧ n + rm1.slots ≤ R.slots) (hk2 : k + rm1.cells ≤ rm.cells) (hn2 : n + rm1.slots ≤ rm.slots) (d : decode cc pc = .ok (.invokestatic idx, 3))
    (kk : ∀ v M', Ψ1 (.inl v) M' → Q G X (k + rm1.cells) (n + rm1.slots) (pc + 3) lv (v.toList ++ st) M') (kx : ∀ E M', Ψ1 (.inr E) M' → Ψ (.inr E) M') : Q G X k n pc lv stk M := by
  refine j_callS C hM hV.1 hV.2.1 hV.2.2 hlk hn hstk hcat hR d (fun v' N' σ' h => ?_) (fun E' N' σ' h => ?_)
  · obtain ⟨rfl, M', h1, rfl⟩ := h
    exact kk _ _ h1
  · obtain ⟨rfl, M', h1, rfl⟩ := h
    exact j_out C CM hh hk2 hn2 ⟨rfl, M', kx _ _ h1, rfl⟩
theorem q_iretO (C : gC G X own cc nL R) {v : Int32} (CM : gCM G X μ rm false (Oc G Ψ)) (hret : μ.2.2.2.1 = some .int) (hk : k ≤ rm.cells) (hn : n ≤ rm.slots) (d : decode cc pc = .ok (.ireturn, 1)) (hM : Ψ (.inl (some (.int v))) M) : Q G X k n pc lv [.int v] M :=
  j_iret C CM hret hk hn d ⟨rfl, M, hM, rfl⟩
theorem q_zretO (C : gC G X own cc nL R) {b : Bool} (CM : gCM G X μ rm false (Oc G Ψ)) (hret : μ.2.2.2.1 = some .boolean) (hk : k ≤ rm.cells) (hn : n ≤ rm.slots) (d : decode cc pc = .ok (.ireturn, 1)) (hM : Ψ (.inl (some (.int (bI b)))) M) : Q G X k n pc lv [.int (bI b)] M :=
  j_zret C CM hret (bI_nar b) hk hn d ⟨rfl, M, hM, rfl⟩
theorem q_vretO (C : gC G X own cc nL R) (CM : gCM G X μ rm false (Oc G Ψ)) (hret : μ.2.2.2.1 = none) (hk : k ≤ rm.cells) (hn : n ≤ rm.slots) (d : decode cc pc = .ok (.return_, 1)) (hM : Ψ (.inl none) M) : Q G X k n pc lv [] M :=
  j_vret C CM hret hk hn d ⟨rfl, M, hM, rfl⟩
theorem q_lretO (C : gC G X own cc nL R) {v : Int64} (CM : gCM G X μ rm false (Oc G Ψ)) (hret : μ.2.2.2.1 = some .long) (hk : k ≤ rm.cells) (hn : n ≤ rm.slots) (d : decode cc pc = .ok (.lreturn, 1)) (hM : Ψ (.inl (some (.long v))) M) : Q G X k n pc lv [.long v] M :=
  j_lret C CM hret hk hn d ⟨rfl, M, hM, rfl⟩
theorem q_fretO (C : gC G X own cc nL R) {v : UInt32} (CM : gCM G X μ rm false (Oc G Ψ)) (hret : μ.2.2.2.1 = some .float) (hk : k ≤ rm.cells) (hn : n ≤ rm.slots) (d : decode cc pc = .ok (.freturn, 1)) (hM : Ψ (.inl (some (.float v))) M) : Q G X k n pc lv [.float v] M :=
  j_fret C CM hret hk hn d ⟨rfl, M, hM, rfl⟩
end QO
/-! arguments -/
theorem nI_back {v : Int32} (h : ¬ v < 0) : nI v.toNatClampNeg = v ∧ v.toNatClampNeg < 2 ^ 31 := by
  have h0 : 0 ≤ v.toInt := by
    have := mt Int32.lt_iff_toInt_lt.mpr h
    rw [Int32.toInt_zero] at this
    omega
  have h1 : v.toInt < 2 ^ 31 := Int32.toInt_lt v
  have h2 : v.toNatClampNeg < 2 ^ 31 := by
    show v.toInt.toNat < 2 ^ 31
    omega
  refine ⟨Int32.toInt_inj.mp ?_, h2⟩
  rw [nI_toInt h2]
  show ((v.toInt.toNat : Nat) : Int) = v.toInt
  omega
/-- v, if it is one of 0 to n - 1 -/
def inB (v : Int32) (n : Nat) : Option Nat := if v < 0 then none else if v < nI n then some v.toNatClampNeg else none
theorem inB_some {v : Int32} {n k : Nat} (hn : n < 2 ^ 31) (h : inB v n = some k) : v = nI k ∧ k < n := by
  unfold inB at h
  split at h
  · cases h
  · next h0 =>
    split at h
    · next h1 =>
      cases h
      have e : v = nI v.toNatClampNeg := (nI_back h0).1.symm
      refine ⟨e, ?_⟩
      rw [e] at h1
      exact (nI_ltI (nI_back h0).2 hn).mp h1
    · cases h
theorem inB_nI {n k : Nat} (hn : n < 2 ^ 31) (hk : k < n) : inB (nI k) n = some k := by
  unfold inB
  rw [if_neg (nI_pos (by omega)), if_pos ((nI_ltI (by omega) hn).mpr hk), nI_clamp (by omega)]
theorem inB_neg {v : Int32} {n : Nat} (h : v < 0) : inB v n = none := if_pos h
theorem inB_big {v : Int32} {n : Nat} (h0 : ¬ v < 0) (h : ¬ v < nI n) : inB v n = none := by
  unfold inB
  rw [if_neg h0, if_neg h]
theorem inB_lt {v : Int32} {n : Nat} (hn : n < 2 ^ 31) (h0 : ¬ v < 0) (h : v < nI n) : ∃ k, inB v n = some k ∧ v = nI k ∧ k < n := by
  have e : inB v n = some v.toNatClampNeg := by unfold inB; rw [if_neg h0, if_pos h]
  exact ⟨_, e, inB_some hn e⟩
/-- of a call that asks for something: it is there, or E is thrown; nothing changes -/
def gAsk (M : gMem) (o : Option Nat) (v : Nat → Option Value) (E : String) : gEnd → gMem → Prop := fun r M' => M' = M ∧ ((∃ k, o = some k ∧ r = .inl (v k)) ∨ (o = none ∧ r = .inr E))
theorem ask_v {M M' : gMem} {o : Option Nat} {v : Nat → Option Value} {E : String} {w : Option Value} (h : gAsk M o v E (.inl w) M') : M = M' ∧ ∃ k, o = some k ∧ w = v k := by
  obtain ⟨h1, ⟨k, h2, h3⟩ | ⟨h2, h3⟩⟩ := h
  · exact ⟨h1.symm, k, h2, Sum.inl.inj h3⟩
  · cases h3
theorem ask_x {M M' : gMem} {o : Option Nat} {v : Nat → Option Value} {E E' : String} (h : gAsk M o v E (.inr E') M') : M = M' ∧ o = none ∧ E' = E := by
  obtain ⟨h1, ⟨k, h2, h3⟩ | ⟨h2, h3⟩⟩ := h
  · cases h3
  · exact ⟨h1.symm, h2, Sum.inr.inj h3⟩
theorem ask_ok (M : gMem) {o : Option Nat} {v : Nat → Option Value} {E : String} {k : Nat} (h : o = some k) : gAsk M o v E (.inl (v k)) M := ⟨rfl, Or.inl ⟨k, h, rfl⟩⟩
theorem ask_no (M : gMem) {o : Option Nat} {v : Nat → Option Value} {E : String} (h : o = none) : gAsk M o v E (.inr E) M := ⟨rfl, Or.inr ⟨h, rfl⟩⟩
theorem ge_nlt {a b : Int32} (h : b ≤ a) : ¬ a < b := Int32.not_lt.mpr h
theorem nge_lt {a b : Int32} (h : ¬ b ≤ a) : a < b := Int32.not_le.mp h
set_option maxHeartbeats 4000000 in
set_option maxRecDepth 100000 in
theorem sp_X6_requirePath (G : gG) (M : gMem) (v : Int32) : SpO G mX6_requirePath (gRm 0 1) [.int v] M (gAsk M (inB v 8) (fun _ => none) "java/lang/IndexOutOfBoundsException") := by
  refine Sp.of (by decide +kernel) (Nat.le_of_ble_eq_true rfl) (fun X C CM => ?_)
  have C : gC G X RX6 cX6_requirePath 1 (gRm 0 1) := C
  refine j_iload_n C dX6_requirePath_0 rfl ?_
  refine j_if_lt C 10 dX6_requirePath_1 (fun h1 => ?_) (fun h1 => ?_) (by decide)
  · exact j_throw (text := "there is no such path") C CM rfl (by decide +kernel) (by decide +kernel) lc_X6_106 z_IndexOutOfBoundsException (by decide) xg_IOOB xn_IOOB (by decide) (xo_IOOB 106) dX6_requirePath_10 dX6_requirePath_13 dX6_requirePath_14 dX6_requirePath_16 dX6_requirePath_19 (by decide) (by decide) (by decide) (by decide) (by decide) (by decide) ⟨rfl, M, ask_no M (by first | exact inB_neg h1 | exact inB_big h1 h7), rfl⟩
  · refine j_iload_n C dX6_requirePath_4 rfl ?_
    refine j_bipush C (v := nI 8) dX6_requirePath_5 rfl ?_
    refine j_icmp_lt C 20 dX6_requirePath_7 (fun h7 => ?_) (fun h7 => ?_) (by decide)
    · exact q_vretO C CM rfl (by decide) (by decide) dX6_requirePath_20 (by obtain ⟨k, e, -, -⟩ := inB_lt (n := 8) (by decide) h1 h7; exact ask_ok M e)
    · exact j_throw (text := "there is no such path") C CM rfl (by decide +kernel) (by decide +kernel) lc_X6_106 z_IndexOutOfBoundsException (by decide) xg_IOOB xn_IOOB (by decide) (xo_IOOB 106) dX6_requirePath_10 dX6_requirePath_13 dX6_requirePath_14 dX6_requirePath_16 dX6_requirePath_19 (by decide) (by decide) (by decide) (by decide) (by decide) (by decide) ⟨rfl, M, ask_no M (by first | exact inB_neg h1 | exact inB_big h1 h7), rfl⟩
set_option maxHeartbeats 4000000 in
set_option maxRecDepth 100000 in
theorem sp_X6_isBranchNumber (G : gG) (M : gMem) (v : Int32) : SpR G mX6_isBranchNumber (gRm 0 0) [.int v] M (some (.int (bI (inB v 5).isSome))) M := by
  refine Sp.of (by decide +kernel) (Nat.le_of_ble_eq_true rfl) (fun X C CM => ?_)
  have C : gC G X RX6 cX6_isBranchNumber 1 (gRm 0 0) := C
  refine j_iload_n C dX6_isBranchNumber_0 rfl ?_
  refine j_if_lt C 13 dX6_isBranchNumber_1 (fun h1 => ?_) (fun h1 => ?_) (by decide)
  · refine j_iconst C (v := nI 0) dX6_isBranchNumber_13 rfl ?_
    exact q_zret C CM rfl (by decide) (by decide) dX6_isBranchNumber_14 (by first | (rw [inB_neg h1]; rfl) | (rw [inB_big h1 (fun q => absurd q (ge_nlt h6))]; rfl) | (obtain ⟨k, e, -, -⟩ := inB_lt (n := 5) (by decide) h1 (nge_lt h6); rw [e]; rfl)) rfl
  · refine j_iload_n C dX6_isBranchNumber_4 rfl ?_
    refine j_iconst C (v := nI 5) dX6_isBranchNumber_5 rfl ?_
    refine j_icmp_ge C 13 dX6_isBranchNumber_6 (fun h6 => ?_) (fun h6 => ?_) (by decide)
    · refine j_iconst C (v := nI 0) dX6_isBranchNumber_13 rfl ?_
      exact q_zret C CM rfl (by decide) (by decide) dX6_isBranchNumber_14 (by first | (rw [inB_neg h1]; rfl) | (rw [inB_big h1 (fun q => absurd q (ge_nlt h6))]; rfl) | (obtain ⟨k, e, -, -⟩ := inB_lt (n := 5) (by decide) h1 (nge_lt h6); rw [e]; rfl)) rfl
    · refine j_iconst C (v := nI 1) dX6_isBranchNumber_9 rfl ?_
      refine j_goto C 14 dX6_isBranchNumber_10 ?_ (by decide)
      exact q_zret C CM rfl (by decide) (by decide) dX6_isBranchNumber_14 (by first | (rw [inB_neg h1]; rfl) | (rw [inB_big h1 (fun q => absurd q (ge_nlt h6))]; rfl) | (obtain ⟨k, e, -, -⟩ := inB_lt (n := 5) (by decide) h1 (nge_lt h6); rw [e]; rfl)) rfl
set_option maxHeartbeats 4000000 in
set_option maxRecDepth 100000 in
theorem sp_X6_requireFile (G : gG) (M : gMem) {t p : Nat} {T : Nat → Option Nat} (hT : gTr t) (hR : gRo M (t + 1) T) (hn : gTn T) (hp : p < 8) : SpO G mX6_requireFile (gRm 1 1) [.ref (gb G + t), .int (nI p)] M (gAsk M (T p) (fun c => some (.int (nI c))) "java/util/NoSuchElementException") := by
  refine Sp.of (by decide +kernel) (Nat.le_of_ble_eq_true rfl) (fun X C CM => ?_)
  have C : gC G X RX6 cX6_requireFile 3 (gRm 1 1) := C
  refine j_aload_n C dX6_requireFile_0 rfl ?_
  refine j_iload_n C dX6_requireFile_1 rfl ?_
  refine q_callV C (sp_X4_at G M hT hp) vX4_at lk_X6_59 (hT).1 (gTr_lt (hT)) rfl rfl (Nat.le_of_ble_eq_true rfl) (by decide) dX6_requireFile_2 ?_
  rw [hR p hp]
  refine j_istore_n C dX6_requireFile_5 (by decide) rfl ?_
  refine j_iload_n C dX6_requireFile_6 rfl ?_
  refine j_iconst C (v := -1) dX6_requireFile_7 rfl ?_
  refine q_icmp_neN C 21 dX6_requireFile_8 (by decide) (nI_lt8 hn hp) (fun v8 h8 => ?_) (fun h8 => ?_)
  · refine j_iload_n C dX6_requireFile_21 rfl ?_
    rw [h8]
    exact q_iretO C CM rfl (by decide) (by decide) dX6_requireFile_22 (ask_ok (v := fun c => some (.int (nI c))) M h8)
  · exact j_throwX xr_0 xr_1 xr_2 xr_5 (text := "there is no such file") C CM rfl (by decide +kernel) (by decide +kernel) lc_X6_163 z_NoSuchElementException (by decide) xg_NSE xn_NSE (by decide) (xo_NSE 163) dX6_requireFile_11 dX6_requireFile_14 dX6_requireFile_15 dX6_requireFile_17 dX6_requireFile_20 (by decide) (by decide) (by decide) (by decide) (by decide) (by decide) ⟨rfl, M, ask_no M h8, rfl⟩
