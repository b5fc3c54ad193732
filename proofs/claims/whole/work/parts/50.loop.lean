/-! the first state -/
def A00 : gSt0 := (1, fun _ => none, fun _ => none, fun _ _ => none, fun b => if b = 0 then some 0 else none, 0, fun _ => none)
theorem tn_none : gTn (fun _ => none) := fun _ _ _ h => by cases h
theorem ok_0 : gOk A00 := by
  refine ⟨⟨⟨Nat.le_refl 1, by decide⟩, ⟨fun c p h => (by cases h), fun c p h => (by cases h)⟩, fun c hc h0 => ?_, fun c => tn_none⟩, by decide, fun b h hb e => ?_, rfl, tn_none⟩
  · have : c < 1 := hc
    omega
  · have e : (if b = 0 then some 0 else none) = some h := e
    by_cases w : b = 0
    · rw [if_pos w] at e
      cases e
      exact Nat.zero_lt_one
    · rw [if_neg w] at e
      cases e
theorem pk_0 : pkN (aT A00) 0 = pkN (aT A00) 1 := rfl
theorem hd_A (b : Nat) (h : b < 5) : hdF 5 b = oI (aH A00 b) := by
  by_cases w : b = 0
  · subst w; rfl
  · show (if b = 0 then (0 : Int32) else ngF 5 b) = oI (if b = 0 then some 0 else none)
    rw [if_neg w, if_neg w, ng_lt h]
    rfl
theorem rc_0 : gRC A00 mM0 := by
  refine ⟨⟨rfl, fun c hc => ?_, fun c hc p hp => ?_⟩, ⟨fun b hb => hd_A b hb, rfl, fun p hp => ng_lt hp⟩, ⟨rfl, rfl, fun j hj => absurd hj (Nat.not_lt_zero _)⟩, 0, Nat.zero_le _, pk_0, rfl⟩
  · have hc : c < 1 := hc
    obtain rfl : c = 0 := by omega
    refine ⟨rfl, rfl, rfl, ?_⟩
    decide +kernel
  · have hc : c < 1 := hc
    obtain rfl : c = 0 := by omega
    exact ng_lt hp
theorem rm_0 : gRM A00 mM0 := by
  refine ⟨⟨rfl, fun c hc => ?_, fun c hc p hp => ?_⟩, ⟨fun b hb => hd_A b hb, rfl, fun p hp => ng_lt hp⟩, rfl⟩
  · have hc : c < 1 := hc
    obtain rfl : c = 0 := by omega
    exact ⟨rfl, rfl⟩
  · have hc : c < 1 := hc
    obtain rfl : c = 0 := by omega
    exact ng_lt hp
/-! the law's numbers -/
theorem ln_4 : ∀ L, L < 2049 → (nI L - nI 4).toInt = (L : Int) - 4 := by decide +kernel
theorem ln_le {a L : Nat} (ha : a < 2 ^ 31) (hL : L ≤ 2048) (h : ¬ nI L - nI 4 < nI a) : a + 4 ≤ L := by
  rw [Int32.lt_iff_toInt_lt, ln_4 L (by omega), nI_toInt ha] at h
  omega
theorem and_31 (x : Int32) : ∃ c, c < 32 ∧ x &&& nI 31 = nI c := by
  refine ⟨x.toBitVec.toNat % 32, Nat.mod_lt _ (by decide), ?_⟩
  apply Int32.toBitVec_inj.mp
  apply BitVec.eq_of_toNat_eq
  have e1 : (x &&& nI 31).toBitVec = x.toBitVec &&& (nI 31).toBitVec := Int32.toBitVec_and x (nI 31)
  have e2 : (nI 31).toBitVec.toNat = 2 ^ 5 - 1 := by decide
  rw [e1, BitVec.toNat_and, e2, Nat.and_two_pow_sub_one_eq_mod]
  show _ = (BitVec.ofNat 32 (x.toBitVec.toNat % 32)).toNat
  rw [BitVec.toNat_ofNat, Nat.mod_eq_of_lt (a := x.toBitVec.toNat % 32) (by omega)]
set_option maxHeartbeats 4000000 in
set_option maxRecDepth 100000 in
/-- one call by its number -/
theorem law_call {G : gG} {X : gX} {b L : Nat} {sx : Nat → Int32} (LW : gLw G X b L sx) {i k n : Nat} (hi : i + 4 ≤ L) (hk : k ≤ 3000) (hn : n ≤ 30000) {A : gSt0} {M : gMem} (hA : gOk A) (hC : gRC A M) (hR : gRM A M) (hnx : ∀ A' M', gOk A' → gRC A' M' → gRM A' M' → Q G X (k + 4) (n + 32) 1847 (gLv G b i) [] M') {c : Nat} (hc : c < 32) : Q G X k n 44 (gLv G b i) [.int (nI c)] M := by
  have C := LW.1
  have hcs : c = 0 ∨ c = 1 ∨ c = 2 ∨ c = 3 ∨ c = 4 ∨ c = 5 ∨ c = 6 ∨ c = 7 ∨ c = 8 ∨ c = 9 ∨ c = 10 ∨ c = 11 ∨ c = 12 ∨ c = 13 ∨ c = 14 ∨ c = 15 ∨ c = 16 ∨ c = 17 ∨ c = 18 ∨ c = 19 ∨ c = 20 ∨ c = 21 ∨ c = 22 ∨ c = 23 ∨ c = 24 ∨ c = 25 ∨ c = 26 ∨ c = 27 ∨ c = 28 ∨ c = 29 ∨ c = 30 ∨ c = 31 := by omega
  rcases hcs with rfl | rfl | rfl | rfl | rfl | rfl | rfl | rfl | rfl | rfl | rfl | rfl | rfl | rfl | rfl | rfl | rfl | rfl | rfl | rfl | rfl | rfl | rfl | rfl | rfl | rfl | rfl | rfl | rfl | rfl | rfl | rfl
  · exact j_tableIn C 184 dL_law_44 (by decide) (by decide) (off := 140) (by decide) (by decide) (lw_c0 LW hi hk hn hA hC hR hnx)
  · exact j_tableIn C 252 dL_law_44 (by decide) (by decide) (off := 208) (by decide) (by decide) (lw_c1 LW hi hk hn hA hC hR hnx)
  · exact j_tableIn C 308 dL_law_44 (by decide) (by decide) (off := 264) (by decide) (by decide) (lw_c2 LW hi hk hn hA hC hR hnx)
  · exact j_tableIn C 376 dL_law_44 (by decide) (by decide) (off := 332) (by decide) (by decide) (lw_c3 LW hi hk hn hA hC hR hnx)
  · exact j_tableIn C 432 dL_law_44 (by decide) (by decide) (off := 388) (by decide) (by decide) (lw_c4 LW hi hk hn hA hC hR hnx)
  · exact j_tableIn C 445 dL_law_44 (by decide) (by decide) (off := 401) (by decide) (by decide) (lw_c5 LW hi hk hn hA hC hR hnx)
  · exact j_tableIn C 489 dL_law_44 (by decide) (by decide) (off := 445) (by decide) (by decide) (lw_c6 LW hi hk hn hA hC hR hnx)
  · exact j_tableIn C 545 dL_law_44 (by decide) (by decide) (off := 501) (by decide) (by decide) (lw_c7 LW hi hk hn hA hC hR hnx)
  · exact j_tableIn C 601 dL_law_44 (by decide) (by decide) (off := 557) (by decide) (by decide) (lw_c8 LW hi hk hn hA hC hR hnx)
  · exact j_tableIn C 657 dL_law_44 (by decide) (by decide) (off := 613) (by decide) (by decide) (lw_c9 LW hi hk hn hA hC hR hnx)
  · exact j_tableIn C 713 dL_law_44 (by decide) (by decide) (off := 669) (by decide) (by decide) (lw_c10 LW hi hk hn hA hC hR hnx)
  · exact j_tableIn C 769 dL_law_44 (by decide) (by decide) (off := 725) (by decide) (by decide) (lw_c11 LW hi hk hn hA hC hR hnx)
  · exact j_tableIn C 782 dL_law_44 (by decide) (by decide) (off := 738) (by decide) (by decide) (lw_c12 LW hi hk hn hA hC hR hnx)
  · exact j_tableIn C 838 dL_law_44 (by decide) (by decide) (off := 794) (by decide) (by decide) (lw_c13 LW hi hk hn hA hC hR hnx)
  · exact j_tableIn C 851 dL_law_44 (by decide) (by decide) (off := 807) (by decide) (by decide) (lw_c14 LW hi hk hn hA hC hR hnx)
  · exact j_tableIn C 919 dL_law_44 (by decide) (by decide) (off := 875) (by decide) (by decide) (lw_c15 LW hi hk hn hA hC hR hnx)
  · exact j_tableIn C 987 dL_law_44 (by decide) (by decide) (off := 943) (by decide) (by decide) (lw_c16 LW hi hk hn hA hC hR hnx)
  · exact j_tableIn C 1043 dL_law_44 (by decide) (by decide) (off := 999) (by decide) (by decide) (lw_c17 LW hi hk hn hA hC hR hnx)
  · exact j_tableIn C 1118 dL_law_44 (by decide) (by decide) (off := 1074) (by decide) (by decide) (lw_c18 LW hi hk hn hA hC hR hnx)
  · exact j_tableIn C 1193 dL_law_44 (by decide) (by decide) (off := 1149) (by decide) (by decide) (lw_c19 LW hi hk hn hA hC hR hnx)
  · exact j_tableIn C 1261 dL_law_44 (by decide) (by decide) (off := 1217) (by decide) (by decide) (lw_c20 LW hi hk hn hA hC hR hnx)
  · exact j_tableIn C 1329 dL_law_44 (by decide) (by decide) (off := 1285) (by decide) (by decide) (lw_c21 LW hi hk hn hA hC hR hnx)
  · exact j_tableIn C 1397 dL_law_44 (by decide) (by decide) (off := 1353) (by decide) (by decide) (lw_c22 LW hi hk hn hA hC hR hnx)
  · exact j_tableIn C 1477 dL_law_44 (by decide) (by decide) (off := 1433) (by decide) (by decide) (lw_c23 LW hi hk hn hA hC hR hnx)
  · exact j_tableIn C 1545 dL_law_44 (by decide) (by decide) (off := 1501) (by decide) (by decide) (lw_c24 LW hi hk hn hA hC hR hnx)
  · exact j_tableIn C 1601 dL_law_44 (by decide) (by decide) (off := 1557) (by decide) (by decide) (lw_c25 LW hi hk hn hA hC hR hnx)
  · exact j_tableIn C 1614 dL_law_44 (by decide) (by decide) (off := 1570) (by decide) (by decide) (lw_c26 LW hi hk hn hA hC hR hnx)
  · exact j_tableIn C 1670 dL_law_44 (by decide) (by decide) (off := 1626) (by decide) (by decide) (lw_c27 LW hi hk hn hA hC hR hnx)
  · exact j_tableIn C 1726 dL_law_44 (by decide) (by decide) (off := 1682) (by decide) (by decide) (lw_c28 LW hi hk hn hA hC hR hnx)
  · exact j_tableIn C 1740 dL_law_44 (by decide) (by decide) (off := 1696) (by decide) (by decide) (lw_c29 LW hi hk hn hA hC hR hnx)
  · exact j_tableIn C 1806 dL_law_44 (by decide) (by decide) (off := 1762) (by decide) (by decide) (lw_c30 LW hi hk hn hA hC hR hnx)
  · refine j_tableOut C 1847 dL_law_44 (Or.inr (by decide)) (by decide) ?_
    exact j_wide (k' := k + 4) (n' := n + 32) (by omega) (by omega) (hnx A M hA hC hR)
set_option maxHeartbeats 4000000 in
set_option maxRecDepth 100000 in
/-- the law's loop -/
theorem law_loop {G : gG} {X : gX} {b L : Nat} {sx : Nat → Int32} (LW : gLw G X b L sx) (hend : ∀ k n lv M, k ≤ 3000 → n ≤ 30000 → Q G X k n 1853 lv [] M) : ∀ j, j ≤ 512 → ∀ A M, gOk A → gRC A M → gRM A M → Q G X (239 + 4 * j) (5562 + 32 * j) 28 (gLv G b (4 * j)) [] M := by
  refine g_up _ _ (fun j hj ih A M hA hC hR => ?_)
  obtain ⟨C, hX, hbl, hbA, hL⟩ := id LW
  refine j_iload C dL_law_28 rfl ?_
  refine j_aload_n C dL_law_30 rfl ?_
  refine j_slen C hX hbl hbA dL_law_31 ?_
  refine j_iconst C (v := nI 4) dL_law_32 rfl ?_
  refine j_isub C dL_law_33 ?_
  refine j_icmp_gt C 1853 dL_law_34 (fun _ => hend _ _ _ _ (by omega) (by omega)) (fun h => ?_) (by decide)
  have hi : 4 * j + 4 ≤ L := ln_le (by omega) hL h
  refine j_aload_n C dL_law_37 rfl ?_
  refine j_iload C dL_law_38 rfl ?_
  refine j_sld C hX hbl hbA hL (by omega) dL_law_40 ?_
  refine j_bipush C (v := nI 31) dL_law_41 rfl ?_
  refine j_iand C dL_law_43 ?_
  obtain ⟨c, hc, e⟩ := and_31 (sx (4 * j))
  rw [e]
  refine law_call LW hi (by omega) (by omega) hA hC hR (fun A' M' hA' hC' hR' => ?_) hc
  refine j_iinc C dL_law_1847 rfl (by decide) rfl ?_
  rw [show nI (4 * j) + Int32.ofInt 4 = nI (4 * (j + 1)) from nI_add (4 * j) 4]
  refine j_goto C 28 dL_law_1850 ?_ (by decide)
  exact j_wide (k' := 239 + 4 * (j + 1)) (n' := 5562 + 32 * (j + 1)) (by omega) (by omega) (j_sub (gLe_c rfl (gLe_c rfl (gLe_c rfl (gLe_c rfl (gLe_c rfl (gLe_c rfl (gLe_n (gLe_n (gLe_n (gLe_n gLe_0)))))))))) (ih (by omega) A' M' hA' hC' hR'))
