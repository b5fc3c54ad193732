theorem sum_le {f : Nat → Nat} {b : Nat} : ∀ {n}, (∀ i, i < n → f i ≤ b) → sumN f n ≤ n * b := by
  intro n
  induction n with
  | zero => intro _; exact Nat.zero_le _
  | succ n ih =>
    intro h
    have h1 := ih (fun i hi => h i (by omega))
    have h2 := h n (by omega)
    rw [sum_s, Nat.succ_mul]
    omega
def shF (A : gSt0) : UInt32 := FP.fdiv (FP.i2f (nI (sumN (aP A).2.2.1 (aP A).1))) (FP.i2f (nI (4 * (aP A).1)))
theorem sh_lim {A : gSt0} (hA : gAi A) : sumN (aP A).2.2.1 (aP A).1 < 1921 := by
  have h := pk_lim hA
  have h1 := sum_le (f := (aP A).2.2.1) (b := 4) (n := (aP A).1) (fun i hi => (h.1 i hi).2.1)
  have h2 := h.2
  omega
theorem lI_i {n : Nat} (h : n < 2 ^ 31) : (nI n).toInt64 = lI n := nI_l h
theorem lI_m4 (n : Nat) : lI n * 4 = lI (4 * n) := by
  rw [Nat.mul_comm]
  exact (Int64.ofNat_mul n 4).symm
theorem lg_z : lg_cmp (lI (4 * 0)) 0 = 0 := by decide
theorem lg_p : ∀ n : Nat, n < 481 → 0 < n → ¬ lg_cmp (lI (4 * n)) 0 = 0 := by decide +kernel
def mnD (A : gSt0) : UInt64 := FP.ddiv (FP.i2d (nI (sumN (fun c => cntN (fun p => decide (¬ aT A c p = none)) 8) (aN A)))) (FP.i2d (nI (aN A)))
theorem fl_lim {A : gSt0} (hA : gAi A) : sumN (fun c => cntN (fun p => decide (¬ aT A c p = none)) 8) (aN A) < 481 := by
  have h1 := sum_le (f := fun c => cntN (fun p => decide (¬ aT A c p = none)) 8) (b := 8) (n := aN A) (fun i hi => cnt_le _ 8)
  have h2 := hA.1.2
  omega
theorem fl_of {A : gSt0} {M : gMem} (hA : gAi A) (hh : gRh A M) : sumN (fun c => cntN (fun p => decide (¬ M.1 (10 + 2 * c + 1) p = -1)) 8) (aN A) = sumN (fun c => cntN (fun p => decide (¬ aT A c p = none)) 8) (aN A) := sum_congr (fun c hc => cnt_congr (fun p hp => by
  rw [hh.2.2 c hc p hp]
  exact decide_eq_decide.mpr (not_congr (oI_none (nI_lt8 (hA.2.2.2 c) hp)))))
theorem ok_dec {d : FP.Core.Datum} (hd : fOk FP.Core.b32 d) : FP.Core.decode FP.Core.b32 (UInt32.ofNat (FP.Core.encode FP.Core.b32 d)).toNat ≠ .nan := by
  obtain ⟨s, E, T, h1, h2, h3⟩ := f_enc (by decide) (by decide) (by decide) hd
  have h2 : T < 8388608 := h2
  have h3 : E < 255 ∨ (E = 255 ∧ T = 0) := h3
  have hs : s.toNat ≤ 1 := by cases s <;> decide
  rw [h1, UInt32.toNat_ofNat']
  have e : FP.Core.assemble FP.Core.b32 s E T = (s.toNat * 256 + E) * 8388608 + T := rfl
  rw [e, Nat.mod_eq_of_lt (by omega)]
  unfold FP.Core.decode
  have eT : FP.Core.fieldT FP.Core.b32 ((s.toNat * 256 + E) * 8388608 + T) = T := by
    show ((s.toNat * 256 + E) * 8388608 + T) % 8388608 = T
    omega
  have eE : FP.Core.fieldE FP.Core.b32 ((s.toNat * 256 + E) * 8388608 + T) = E := by
    show ((s.toNat * 256 + E) * 8388608 + T) / 8388608 % 256 = E
    omega
  rw [eT, eE]
  split
  · next hE =>
    have hE : E = 255 := hE
    rcases h3 with h3 | h3
    · omega
    · rw [if_pos h3.2]
      exact fun q => by cases q
  · split
    · exact fun q => by cases q
    · exact fun q => by cases q
theorem f_notnan {x : UInt32} (h : FP.Core.decode FP.Core.b32 x.toNat ≠ .nan) : ¬ FP.Core.fIsNaN x = true := by
  unfold FP.Core.fIsNaN FP.Core.isNaN
  simp [h]
theorem f_f2dg (x y : UInt32) (hx : fFin (FP.Core.decode FP.Core.b32 x.toNat) = true) (hy : fPos (FP.Core.decode FP.Core.b32 y.toNat) = true) : vf_n64 (FP.f2d (FP.fdiv x y)) := by
  have h := ok_dec (f_quot (f := FP.Core.b32) (by decide) (by decide) hx hy)
  have h2 := f_n64 (f_round (f := FP.Core.b64) (by decide) (by decide) h)
  unfold FP.f2d FP.fdiv
  rw [if_neg (f_notnan (x := FP.Core.fdiv x y) h)]
  unfold FP.Core.f2d FP.Core.fdiv FP.Core.convert FP.Core.div
  exact h2
theorem f_f2d {a b : Nat} (ha : a < 1921) (hb : b < 1921) (h0 : 0 < b) : vf_n64 (FP.f2d (FP.fdiv (FP.i2f (nI a)) (FP.i2f (nI b)))) := by
  have ea := f_ints32 a ha
  have eb := f_ints32 b hb
  simp only [Bool.and_eq_true, Bool.or_eq_true, decide_eq_true_eq] at ea eb
  refine f_f2dg _ _ ?_ ?_
  · show fFin (FP.Core.decode FP.Core.b32 (UInt32.ofNat (FP.Core.fromInt FP.Core.b32 (nI a).toInt)).toNat) = true
    rw [nI_toInt (by omega)]
    exact ea.1
  · show fPos (FP.Core.decode FP.Core.b32 (UInt32.ofNat (FP.Core.fromInt FP.Core.b32 (nI b).toInt)).toNat) = true
    rw [nI_toInt (by omega)]
    rcases eb.2 with e | e
    · omega
    · exact e
set_option maxHeartbeats 4000000 in
set_option maxRecDepth 100000 in
theorem sp_X6_packShare (G : gG) (M : gMem) {A : gSt0} (hA : gAi A) (hC : gRC A M) : SpO G mX6_packShare (gRm 1 1) [.ref (gb G + 0)] M (fun r M2 => M2 = M ∧ (((aP A).1 = 0 ∧ r = .inr "java/lang/ArithmeticException") ∨ (0 < (aP A).1 ∧ r = .inl (some (.float (shF A)))))) := by
  refine Sp.of (by decide +kernel) (Nat.le_of_ble_eq_true rfl) (fun X C CM => ?_)
  have C : gC G X RX6 cX6_packShare 3 (gRm 1 1) := C
  have hl := pk_lim hA
  have hl1 := hl.2
  have hsl := sh_lim hA
  refine j_aload_n C dX6_packShare_0 rfl ?_
  refine q_get C fX6 2 rfl (by decide) (by decide) lf_X6_26 rfl rfl dX6_packShare_1 ?_
  refine q_callV C (sp_X3_size G M) vX3_size lk_X6_198 rfl (by decide) rfl rfl (Nat.le_of_ble_eq_true rfl) (by decide) dX6_packShare_4 ?_
  rw [hC.2.2.1.1]
  refine j_i2l C dX6_packShare_7 ?_
  rw [lI_i (show (pkN (aT A) (aN A)).1 < 2 ^ 31 from Nat.lt_of_le_of_lt hl1 (by decide))]
  refine j_ldc2 C (4) ll_X6_216 dX6_packShare_8 ?_
  refine j_lmul C dX6_packShare_11 ?_
  rw [lI_m4]
  refine j_lstore_n C dX6_packShare_12 (by decide) rfl ?_
  refine j_lload_n C dX6_packShare_13 rfl ?_
  refine j_lconst C (v := 0) dX6_packShare_14 rfl ?_
  refine j_lcmp C dX6_packShare_15 ?_
  refine j_if_ne C 29 dX6_packShare_16 (fun h16 => ?_) (fun h16 => ?_) (by decide)
  · have hpos : 0 < (aP A).1 := Nat.pos_of_ne_zero (fun e => h16 (by rw [show (pkN (aT A) (aN A)).1 = 0 from e]; exact lg_z))
    refine j_aload_n C dX6_packShare_29 rfl ?_
    refine q_get C fX6 2 rfl (by decide) (by decide) lf_X6_26 rfl rfl dX6_packShare_30 ?_
    refine q_callV C (sp_X3_sumOfSizes G M) vX3_sumOfSizes lk_X6_212 rfl (by decide) rfl rfl (Nat.le_of_ble_eq_true rfl) (by decide) dX6_packShare_33 ?_
    rw [hC.2.2.1.2.1]
    refine j_l2f C dX6_packShare_36 ?_
    rw [f_lI (show sumN (pkN (aT A) (aN A)).2.2.1 (pkN (aT A) (aN A)).1 < 2 ^ 31 from Nat.lt_trans hsl (by decide))]
    refine j_lload_n C dX6_packShare_37 rfl ?_
    refine j_l2f C dX6_packShare_38 ?_
    rw [f_lI (show 4 * (pkN (aT A) (aN A)).1 < 2 ^ 31 from by have h : (pkN (aT A) (aN A)).1 ≤ 480 := hl1; omega)]
    refine j_fdiv C dX6_packShare_39 (f_div32 hsl (show 4 * (aP A).1 < 1921 by omega) (show 0 < 4 * (aP A).1 by omega)) ?_
    exact q_fretO C CM rfl (by decide) (by decide) dX6_packShare_40 ⟨rfl, Or.inr ⟨hpos, rfl⟩⟩
  · exact j_throw (text := "nothing is packed") C CM rfl (by decide +kernel) (by decide +kernel) lc_X6_218 z_ArithmeticException (by decide) xg_AE xn_AE (by decide) (xo_AE 218) dX6_packShare_19 dX6_packShare_22 dX6_packShare_23 dX6_packShare_25 dX6_packShare_28 (by decide) (by decide) (by decide) (by decide) (by decide) (by decide) ⟨rfl, M, ⟨rfl, Or.inl ⟨by by_cases e : (aP A).1 = 0; exact e; exact absurd (show lg_cmp (lI (4 * (aP A).1)) 0 = 0 from h16) (lg_p (aP A).1 (by omega) (by omega)), rfl⟩⟩, rfl⟩
set_option maxHeartbeats 4000000 in
set_option maxRecDepth 100000 in
theorem sp_X6_meanFiles (G : gG) (M : gMem) {A : gSt0} (hA : gAi A) (hC : gRC A M) : SpR G mX6_meanFiles (gRm 3 0) [.ref (gb G + 0)] M (some (.double (mnD A))) M := by
  refine Sp.of (by decide +kernel) (Nat.le_of_ble_eq_true rfl) (fun X C CM => ?_)
  have C : gC G X RX6 cX6_meanFiles 2 (gRm 3 0) := C
  have h60 := hA.1.2
  have h1n := hA.1.1
  have hfl := fl_lim hA
  refine j_aload_n C dX6_meanFiles_0 rfl ?_
  refine q_get C fX6 0 rfl (by decide) (by decide) lf_X6_10 rfl rfl dX6_meanFiles_1 ?_
  refine q_callV C (sp_X1_size G M hC.1.1) vX1_size lk_X6_143 rfl (by decide) rfl rfl (Nat.le_of_ble_eq_true rfl) (by decide) dX6_meanFiles_4 ?_
  refine j_istore_n C dX6_meanFiles_7 (by decide) rfl ?_
  refine j_iload_n C dX6_meanFiles_8 rfl ?_
  refine q_ifz_le C 26 dX6_meanFiles_9 (by decide) (by omega) (fun h9 => ?_) (fun h9 => ?_)
  · omega
  · refine j_aload_n C dX6_meanFiles_12 rfl ?_
    refine q_get C fX6 0 rfl (by decide) (by decide) lf_X6_10 rfl rfl dX6_meanFiles_13 ?_
    refine q_callV C (sp_X1_sumOfFiles G M hC.1.1 h60) vX1_sumOfFiles lk_X6_223 rfl (by decide) rfl rfl (Nat.le_of_ble_eq_true rfl) (by decide) dX6_meanFiles_16 ?_
    rw [fl_of hA hC.1]
    refine j_i2d C dX6_meanFiles_19 ?_
    refine j_iload_n C dX6_meanFiles_20 rfl ?_
    refine j_i2d C dX6_meanFiles_21 ?_
    refine j_ddiv C dX6_meanFiles_22 (f_div64 hfl (show aN A < 481 by omega) (by omega)) ?_
    refine j_goto C 27 dX6_meanFiles_23 ?_ (by decide)
    exact q_dret C CM rfl (by decide) (by decide) dX6_meanFiles_27 rfl rfl
