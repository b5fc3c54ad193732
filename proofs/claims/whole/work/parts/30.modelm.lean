theorem ln_0 {a k : Nat} (ha : a < 10000) (h : k = 0) : a / 1000 = dg a (3 - k) := by
  subst h
  exact (Nat.mod_eq_of_lt (by omega)).symm
theorem ln_1 {a k : Nat} (h : k = 1) : a / 100 % 10 = dg a (3 - k) := by subst h; rfl
theorem ln_2 {a k : Nat} (h : k = 2) : a / 10 % 10 = dg a (3 - k) := by subst h; rfl
theorem ln_3 {a k : Nat} (h0 : 0 < k) (h1 : ¬ k = 1) (h2 : ¬ k = 2) (hk : k < 4) : a % 10 = dg a (3 - k) := by
  obtain rfl : k = 3 := by omega
  show _ = a / 1 % 10
  rw [Nat.div_one]
theorem like_rev (a b : Nat) : cntN (fun k => decide (dg a (3 - k) = dg b (3 - k))) 4 = like a b := by
  show 0 + (if decide (dg a 3 = dg b 3) = true then 1 else 0) + (if decide (dg a 2 = dg b 2) = true then 1 else 0) + (if decide (dg a 1 = dg b 1) = true then 1 else 0) + (if decide (dg a 0 = dg b 0) = true then 1 else 0) = 0 + (if decide (dg a 0 = dg b 0) = true then 1 else 0) + (if decide (dg a 1 = dg b 1) = true then 1 else 0) + (if decide (dg a 2 = dg b 2) = true then 1 else 0) + (if decide (dg a 3 = dg b 3) = true then 1 else 0)
  omega
def jI : Option Nat → Int32
  | none => -2
  | some x => nI x
theorem lv_f1 {t u mv : Nat → Option Nat} {p : Nat} (h : t p = none) : lvB t u mv p = false := by unfold lvB; rw [h]; rfl
theorem lv_f2 {t u mv : Nat → Option Nat} {p v : Nat} (h : u p = some v) : lvB t u mv p = false := by unfold lvB; rw [h]; simp
theorem lv_f3 {t u mv : Nat → Option Nat} {p v : Nat} (h : mv p = some v) : lvB t u mv p = false := by unfold lvB; rw [h]; simp
theorem cm_f1 {t u mv : Nat → Option Nat} {p v : Nat} (h : t p = some v) : cmB t u mv p = false := by unfold cmB; rw [h]; rfl
theorem cm_f2 {t u mv : Nat → Option Nat} {p : Nat} (h : u p = none) : cmB t u mv p = false := by unfold cmB; rw [h]; simp
theorem cm_f3 {t u mv : Nat → Option Nat} {p : Nat} (h : (srcO mv p).isSome = true) : cmB t u mv p = false := by
  unfold cmB
  cases e : srcO mv p with
  | none => rw [e] at h; cases h
  | some v => simp
theorem lv_tt {t u mv : Nat → Option Nat} {p v : Nat} (h1 : t p = some v) (h2 : u p = none) (h3 : mv p = none) : lvB t u mv p = true := lv_iff.mpr ⟨by rw [h1]; rfl, h2, h3⟩
theorem cm_tt {t u mv : Nat → Option Nat} {p v : Nat} (h1 : t p = none) (h2 : u p = some v) (h3 : (srcO mv p).isSome = false) : cmB t u mv p = true := cm_iff.mpr ⟨h1, by rw [h2]; rfl, by
  cases e : srcO mv p with
  | none => rfl
  | some v => rw [e] at h3; cases h3⟩
theorem oI_is {o : Option Nat} {v : Nat} (h : o = some v) : o.isSome = true := by rw [h]; rfl
theorem jn_1 {b o t : Nat} (h : o = t) : nI o = jI (chgN b o t) := by
  unfold chgN
  by_cases e : o = b
  · rw [if_pos e, h]; rfl
  · rw [if_neg e]
    by_cases e2 : t = b
    · rw [if_pos e2]; rfl
    · rw [if_neg e2, if_pos h.symm]; rfl
theorem jn_2 {b o t : Nat} (h : o = b) : nI t = jI (chgN b o t) := by unfold chgN; rw [if_pos h]; rfl
theorem jn_3 {b o t : Nat} (h : ¬ o = b) (h2 : t = b) : nI o = jI (chgN b o t) := by unfold chgN; rw [if_neg h, if_pos h2]; rfl
theorem jn_4 {b o t : Nat} (h0 : ¬ o = t) (h : ¬ o = b) (h2 : ¬ t = b) : (-2 : Int32) = jI (chgN b o t) := by unfold chgN; rw [if_neg h, if_neg h2, if_neg (fun e => h0 e.symm)]; rfl
theorem fm_no {t u mv : Nat → Option Nat} {l p q : Nat} {f : Nat → Int32} (hf : ∀ r, r < 8 → f r = oI (mvQ t u l p q mv r)) (h : lvB t u (mvQ t u l p q mv) p = false ∨ cmB t u (mvQ t u l p q mv) q = false ∨ ¬ like (gv t p) (gv u q) = l) : ∀ r, r < 8 → f r = oI (mvQ t u l p (q + 1) mv r) := fun r hr => by
  rw [mvQ_s, mvS_no h]
  exact hf r hr
theorem fm_go {t u mv : Nat → Option Nat} {l p q : Nat} {f : Nat → Int32} (hf : ∀ r, r < 8 → f r = oI (mvQ t u l p q mv r)) (h1 : lvB t u (mvQ t u l p q mv) p = true) (h2 : cmB t u (mvQ t u l p q mv) q = true) (h3 : like (gv t p) (gv u q) = l) : ∀ r, r < 8 → upd f p (nI q) r = oI (mvQ t u l p (q + 1) mv r) := fun r hr => by
  rw [mvQ_s, mvS_go h1 h2 h3]
  by_cases e : r = p
  · rw [e, upd_s, uO_s]; rfl
  · rw [upd_n _ _ e, uO_n _ _ e]; exact hf r hr
set_option maxHeartbeats 4000000 in
set_option maxRecDepth 100000 in
theorem sp_X7_line (G : gG) (M : gMem) {a k : Nat} (ha : a < 10000) (hk : k < 4) : SpR G mX7_line (gRm 0 0) [.int (nI a), .int (nI k)] M (some (.int (nI (dg a (3 - k))))) M := by
  refine Sp.of (by decide +kernel) (Nat.le_of_ble_eq_true rfl) (fun X C CM => ?_)
  have C : gC G X RX7 cX7_line 2 (gRm 0 0) := C
  refine j_iload_n C dX7_line_0 rfl ?_
  refine q_ifz_ne C 12 dX7_line_1 (by decide) (by omega) (fun h1 => ?_) (fun h1 => ?_)
  · refine j_iload_n C dX7_line_12 rfl ?_
    refine j_iconst C (v := nI 1) dX7_line_13 rfl ?_
    refine q_icmp_ne C 27 dX7_line_14 (by decide) (by omega) (by omega) (fun h14 => ?_) (fun h14 => ?_)
    · refine j_iload_n C dX7_line_27 rfl ?_
      refine j_iconst C (v := nI 2) dX7_line_28 rfl ?_
      refine q_icmp_ne C 42 dX7_line_29 (by decide) (by omega) (by omega) (fun h29 => ?_) (fun h29 => ?_)
      · refine j_iload_n C dX7_line_42 rfl ?_
        refine j_bipush C (v := nI 10) dX7_line_43 rfl ?_
        refine q_irem C (by omega) (by decide) (by decide) dX7_line_45 ?_
        exact q_iret C CM rfl (by decide) (by decide) dX7_line_46 (by first | exact congrArg nI (ln_0 ha h1) | exact congrArg nI (ln_1 h14) | exact congrArg nI (ln_2 h29) | exact congrArg nI (ln_3 h1 h14 h29 hk)) rfl
      · refine j_iload_n C dX7_line_32 rfl ?_
        refine j_bipush C (v := nI 10) dX7_line_33 rfl ?_
        refine q_idiv C (by omega) (by decide) (by decide) dX7_line_35 ?_
        refine j_bipush C (v := nI 10) dX7_line_36 rfl ?_
        refine q_irem C (by omega) (by decide) (by decide) dX7_line_38 ?_
        refine j_goto C 46 dX7_line_39 ?_ (by decide)
        exact q_iret C CM rfl (by decide) (by decide) dX7_line_46 (by first | exact congrArg nI (ln_0 ha h1) | exact congrArg nI (ln_1 h14) | exact congrArg nI (ln_2 h29) | exact congrArg nI (ln_3 h1 h14 h29 hk)) rfl
    · refine j_iload_n C dX7_line_17 rfl ?_
      refine j_bipush C (v := nI 100) dX7_line_18 rfl ?_
      refine q_idiv C (by omega) (by decide) (by decide) dX7_line_20 ?_
      refine j_bipush C (v := nI 10) dX7_line_21 rfl ?_
      refine q_irem C (by omega) (by decide) (by decide) dX7_line_23 ?_
      refine j_goto C 46 dX7_line_24 ?_ (by decide)
      exact q_iret C CM rfl (by decide) (by decide) dX7_line_46 (by first | exact congrArg nI (ln_0 ha h1) | exact congrArg nI (ln_1 h14) | exact congrArg nI (ln_2 h29) | exact congrArg nI (ln_3 h1 h14 h29 hk)) rfl
  · refine j_iload_n C dX7_line_4 rfl ?_
    refine j_sipush C (v := nI 1000) dX7_line_5 rfl ?_
    refine q_idiv C (by omega) (by decide) (by decide) dX7_line_8 ?_
    refine j_goto C 46 dX7_line_9 ?_ (by decide)
    exact q_iret C CM rfl (by decide) (by decide) dX7_line_46 (by first | exact congrArg nI (ln_0 ha h1) | exact congrArg nI (ln_1 h14) | exact congrArg nI (ln_2 h29) | exact congrArg nI (ln_3 h1 h14 h29 hk)) rfl
set_option maxHeartbeats 4000000 in
set_option maxRecDepth 100000 in
theorem sp_X7_likeness (G : gG) (M : gMem) {a b : Nat} (ha : a < 10000) (hb : b < 10000) : SpR G mX7_likeness (gRm 1 0) [.int (nI a), .int (nI b)] M (some (.int (nI (like a b)))) M := by
  refine Sp.of (by decide +kernel) (Nat.le_of_ble_eq_true rfl) (fun X C CM => ?_)
  have C : gC G X RX7 cX7_likeness 4 (gRm 1 0) := C
  refine j_iconst C (v := nI 0) dX7_likeness_0 rfl ?_
  refine j_istore_n C dX7_likeness_1 (by decide) rfl ?_
  refine j_iconst C (v := nI 0) dX7_likeness_2 rfl ?_
  refine j_istore_n C dX7_likeness_3 (by decide) rfl ?_
  have K4 : ∀ i, i ≤ 4 → Q G X 0 0 4 [some (.int (nI a)), some (.int (nI b)), some (.int (nI (cntN (fun k => decide (dg a (3 - k) = dg b (3 - k))) i))), some (.int (nI i))] [] (M) := by
    refine g_up _ _ (fun i hi ih => ?_)
    refine j_iload_n C dX7_likeness_4 rfl ?_
    refine j_iconst C (v := nI 4) dX7_likeness_5 rfl ?_
    refine q_icmp_ge C 36 dX7_likeness_6 (by decide) (by omega) (by omega) (fun h6 => ?_) (fun h6 => ?_)
    · refine j_iload_n C dX7_likeness_36 rfl ?_
      exact q_iret C CM rfl (by decide) (by decide) dX7_likeness_37 (by rw [show i = 4 by omega, like_rev]) rfl
    · refine j_iload_n C dX7_likeness_9 rfl ?_
      refine j_iload_n C dX7_likeness_10 rfl ?_
      refine j_iload_n C dX7_likeness_11 rfl ?_
      refine q_callS C (sp_X7_line G M ha h6) vX7_line lk_X7_128 rfl rfl (Nat.le_of_ble_eq_true rfl) (by decide) dX7_likeness_12 ?_
      refine j_iload_n C dX7_likeness_15 rfl ?_
      refine j_iload_n C dX7_likeness_16 rfl ?_
      refine q_callS C (sp_X7_line G M hb h6) vX7_line lk_X7_128 rfl rfl (Nat.le_of_ble_eq_true rfl) (by decide) dX7_likeness_17 ?_
      have g1 := dg_lt a (3 - i)
      have g2 := dg_lt b (3 - i)
      refine q_icmp_ne C 27 dX7_likeness_20 (by decide) (by omega) (by omega) (fun h20 => ?_) (fun h20 => ?_)
      · refine j_iconst C (v := nI 0) dX7_likeness_27 rfl ?_
        refine q_iadd C dX7_likeness_28 ?_
        refine j_istore_n C dX7_likeness_29 (by decide) rfl ?_
        refine q_iinc C dX7_likeness_30 rfl (by decide) rfl ?_
        refine j_goto C 4 dX7_likeness_33 ?_ (by decide)
        exact q_cast (ih (by omega)) (gLe_c rfl (gLe_c rfl (gLe_c (by first | rw [cnt_t (decide_eq_true h20)] | (rw [cnt_f (decide_eq_false h20)]; rfl)) (gLe_c rfl gLe_0)))) (rfl)
      · refine j_iconst C (v := nI 1) dX7_likeness_23 rfl ?_
        refine j_goto C 28 dX7_likeness_24 ?_ (by decide)
        refine q_iadd C dX7_likeness_28 ?_
        refine j_istore_n C dX7_likeness_29 (by decide) rfl ?_
        refine q_iinc C dX7_likeness_30 rfl (by decide) rfl ?_
        refine j_goto C 4 dX7_likeness_33 ?_ (by decide)
        exact q_cast (ih (by omega)) (gLe_c rfl (gLe_c rfl (gLe_c (by first | rw [cnt_t (decide_eq_true h20)] | (rw [cnt_f (decide_eq_false h20)]; rfl)) (gLe_c rfl gLe_0)))) (rfl)
  exact q_cast (K4 0 (by omega)) (gLe_c rfl (gLe_c rfl (gLe_c rfl (gLe_c rfl gLe_0)))) (rfl)
set_option maxHeartbeats 4000000 in
set_option maxRecDepth 100000 in
theorem sp_X7_isTarget (G : gG) (M : gMem) {a q : Nat} {mv : Nat → Option Nat} (ha : gKd a = (0, 8)) (hla : a < 239) (hr : gRo M a mv) (hv : ∀ p v, p < 8 → mv p = some v → v < 8) (hq : q < 8) : SpR G mX7_isTarget (gRm 0 0) [.ref (gb G + a), .int (nI q)] M (some (.int (bI (srcO mv q).isSome))) M := by
  refine Sp.of (by decide +kernel) (Nat.le_of_ble_eq_true rfl) (fun X C CM => ?_)
  have C : gC G X RX7 cX7_isTarget 3 (gRm 0 0) := C
  refine j_iconst C (v := nI 0) dX7_isTarget_0 rfl ?_
  refine j_istore_n C dX7_isTarget_1 (by decide) rfl ?_
  have K2 : ∀ i, i ≤ 8 → (∀ j, j < i → (mv j == some q) = false) → Q G X 0 0 2 [some (.ref (gb G + a)), some (.int (nI q)), some (.int (nI i))] [] (M) := by
    refine g_up _ _ (fun i hi ih => ?_)
    intro hm
    refine j_iload_n C dX7_isTarget_2 rfl ?_
    refine j_bipush C (v := nI 8) dX7_isTarget_3 rfl ?_
    refine q_icmp_ge C 23 dX7_isTarget_5 (by decide) (by omega) (by omega) (fun h5 => ?_) (fun h5 => ?_)
    · refine j_iconst C (v := nI 0) dX7_isTarget_23 rfl ?_
      exact q_zret C CM rfl (by decide) (by decide) dX7_isTarget_24 (by rw [show srcO mv q = none from first_none.mpr (fun j hj => hm j (by omega))]; rfl) rfl
    · refine j_aload_n C dX7_isTarget_8 rfl ?_
      refine j_iload_n C dX7_isTarget_9 rfl ?_
      refine q_iald C ha hla (by decide) (by omega) dX7_isTarget_10 ?_
      rw [hr i h5]
      refine j_iload_n C dX7_isTarget_11 rfl ?_
      refine j_icmp_ne C 17 dX7_isTarget_12 (fun h12 => ?_) (fun h12 => ?_) (by decide)
      · refine q_iinc C dX7_isTarget_17 rfl (by decide) rfl ?_
        refine j_goto C 2 dX7_isTarget_20 ?_ (by decide)
        exact q_cast (ih (by omega) (fun j hj => if e : j = i then (by rw [e]; exact beq_false_of_ne (fun w => h12 (by rw [w]; rfl))) else hm j (by omega))) (gLe_c rfl (gLe_c rfl (gLe_c rfl gLe_0))) (rfl)
      · refine j_iconst C (v := nI 1) dX7_isTarget_15 rfl ?_
        exact q_zret C CM rfl (by decide) (by decide) dX7_isTarget_16 (by rw [show srcO mv q = some i from first_some.mpr ⟨h5, by rw [(oI_eq (b := some q) (fun v hx => Nat.lt_trans (hv i v h5 hx) (by decide)) (fun v hx => by cases hx; omega)).mp h12]; exact beq_self_eq_true _, hm⟩]; rfl) rfl
  exact q_cast (K2 0 (by omega) (fun j hj => absurd hj (by omega))) (gLe_c rfl (gLe_c rfl (gLe_c rfl gLe_0))) (rfl)
set_option maxHeartbeats 4000000 in
set_option maxRecDepth 100000 in
theorem sp_X7_placeOf (G : gG) (M : gMem) {a b p : Nat} {u mv : Nat → Option Nat} (ha : gKd a = (0, 8)) (hla : a < 239) (hb : gKd b = (0, 8)) (hlb : b < 239) (hr : gRo M a u) (hm : gRo M b mv) (hu : gTn u) (hp : p < 8) : SpR G mX7_placeOf (gRm 0 0) [.ref (gb G + a), .ref (gb G + b), .int (nI p)] M (some (.int (oI (plO u mv p)))) M := by
  refine Sp.of (by decide +kernel) (Nat.le_of_ble_eq_true rfl) (fun X C CM => ?_)
  have C : gC G X RX7 cX7_placeOf 3 (gRm 0 0) := C
  refine j_aload_n C dX7_placeOf_0 rfl ?_
  refine j_iload_n C dX7_placeOf_1 rfl ?_
  refine q_iald C ha hla (by decide) (by omega) dX7_placeOf_2 ?_
  rw [hr p hp]
  refine j_iconst C (v := -1) dX7_placeOf_3 rfl ?_
  refine q_icmp_eqN C 11 dX7_placeOf_4 (by decide) (nI_lt8 hu hp) (fun h4 => ?_) (fun v4 h4 => ?_)
  · refine j_aload_n C dX7_placeOf_11 rfl ?_
    refine j_iload_n C dX7_placeOf_12 rfl ?_
    refine q_iald C hb hlb (by decide) (by omega) dX7_placeOf_13 ?_
    exact q_iret C CM rfl (by decide) (by decide) dX7_placeOf_14 (by first | (rw [pl_t h4]; rfl) | (rw [pl_f h4]; exact hm p hp)) rfl
  · refine j_iload_n C dX7_placeOf_7 rfl ?_
    refine j_goto C 14 dX7_placeOf_8 ?_ (by decide)
    exact q_iret C CM rfl (by decide) (by decide) dX7_placeOf_14 (by first | (rw [pl_t h4]; rfl) | (rw [pl_f h4]; exact hm p hp)) rfl
set_option maxHeartbeats 4000000 in
set_option maxRecDepth 100000 in
theorem sp_X7_joined (G : gG) (M : gMem) {b o t : Nat} (hb : b < 2 ^ 31) (ho : o < 2 ^ 31) (ht : t < 2 ^ 31) : SpR G mX7_joined (gRm 0 0) [.int (nI b), .int (nI o), .int (nI t)] M (some (.int (jI (chgN b o t)))) M := by
  refine Sp.of (by decide +kernel) (Nat.le_of_ble_eq_true rfl) (fun X C CM => ?_)
  have C : gC G X RX7 cX7_joined 3 (gRm 0 0) := C
  refine j_iload_n C dX7_joined_0 rfl ?_
  refine j_iload_n C dX7_joined_1 rfl ?_
  refine q_icmp_ne C 9 dX7_joined_2 (by decide) (by omega) (by omega) (fun h2 => ?_) (fun h2 => ?_)
  · refine j_iload_n C dX7_joined_9 rfl ?_
    refine j_iload_n C dX7_joined_10 rfl ?_
    refine q_icmp_ne C 18 dX7_joined_11 (by decide) (by omega) (by omega) (fun h11 => ?_) (fun h11 => ?_)
    · refine j_iload_n C dX7_joined_18 rfl ?_
      refine j_iload_n C dX7_joined_19 rfl ?_
      refine q_icmp_ne C 27 dX7_joined_20 (by decide) (by omega) (by omega) (fun h20 => ?_) (fun h20 => ?_)
      · refine j_bipush C (v := (-2)) dX7_joined_27 rfl ?_
        exact q_iret C CM rfl (by decide) (by decide) dX7_joined_29 (by first | exact (jn_1 h2) | exact (jn_2 h11) | exact (jn_3 h11 h20) | exact (jn_4 h2 h11 h20)) rfl
      · refine j_iload_n C dX7_joined_23 rfl ?_
        refine j_goto C 29 dX7_joined_24 ?_ (by decide)
        exact q_iret C CM rfl (by decide) (by decide) dX7_joined_29 (by first | exact (jn_1 h2) | exact (jn_2 h11) | exact (jn_3 h11 h20) | exact (jn_4 h2 h11 h20)) rfl
    · refine j_iload_n C dX7_joined_14 rfl ?_
      refine j_goto C 29 dX7_joined_15 ?_ (by decide)
      exact q_iret C CM rfl (by decide) (by decide) dX7_joined_29 (by first | exact (jn_1 h2) | exact (jn_2 h11) | exact (jn_3 h11 h20) | exact (jn_4 h2 h11 h20)) rfl
  · refine j_iload_n C dX7_joined_5 rfl ?_
    refine j_goto C 29 dX7_joined_6 ?_ (by decide)
    exact q_iret C CM rfl (by decide) (by decide) dX7_joined_29 (by first | exact (jn_1 h2) | exact (jn_2 h11) | exact (jn_3 h11 h20) | exact (jn_4 h2 h11 h20)) rfl
set_option maxHeartbeats 4000000 in
set_option maxRecDepth 100000 in
theorem sp_X7_findsMoves (G : gG) (M : gMem) {a b m : Nat} {t u : Nat → Option Nat} (ha : gKd a = (0, 8)) (hla : a < 239) (hb : gKd b = (0, 8)) (hlb : b < 239) (hm : gKd m = (0, 8)) (hlm : m < 239) (ham : a ≠ m) (hbm : b ≠ m) (hr : gRo M a t) (hs : gRo M b u) (ht : gTn t) (hu : gTn u) : SpS G mX7_findsMoves (gRm 2 0) [.ref (gb G + 156), .ref (gb G + a), .ref (gb G + b), .ref (gb G + m)] M (none) (fun M2 => ∃ f, M2 = sI M m f ∧ ∀ r, r < 8 → f r = oI (moves t u r)) := by
  refine Sp.of (by decide +kernel) (Nat.le_of_ble_eq_true rfl) (fun X C CM => ?_)
  have C : gC G X RX7 cX7_findsMoves 9 (gRm 2 0) := C
  refine j_iconst C (v := nI 0) dX7_findsMoves_0 rfl ?_
  refine j_istore C dX7_findsMoves_1 (by decide) rfl ?_
  have K3 : ∀ i, i ≤ 8 → Q G X 0 0 3 [some (.ref (gb G + 156)), some (.ref (gb G + a)), some (.ref (gb G + b)), some (.ref (gb G + m)), some (.int (nI i)), none, none, none, none] [] (sI M m (cpF (fun _ => -1) (M.1 m) i)) := by
    refine g_up _ _ (fun i hi ih => ?_)
    refine j_iload C dX7_findsMoves_3 rfl ?_
    refine j_bipush C (v := nI 8) dX7_findsMoves_5 rfl ?_
    refine q_icmp_ge C 21 dX7_findsMoves_7 (by decide) (by omega) (by omega) (fun h7 => ?_) (fun h7 => ?_)
    · refine j_iconst C (v := nI 4) dX7_findsMoves_21 rfl ?_
      refine j_istore C dX7_findsMoves_22 (by decide) rfl ?_
      have K24 : ∀ i, i ≤ 2 → ∀ f, (∀ r, r < 8 → f r = oI (mvD t u i r)) → Q G X 0 0 24 [some (.ref (gb G + 156)), some (.ref (gb G + a)), some (.ref (gb G + b)), some (.ref (gb G + m)), some (.int (nI (4 - i))), none, none, none, none] [] (sI M m f) := by
        refine g_up _ _ (fun i hi ih => ?_)
        intro f hf
        refine j_iload C dX7_findsMoves_24 rfl ?_
        refine j_iconst C (v := nI 3) dX7_findsMoves_26 rfl ?_
        refine q_icmp_lt C 163 dX7_findsMoves_27 (by decide) (by omega) (by omega) (fun h27 => ?_) (fun h27 => ?_)
        · exact q_vretS C CM rfl (by decide) (by decide) dX7_findsMoves_163 ⟨f, rfl, by rw [← mvD_2, ← show i = 2 by omega]; exact hf⟩
        · refine j_iconst C (v := nI 0) dX7_findsMoves_30 rfl ?_
          refine j_istore C dX7_findsMoves_31 (by decide) rfl ?_
          have K33 : ∀ p, p ≤ 8 → ∀ f, (∀ r, r < 8 → f r = oI (mvP t u (4 - i) p (mvD t u i) r)) → Q G X 0 0 33 [some (.ref (gb G + 156)), some (.ref (gb G + a)), some (.ref (gb G + b)), some (.ref (gb G + m)), some (.int (nI (4 - i))), some (.int (nI p)), none, none, none] [] (sI M m f) := by
            refine g_up _ _ (fun p hp ihp => ?_)
            intro f hf
            refine j_iload C dX7_findsMoves_33 rfl ?_
            refine j_bipush C (v := nI 8) dX7_findsMoves_35 rfl ?_
            refine q_icmp_ge C 157 dX7_findsMoves_37 (by decide) (by omega) (by omega) (fun h37 => ?_) (fun h37 => ?_)
            · refine q_idec C (a := 3 - i) dX7_findsMoves_157 (by rw [show 3 - i + 1 = 4 - i by omega]; rfl) (by decide) rfl ?_
              refine j_goto C 24 dX7_findsMoves_160 ?_ (by decide)
              exact q_cast (ih (by omega) _ (fun r hr2 => by rw [hf r hr2, mvD_s, show p = 8 by omega])) (gLe_c rfl (gLe_c rfl (gLe_c rfl (gLe_c rfl (gLe_c (by rw [show 4 - (i + 1) = 3 - i by omega]) (gLe_n (gLe_n (gLe_n (gLe_n gLe_0))))))))) (rfl)
            · refine j_iconst C (v := nI 0) dX7_findsMoves_40 rfl ?_
              refine j_istore C dX7_findsMoves_41 (by decide) rfl ?_
              have K43 : ∀ q, q ≤ 8 → ∀ f, (∀ r, r < 8 → f r = oI ((mvQ t u (4 - i) p q (mvP t u (4 - i) p (mvD t u i))) r)) → Q G X 0 0 43 [some (.ref (gb G + 156)), some (.ref (gb G + a)), some (.ref (gb G + b)), some (.ref (gb G + m)), some (.int (nI (4 - i))), some (.int (nI p)), some (.int (nI q)), none, none] [] (sI M m f) := by
                refine g_up _ _ (fun q hq ihq => ?_)
                intro f hf
                refine j_iload C dX7_findsMoves_43 rfl ?_
                refine j_bipush C (v := nI 8) dX7_findsMoves_45 rfl ?_
                refine q_icmp_ge C 151 dX7_findsMoves_47 (by decide) (by omega) (by omega) (fun h47 => ?_) (fun h47 => ?_)
                · refine q_iinc C dX7_findsMoves_151 rfl (by decide) rfl ?_
                  refine j_goto C 33 dX7_findsMoves_154 ?_ (by decide)
                  exact q_cast (ihp (by omega) _ (fun r hr2 => by rw [hf r hr2, mvP_s, show q = 8 by omega])) (gLe_c rfl (gLe_c rfl (gLe_c rfl (gLe_c rfl (gLe_c rfl (gLe_c rfl (gLe_n (gLe_n (gLe_n gLe_0))))))))) (rfl)
                · have hmv := mv_Q (l := 4 - i) (p := p) (mv_P (l := 4 - i) (n := p) (mv_D t u i)) (n := q) (Nat.le_of_lt h47)
                  refine j_aload_n C dX7_findsMoves_50 rfl ?_
                  refine j_iload C dX7_findsMoves_51 rfl ?_
                  refine q_iald C ha hla (by decide) (by omega) dX7_findsMoves_53 ?_
                  rw [sI_n _ _ ham, hr p h37]
                  refine j_iconst C (v := -1) dX7_findsMoves_54 rfl ?_
                  refine q_icmp_eqN C 78 dX7_findsMoves_55 (by decide) (nI_lt8 ht h37) (fun h55 => ?_) (fun v55 h55 => ?_)
                  · refine j_iconst C (v := nI 0) dX7_findsMoves_78 rfl ?_
                    refine j_istore C dX7_findsMoves_79 (by decide) rfl ?_
                    refine j_aload_n C dX7_findsMoves_81 rfl ?_
                    refine j_iload C dX7_findsMoves_82 rfl ?_
                    refine q_iald C ha hla (by decide) (by omega) dX7_findsMoves_84 ?_
                    rw [sI_n _ _ ham, hr q h47]
                    refine j_iconst C (v := -1) dX7_findsMoves_85 rfl ?_
                    refine q_icmp_neN C 110 dX7_findsMoves_86 (by decide) (nI_lt8 ht h47) (fun v86 h86 => ?_) (fun h86 => ?_)
                    · refine j_iconst C (v := nI 0) dX7_findsMoves_110 rfl ?_
                      refine j_istore C dX7_findsMoves_111 (by decide) rfl ?_
                      refine j_iload C dX7_findsMoves_113 rfl ?_
                      refine j_if_eq C 145 dX7_findsMoves_115 (fun _ => ?_) (fun h => absurd (by decide) h) (by decide)
                      refine q_iinc C dX7_findsMoves_145 rfl (by decide) rfl ?_
                      refine j_goto C 43 dX7_findsMoves_148 ?_ (by decide)
                      exact q_cast (ihq (by omega) _ (by first | exact fm_no hf (by first | exact Or.inl (by first | exact lv_f1 h55 | exact lv_f2 h63 | exact lv_f3 h71) | exact Or.inr (Or.inl (by first | exact cm_f1 h86 | exact cm_f2 h94 | exact cm_f3 h103)) | exact Or.inr (Or.inr h136)) | exact fm_go hf (lv_tt h55 h63 h71) (cm_tt h86 h94 h103) h136)) (gLe_c rfl (gLe_c rfl (gLe_c rfl (gLe_c rfl (gLe_c rfl (gLe_c rfl (gLe_c rfl (gLe_n (gLe_n gLe_0))))))))) (by first | rfl | rw [sI_sI, sI_s])
                    · refine j_aload_n C dX7_findsMoves_89 rfl ?_
                      refine j_iload C dX7_findsMoves_90 rfl ?_
                      refine q_iald C hb hlb (by decide) (by omega) dX7_findsMoves_92 ?_
                      rw [sI_n _ _ hbm, hs q h47]
                      refine j_iconst C (v := -1) dX7_findsMoves_93 rfl ?_
                      refine q_icmp_eqN C 110 dX7_findsMoves_94 (by decide) (nI_lt8 hu h47) (fun h94 => ?_) (fun v94 h94 => ?_)
                      · refine j_iconst C (v := nI 0) dX7_findsMoves_110 rfl ?_
                        refine j_istore C dX7_findsMoves_111 (by decide) rfl ?_
                        refine j_iload C dX7_findsMoves_113 rfl ?_
                        refine j_if_eq C 145 dX7_findsMoves_115 (fun _ => ?_) (fun h => absurd (by decide) h) (by decide)
                        refine q_iinc C dX7_findsMoves_145 rfl (by decide) rfl ?_
                        refine j_goto C 43 dX7_findsMoves_148 ?_ (by decide)
                        exact q_cast (ihq (by omega) _ (by first | exact fm_no hf (by first | exact Or.inl (by first | exact lv_f1 h55 | exact lv_f2 h63 | exact lv_f3 h71) | exact Or.inr (Or.inl (by first | exact cm_f1 h86 | exact cm_f2 h94 | exact cm_f3 h103)) | exact Or.inr (Or.inr h136)) | exact fm_go hf (lv_tt h55 h63 h71) (cm_tt h86 h94 h103) h136)) (gLe_c rfl (gLe_c rfl (gLe_c rfl (gLe_c rfl (gLe_c rfl (gLe_c rfl (gLe_c rfl (gLe_n (gLe_n gLe_0))))))))) (by first | rfl | rw [sI_sI, sI_s])
                      · refine j_aload_n C dX7_findsMoves_97 rfl ?_
                        refine j_iload C dX7_findsMoves_98 rfl ?_
                        refine q_callS C (sp_X7_isTarget G (sI M m f) (mv := (mvQ t u (4 - i) p q (mvP t u (4 - i) p (mvD t u i)))) hm hlm (fun r hr2 => by rw [sI_s]; exact hf r hr2) (fun r v h1 h2 => (hmv r v h1 h2).1) h47) vX7_isTarget lk_X7_131 rfl rfl (Nat.le_of_ble_eq_true rfl) (by decide) dX7_findsMoves_100 ?_
                        refine q_if_ne0 C 110 dX7_findsMoves_103 (by decide) (fun h103 => ?_) (fun h103 => ?_)
                        · refine j_iconst C (v := nI 0) dX7_findsMoves_110 rfl ?_
                          refine j_istore C dX7_findsMoves_111 (by decide) rfl ?_
                          refine j_iload C dX7_findsMoves_113 rfl ?_
                          refine j_if_eq C 145 dX7_findsMoves_115 (fun _ => ?_) (fun h => absurd (by decide) h) (by decide)
                          refine q_iinc C dX7_findsMoves_145 rfl (by decide) rfl ?_
                          refine j_goto C 43 dX7_findsMoves_148 ?_ (by decide)
                          exact q_cast (ihq (by omega) _ (by first | exact fm_no hf (by first | exact Or.inl (by first | exact lv_f1 h55 | exact lv_f2 h63 | exact lv_f3 h71) | exact Or.inr (Or.inl (by first | exact cm_f1 h86 | exact cm_f2 h94 | exact cm_f3 h103)) | exact Or.inr (Or.inr h136)) | exact fm_go hf (lv_tt h55 h63 h71) (cm_tt h86 h94 h103) h136)) (gLe_c rfl (gLe_c rfl (gLe_c rfl (gLe_c rfl (gLe_c rfl (gLe_c rfl (gLe_c rfl (gLe_n (gLe_n gLe_0))))))))) (by first | rfl | rw [sI_sI, sI_s])
                        · refine j_iconst C (v := nI 1) dX7_findsMoves_106 rfl ?_
                          refine j_goto C 111 dX7_findsMoves_107 ?_ (by decide)
                          refine j_istore C dX7_findsMoves_111 (by decide) rfl ?_
                          refine j_iload C dX7_findsMoves_113 rfl ?_
                          refine j_if_eq C 145 dX7_findsMoves_115 (fun _ => ?_) (fun h => absurd (by decide) h) (by decide)
                          refine q_iinc C dX7_findsMoves_145 rfl (by decide) rfl ?_
                          refine j_goto C 43 dX7_findsMoves_148 ?_ (by decide)
                          exact q_cast (ihq (by omega) _ (by first | exact fm_no hf (by first | exact Or.inl (by first | exact lv_f1 h55 | exact lv_f2 h63 | exact lv_f3 h71) | exact Or.inr (Or.inl (by first | exact cm_f1 h86 | exact cm_f2 h94 | exact cm_f3 h103)) | exact Or.inr (Or.inr h136)) | exact fm_go hf (lv_tt h55 h63 h71) (cm_tt h86 h94 h103) h136)) (gLe_c rfl (gLe_c rfl (gLe_c rfl (gLe_c rfl (gLe_c rfl (gLe_c rfl (gLe_c rfl (gLe_n (gLe_n gLe_0))))))))) (by first | rfl | rw [sI_sI, sI_s])
                  · refine j_aload_n C dX7_findsMoves_58 rfl ?_
                    refine j_iload C dX7_findsMoves_59 rfl ?_
                    refine q_iald C hb hlb (by decide) (by omega) dX7_findsMoves_61 ?_
                    rw [sI_n _ _ hbm, hs p h37]
                    refine j_iconst C (v := -1) dX7_findsMoves_62 rfl ?_
                    refine q_icmp_neN C 78 dX7_findsMoves_63 (by decide) (nI_lt8 hu h37) (fun v63 h63 => ?_) (fun h63 => ?_)
                    · refine j_iconst C (v := nI 0) dX7_findsMoves_78 rfl ?_
                      refine j_istore C dX7_findsMoves_79 (by decide) rfl ?_
                      refine j_aload_n C dX7_findsMoves_81 rfl ?_
                      refine j_iload C dX7_findsMoves_82 rfl ?_
                      refine q_iald C ha hla (by decide) (by omega) dX7_findsMoves_84 ?_
                      rw [sI_n _ _ ham, hr q h47]
                      refine j_iconst C (v := -1) dX7_findsMoves_85 rfl ?_
                      refine q_icmp_neN C 110 dX7_findsMoves_86 (by decide) (nI_lt8 ht h47) (fun v86 h86 => ?_) (fun h86 => ?_)
                      · refine j_iconst C (v := nI 0) dX7_findsMoves_110 rfl ?_
                        refine j_istore C dX7_findsMoves_111 (by decide) rfl ?_
                        refine j_iload C dX7_findsMoves_113 rfl ?_
                        refine j_if_eq C 145 dX7_findsMoves_115 (fun _ => ?_) (fun h => absurd (by decide) h) (by decide)
                        refine q_iinc C dX7_findsMoves_145 rfl (by decide) rfl ?_
                        refine j_goto C 43 dX7_findsMoves_148 ?_ (by decide)
                        exact q_cast (ihq (by omega) _ (by first | exact fm_no hf (by first | exact Or.inl (by first | exact lv_f1 h55 | exact lv_f2 h63 | exact lv_f3 h71) | exact Or.inr (Or.inl (by first | exact cm_f1 h86 | exact cm_f2 h94 | exact cm_f3 h103)) | exact Or.inr (Or.inr h136)) | exact fm_go hf (lv_tt h55 h63 h71) (cm_tt h86 h94 h103) h136)) (gLe_c rfl (gLe_c rfl (gLe_c rfl (gLe_c rfl (gLe_c rfl (gLe_c rfl (gLe_c rfl (gLe_n (gLe_n gLe_0))))))))) (by first | rfl | rw [sI_sI, sI_s])
                      · refine j_aload_n C dX7_findsMoves_89 rfl ?_
                        refine j_iload C dX7_findsMoves_90 rfl ?_
                        refine q_iald C hb hlb (by decide) (by omega) dX7_findsMoves_92 ?_
                        rw [sI_n _ _ hbm, hs q h47]
                        refine j_iconst C (v := -1) dX7_findsMoves_93 rfl ?_
                        refine q_icmp_eqN C 110 dX7_findsMoves_94 (by decide) (nI_lt8 hu h47) (fun h94 => ?_) (fun v94 h94 => ?_)
                        · refine j_iconst C (v := nI 0) dX7_findsMoves_110 rfl ?_
                          refine j_istore C dX7_findsMoves_111 (by decide) rfl ?_
                          refine j_iload C dX7_findsMoves_113 rfl ?_
                          refine j_if_eq C 145 dX7_findsMoves_115 (fun _ => ?_) (fun h => absurd (by decide) h) (by decide)
                          refine q_iinc C dX7_findsMoves_145 rfl (by decide) rfl ?_
                          refine j_goto C 43 dX7_findsMoves_148 ?_ (by decide)
                          exact q_cast (ihq (by omega) _ (by first | exact fm_no hf (by first | exact Or.inl (by first | exact lv_f1 h55 | exact lv_f2 h63 | exact lv_f3 h71) | exact Or.inr (Or.inl (by first | exact cm_f1 h86 | exact cm_f2 h94 | exact cm_f3 h103)) | exact Or.inr (Or.inr h136)) | exact fm_go hf (lv_tt h55 h63 h71) (cm_tt h86 h94 h103) h136)) (gLe_c rfl (gLe_c rfl (gLe_c rfl (gLe_c rfl (gLe_c rfl (gLe_c rfl (gLe_c rfl (gLe_n (gLe_n gLe_0))))))))) (by first | rfl | rw [sI_sI, sI_s])
                        · refine j_aload_n C dX7_findsMoves_97 rfl ?_
                          refine j_iload C dX7_findsMoves_98 rfl ?_
                          refine q_callS C (sp_X7_isTarget G (sI M m f) (mv := (mvQ t u (4 - i) p q (mvP t u (4 - i) p (mvD t u i)))) hm hlm (fun r hr2 => by rw [sI_s]; exact hf r hr2) (fun r v h1 h2 => (hmv r v h1 h2).1) h47) vX7_isTarget lk_X7_131 rfl rfl (Nat.le_of_ble_eq_true rfl) (by decide) dX7_findsMoves_100 ?_
                          refine q_if_ne0 C 110 dX7_findsMoves_103 (by decide) (fun h103 => ?_) (fun h103 => ?_)
                          · refine j_iconst C (v := nI 0) dX7_findsMoves_110 rfl ?_
                            refine j_istore C dX7_findsMoves_111 (by decide) rfl ?_
                            refine j_iload C dX7_findsMoves_113 rfl ?_
                            refine j_if_eq C 145 dX7_findsMoves_115 (fun _ => ?_) (fun h => absurd (by decide) h) (by decide)
                            refine q_iinc C dX7_findsMoves_145 rfl (by decide) rfl ?_
                            refine j_goto C 43 dX7_findsMoves_148 ?_ (by decide)
                            exact q_cast (ihq (by omega) _ (by first | exact fm_no hf (by first | exact Or.inl (by first | exact lv_f1 h55 | exact lv_f2 h63 | exact lv_f3 h71) | exact Or.inr (Or.inl (by first | exact cm_f1 h86 | exact cm_f2 h94 | exact cm_f3 h103)) | exact Or.inr (Or.inr h136)) | exact fm_go hf (lv_tt h55 h63 h71) (cm_tt h86 h94 h103) h136)) (gLe_c rfl (gLe_c rfl (gLe_c rfl (gLe_c rfl (gLe_c rfl (gLe_c rfl (gLe_c rfl (gLe_n (gLe_n gLe_0))))))))) (by first | rfl | rw [sI_sI, sI_s])
                          · refine j_iconst C (v := nI 1) dX7_findsMoves_106 rfl ?_
                            refine j_goto C 111 dX7_findsMoves_107 ?_ (by decide)
                            refine j_istore C dX7_findsMoves_111 (by decide) rfl ?_
                            refine j_iload C dX7_findsMoves_113 rfl ?_
                            refine j_if_eq C 145 dX7_findsMoves_115 (fun _ => ?_) (fun h => absurd (by decide) h) (by decide)
                            refine q_iinc C dX7_findsMoves_145 rfl (by decide) rfl ?_
                            refine j_goto C 43 dX7_findsMoves_148 ?_ (by decide)
                            exact q_cast (ihq (by omega) _ (by first | exact fm_no hf (by first | exact Or.inl (by first | exact lv_f1 h55 | exact lv_f2 h63 | exact lv_f3 h71) | exact Or.inr (Or.inl (by first | exact cm_f1 h86 | exact cm_f2 h94 | exact cm_f3 h103)) | exact Or.inr (Or.inr h136)) | exact fm_go hf (lv_tt h55 h63 h71) (cm_tt h86 h94 h103) h136)) (gLe_c rfl (gLe_c rfl (gLe_c rfl (gLe_c rfl (gLe_c rfl (gLe_c rfl (gLe_c rfl (gLe_n (gLe_n gLe_0))))))))) (by first | rfl | rw [sI_sI, sI_s])
                    · refine j_aload_n C dX7_findsMoves_66 rfl ?_
                      refine j_iload C dX7_findsMoves_67 rfl ?_
                      refine q_iald C hm hlm (by decide) (by omega) dX7_findsMoves_69 ?_
                      rw [sI_s, hf p h37]
                      refine j_iconst C (v := -1) dX7_findsMoves_70 rfl ?_
                      refine q_icmp_neN C 78 dX7_findsMoves_71 (by decide) (fun v hv => Nat.lt_trans (hmv p v h37 hv).1 (by decide)) (fun v71 h71 => ?_) (fun h71 => ?_)
                      · refine j_iconst C (v := nI 0) dX7_findsMoves_78 rfl ?_
                        refine j_istore C dX7_findsMoves_79 (by decide) rfl ?_
                        refine j_aload_n C dX7_findsMoves_81 rfl ?_
                        refine j_iload C dX7_findsMoves_82 rfl ?_
                        refine q_iald C ha hla (by decide) (by omega) dX7_findsMoves_84 ?_
                        rw [sI_n _ _ ham, hr q h47]
                        refine j_iconst C (v := -1) dX7_findsMoves_85 rfl ?_
                        refine q_icmp_neN C 110 dX7_findsMoves_86 (by decide) (nI_lt8 ht h47) (fun v86 h86 => ?_) (fun h86 => ?_)
                        · refine j_iconst C (v := nI 0) dX7_findsMoves_110 rfl ?_
                          refine j_istore C dX7_findsMoves_111 (by decide) rfl ?_
                          refine j_iload C dX7_findsMoves_113 rfl ?_
                          refine j_if_eq C 145 dX7_findsMoves_115 (fun _ => ?_) (fun h => absurd (by decide) h) (by decide)
                          refine q_iinc C dX7_findsMoves_145 rfl (by decide) rfl ?_
                          refine j_goto C 43 dX7_findsMoves_148 ?_ (by decide)
                          exact q_cast (ihq (by omega) _ (by first | exact fm_no hf (by first | exact Or.inl (by first | exact lv_f1 h55 | exact lv_f2 h63 | exact lv_f3 h71) | exact Or.inr (Or.inl (by first | exact cm_f1 h86 | exact cm_f2 h94 | exact cm_f3 h103)) | exact Or.inr (Or.inr h136)) | exact fm_go hf (lv_tt h55 h63 h71) (cm_tt h86 h94 h103) h136)) (gLe_c rfl (gLe_c rfl (gLe_c rfl (gLe_c rfl (gLe_c rfl (gLe_c rfl (gLe_c rfl (gLe_n (gLe_n gLe_0))))))))) (by first | rfl | rw [sI_sI, sI_s])
                        · refine j_aload_n C dX7_findsMoves_89 rfl ?_
                          refine j_iload C dX7_findsMoves_90 rfl ?_
                          refine q_iald C hb hlb (by decide) (by omega) dX7_findsMoves_92 ?_
                          rw [sI_n _ _ hbm, hs q h47]
                          refine j_iconst C (v := -1) dX7_findsMoves_93 rfl ?_
                          refine q_icmp_eqN C 110 dX7_findsMoves_94 (by decide) (nI_lt8 hu h47) (fun h94 => ?_) (fun v94 h94 => ?_)
                          · refine j_iconst C (v := nI 0) dX7_findsMoves_110 rfl ?_
                            refine j_istore C dX7_findsMoves_111 (by decide) rfl ?_
                            refine j_iload C dX7_findsMoves_113 rfl ?_
                            refine j_if_eq C 145 dX7_findsMoves_115 (fun _ => ?_) (fun h => absurd (by decide) h) (by decide)
                            refine q_iinc C dX7_findsMoves_145 rfl (by decide) rfl ?_
                            refine j_goto C 43 dX7_findsMoves_148 ?_ (by decide)
                            exact q_cast (ihq (by omega) _ (by first | exact fm_no hf (by first | exact Or.inl (by first | exact lv_f1 h55 | exact lv_f2 h63 | exact lv_f3 h71) | exact Or.inr (Or.inl (by first | exact cm_f1 h86 | exact cm_f2 h94 | exact cm_f3 h103)) | exact Or.inr (Or.inr h136)) | exact fm_go hf (lv_tt h55 h63 h71) (cm_tt h86 h94 h103) h136)) (gLe_c rfl (gLe_c rfl (gLe_c rfl (gLe_c rfl (gLe_c rfl (gLe_c rfl (gLe_c rfl (gLe_n (gLe_n gLe_0))))))))) (by first | rfl | rw [sI_sI, sI_s])
                          · refine j_aload_n C dX7_findsMoves_97 rfl ?_
                            refine j_iload C dX7_findsMoves_98 rfl ?_
                            refine q_callS C (sp_X7_isTarget G (sI M m f) (mv := (mvQ t u (4 - i) p q (mvP t u (4 - i) p (mvD t u i)))) hm hlm (fun r hr2 => by rw [sI_s]; exact hf r hr2) (fun r v h1 h2 => (hmv r v h1 h2).1) h47) vX7_isTarget lk_X7_131 rfl rfl (Nat.le_of_ble_eq_true rfl) (by decide) dX7_findsMoves_100 ?_
                            refine q_if_ne0 C 110 dX7_findsMoves_103 (by decide) (fun h103 => ?_) (fun h103 => ?_)
                            · refine j_iconst C (v := nI 0) dX7_findsMoves_110 rfl ?_
                              refine j_istore C dX7_findsMoves_111 (by decide) rfl ?_
                              refine j_iload C dX7_findsMoves_113 rfl ?_
                              refine j_if_eq C 145 dX7_findsMoves_115 (fun _ => ?_) (fun h => absurd (by decide) h) (by decide)
                              refine q_iinc C dX7_findsMoves_145 rfl (by decide) rfl ?_
                              refine j_goto C 43 dX7_findsMoves_148 ?_ (by decide)
                              exact q_cast (ihq (by omega) _ (by first | exact fm_no hf (by first | exact Or.inl (by first | exact lv_f1 h55 | exact lv_f2 h63 | exact lv_f3 h71) | exact Or.inr (Or.inl (by first | exact cm_f1 h86 | exact cm_f2 h94 | exact cm_f3 h103)) | exact Or.inr (Or.inr h136)) | exact fm_go hf (lv_tt h55 h63 h71) (cm_tt h86 h94 h103) h136)) (gLe_c rfl (gLe_c rfl (gLe_c rfl (gLe_c rfl (gLe_c rfl (gLe_c rfl (gLe_c rfl (gLe_n (gLe_n gLe_0))))))))) (by first | rfl | rw [sI_sI, sI_s])
                            · refine j_iconst C (v := nI 1) dX7_findsMoves_106 rfl ?_
                              refine j_goto C 111 dX7_findsMoves_107 ?_ (by decide)
                              refine j_istore C dX7_findsMoves_111 (by decide) rfl ?_
                              refine j_iload C dX7_findsMoves_113 rfl ?_
                              refine j_if_eq C 145 dX7_findsMoves_115 (fun _ => ?_) (fun h => absurd (by decide) h) (by decide)
                              refine q_iinc C dX7_findsMoves_145 rfl (by decide) rfl ?_
                              refine j_goto C 43 dX7_findsMoves_148 ?_ (by decide)
                              exact q_cast (ihq (by omega) _ (by first | exact fm_no hf (by first | exact Or.inl (by first | exact lv_f1 h55 | exact lv_f2 h63 | exact lv_f3 h71) | exact Or.inr (Or.inl (by first | exact cm_f1 h86 | exact cm_f2 h94 | exact cm_f3 h103)) | exact Or.inr (Or.inr h136)) | exact fm_go hf (lv_tt h55 h63 h71) (cm_tt h86 h94 h103) h136)) (gLe_c rfl (gLe_c rfl (gLe_c rfl (gLe_c rfl (gLe_c rfl (gLe_c rfl (gLe_c rfl (gLe_n (gLe_n gLe_0))))))))) (by first | rfl | rw [sI_sI, sI_s])
                      · refine j_iconst C (v := nI 1) dX7_findsMoves_74 rfl ?_
                        refine j_goto C 79 dX7_findsMoves_75 ?_ (by decide)
                        refine j_istore C dX7_findsMoves_79 (by decide) rfl ?_
                        refine j_aload_n C dX7_findsMoves_81 rfl ?_
                        refine j_iload C dX7_findsMoves_82 rfl ?_
                        refine q_iald C ha hla (by decide) (by omega) dX7_findsMoves_84 ?_
                        rw [sI_n _ _ ham, hr q h47]
                        refine j_iconst C (v := -1) dX7_findsMoves_85 rfl ?_
                        refine q_icmp_neN C 110 dX7_findsMoves_86 (by decide) (nI_lt8 ht h47) (fun v86 h86 => ?_) (fun h86 => ?_)
                        · refine j_iconst C (v := nI 0) dX7_findsMoves_110 rfl ?_
                          refine j_istore C dX7_findsMoves_111 (by decide) rfl ?_
                          refine j_iload C dX7_findsMoves_113 rfl ?_
                          refine j_if_eq C 145 dX7_findsMoves_115 (fun h => absurd h (by decide)) (fun _ => ?_) (by decide)
                          refine j_iload C dX7_findsMoves_118 rfl ?_
                          refine j_if_eq C 145 dX7_findsMoves_120 (fun _ => ?_) (fun h => absurd (by decide) h) (by decide)
                          refine q_iinc C dX7_findsMoves_145 rfl (by decide) rfl ?_
                          refine j_goto C 43 dX7_findsMoves_148 ?_ (by decide)
                          exact q_cast (ihq (by omega) _ (by first | exact fm_no hf (by first | exact Or.inl (by first | exact lv_f1 h55 | exact lv_f2 h63 | exact lv_f3 h71) | exact Or.inr (Or.inl (by first | exact cm_f1 h86 | exact cm_f2 h94 | exact cm_f3 h103)) | exact Or.inr (Or.inr h136)) | exact fm_go hf (lv_tt h55 h63 h71) (cm_tt h86 h94 h103) h136)) (gLe_c rfl (gLe_c rfl (gLe_c rfl (gLe_c rfl (gLe_c rfl (gLe_c rfl (gLe_c rfl (gLe_n (gLe_n gLe_0))))))))) (by first | rfl | rw [sI_sI, sI_s])
                        · refine j_aload_n C dX7_findsMoves_89 rfl ?_
                          refine j_iload C dX7_findsMoves_90 rfl ?_
                          refine q_iald C hb hlb (by decide) (by omega) dX7_findsMoves_92 ?_
                          rw [sI_n _ _ hbm, hs q h47]
                          refine j_iconst C (v := -1) dX7_findsMoves_93 rfl ?_
                          refine q_icmp_eqN C 110 dX7_findsMoves_94 (by decide) (nI_lt8 hu h47) (fun h94 => ?_) (fun v94 h94 => ?_)
                          · refine j_iconst C (v := nI 0) dX7_findsMoves_110 rfl ?_
                            refine j_istore C dX7_findsMoves_111 (by decide) rfl ?_
                            refine j_iload C dX7_findsMoves_113 rfl ?_
                            refine j_if_eq C 145 dX7_findsMoves_115 (fun h => absurd h (by decide)) (fun _ => ?_) (by decide)
                            refine j_iload C dX7_findsMoves_118 rfl ?_
                            refine j_if_eq C 145 dX7_findsMoves_120 (fun _ => ?_) (fun h => absurd (by decide) h) (by decide)
                            refine q_iinc C dX7_findsMoves_145 rfl (by decide) rfl ?_
                            refine j_goto C 43 dX7_findsMoves_148 ?_ (by decide)
                            exact q_cast (ihq (by omega) _ (by first | exact fm_no hf (by first | exact Or.inl (by first | exact lv_f1 h55 | exact lv_f2 h63 | exact lv_f3 h71) | exact Or.inr (Or.inl (by first | exact cm_f1 h86 | exact cm_f2 h94 | exact cm_f3 h103)) | exact Or.inr (Or.inr h136)) | exact fm_go hf (lv_tt h55 h63 h71) (cm_tt h86 h94 h103) h136)) (gLe_c rfl (gLe_c rfl (gLe_c rfl (gLe_c rfl (gLe_c rfl (gLe_c rfl (gLe_c rfl (gLe_n (gLe_n gLe_0))))))))) (by first | rfl | rw [sI_sI, sI_s])
                          · refine j_aload_n C dX7_findsMoves_97 rfl ?_
                            refine j_iload C dX7_findsMoves_98 rfl ?_
                            refine q_callS C (sp_X7_isTarget G (sI M m f) (mv := (mvQ t u (4 - i) p q (mvP t u (4 - i) p (mvD t u i)))) hm hlm (fun r hr2 => by rw [sI_s]; exact hf r hr2) (fun r v h1 h2 => (hmv r v h1 h2).1) h47) vX7_isTarget lk_X7_131 rfl rfl (Nat.le_of_ble_eq_true rfl) (by decide) dX7_findsMoves_100 ?_
                            refine q_if_ne0 C 110 dX7_findsMoves_103 (by decide) (fun h103 => ?_) (fun h103 => ?_)
                            · refine j_iconst C (v := nI 0) dX7_findsMoves_110 rfl ?_
                              refine j_istore C dX7_findsMoves_111 (by decide) rfl ?_
                              refine j_iload C dX7_findsMoves_113 rfl ?_
                              refine j_if_eq C 145 dX7_findsMoves_115 (fun h => absurd h (by decide)) (fun _ => ?_) (by decide)
                              refine j_iload C dX7_findsMoves_118 rfl ?_
                              refine j_if_eq C 145 dX7_findsMoves_120 (fun _ => ?_) (fun h => absurd (by decide) h) (by decide)
                              refine q_iinc C dX7_findsMoves_145 rfl (by decide) rfl ?_
                              refine j_goto C 43 dX7_findsMoves_148 ?_ (by decide)
                              exact q_cast (ihq (by omega) _ (by first | exact fm_no hf (by first | exact Or.inl (by first | exact lv_f1 h55 | exact lv_f2 h63 | exact lv_f3 h71) | exact Or.inr (Or.inl (by first | exact cm_f1 h86 | exact cm_f2 h94 | exact cm_f3 h103)) | exact Or.inr (Or.inr h136)) | exact fm_go hf (lv_tt h55 h63 h71) (cm_tt h86 h94 h103) h136)) (gLe_c rfl (gLe_c rfl (gLe_c rfl (gLe_c rfl (gLe_c rfl (gLe_c rfl (gLe_c rfl (gLe_n (gLe_n gLe_0))))))))) (by first | rfl | rw [sI_sI, sI_s])
                            · refine j_iconst C (v := nI 1) dX7_findsMoves_106 rfl ?_
                              refine j_goto C 111 dX7_findsMoves_107 ?_ (by decide)
                              refine j_istore C dX7_findsMoves_111 (by decide) rfl ?_
                              refine j_iload C dX7_findsMoves_113 rfl ?_
                              refine j_if_eq C 145 dX7_findsMoves_115 (fun h => absurd h (by decide)) (fun _ => ?_) (by decide)
                              refine j_iload C dX7_findsMoves_118 rfl ?_
                              refine j_if_eq C 145 dX7_findsMoves_120 (fun h => absurd h (by decide)) (fun _ => ?_) (by decide)
                              refine j_aload_n C dX7_findsMoves_123 rfl ?_
                              refine j_iload C dX7_findsMoves_124 rfl ?_
                              refine q_iald C ha hla (by decide) (by omega) dX7_findsMoves_126 ?_
                              rw [sI_n _ _ ham, hr p h37, oI_gv (oI_is h55)]
                              refine j_aload_n C dX7_findsMoves_127 rfl ?_
                              refine j_iload C dX7_findsMoves_128 rfl ?_
                              refine q_iald C hb hlb (by decide) (by omega) dX7_findsMoves_130 ?_
                              rw [sI_n _ _ hbm, hs q h47, oI_gv (oI_is h94)]
                              refine q_callS C (sp_X7_likeness G (sI M m f) (gv_lt ht h37) (gv_lt hu h47)) vX7_likeness lk_X7_135 rfl rfl (Nat.le_of_ble_eq_true rfl) (by decide) dX7_findsMoves_131 ?_
                              refine j_iload C dX7_findsMoves_134 rfl ?_
                              have hlk := like_le (gv t p) (gv u q)
                              refine q_icmp_ne C 145 dX7_findsMoves_136 (by decide) (by omega) (by omega) (fun h136 => ?_) (fun h136 => ?_)
                              · refine q_iinc C dX7_findsMoves_145 rfl (by decide) rfl ?_
                                refine j_goto C 43 dX7_findsMoves_148 ?_ (by decide)
                                exact q_cast (ihq (by omega) _ (by first | exact fm_no hf (by first | exact Or.inl (by first | exact lv_f1 h55 | exact lv_f2 h63 | exact lv_f3 h71) | exact Or.inr (Or.inl (by first | exact cm_f1 h86 | exact cm_f2 h94 | exact cm_f3 h103)) | exact Or.inr (Or.inr h136)) | exact fm_go hf (lv_tt h55 h63 h71) (cm_tt h86 h94 h103) h136)) (gLe_c rfl (gLe_c rfl (gLe_c rfl (gLe_c rfl (gLe_c rfl (gLe_c rfl (gLe_c rfl (gLe_n (gLe_n gLe_0))))))))) (by first | rfl | rw [sI_sI, sI_s])
                              · refine j_aload_n C dX7_findsMoves_139 rfl ?_
                                refine j_iload C dX7_findsMoves_140 rfl ?_
                                refine j_iload C dX7_findsMoves_142 rfl ?_
                                refine q_iast C hm hlm (by decide) (by omega) dX7_findsMoves_144 ?_
                                refine q_iinc C dX7_findsMoves_145 rfl (by decide) rfl ?_
                                refine j_goto C 43 dX7_findsMoves_148 ?_ (by decide)
                                exact q_cast (ihq (by omega) _ (by first | exact fm_no hf (by first | exact Or.inl (by first | exact lv_f1 h55 | exact lv_f2 h63 | exact lv_f3 h71) | exact Or.inr (Or.inl (by first | exact cm_f1 h86 | exact cm_f2 h94 | exact cm_f3 h103)) | exact Or.inr (Or.inr h136)) | exact fm_go hf (lv_tt h55 h63 h71) (cm_tt h86 h94 h103) h136)) (gLe_c rfl (gLe_c rfl (gLe_c rfl (gLe_c rfl (gLe_c rfl (gLe_c rfl (gLe_c rfl (gLe_n (gLe_n gLe_0))))))))) (by first | rfl | rw [sI_sI, sI_s])
              exact q_cast (K43 0 (by omega) _ (fun r hr2 => hf r hr2)) (gLe_c rfl (gLe_c rfl (gLe_c rfl (gLe_c rfl (gLe_c rfl (gLe_c rfl (gLe_c rfl (gLe_n (gLe_n gLe_0))))))))) (rfl)
          exact q_cast (K33 0 (by omega) _ (fun r hr2 => hf r hr2)) (gLe_c rfl (gLe_c rfl (gLe_c rfl (gLe_c rfl (gLe_c rfl (gLe_c rfl (gLe_n (gLe_n (gLe_n gLe_0))))))))) (rfl)
      exact q_cast (K24 0 (by omega) _ (fun r hr2 => by rw [cpF_lt (show r < i by omega)]; rfl)) (gLe_c rfl (gLe_c rfl (gLe_c rfl (gLe_c rfl (gLe_c rfl (gLe_n (gLe_n (gLe_n (gLe_n gLe_0))))))))) (rfl)
    · refine j_aload_n C dX7_findsMoves_10 rfl ?_
      refine j_iload C dX7_findsMoves_11 rfl ?_
      refine j_iconst C (v := -1) dX7_findsMoves_13 rfl ?_
      refine q_iast C hm hlm (by decide) (by omega) dX7_findsMoves_14 ?_
      refine q_iinc C dX7_findsMoves_15 rfl (by decide) rfl ?_
      refine j_goto C 3 dX7_findsMoves_18 ?_ (by decide)
      exact q_cast (ih (by omega)) (gLe_c rfl (gLe_c rfl (gLe_c rfl (gLe_c rfl (gLe_c rfl (gLe_n (gLe_n (gLe_n (gLe_n gLe_0))))))))) (by rw [sI_sI, sI_s]; exact congrArg (sI M m) (cpF_s (fun _ => -1) _ i))
  exact q_cast (K3 0 (by omega)) (gLe_c rfl (gLe_c rfl (gLe_c rfl (gLe_c rfl (gLe_c rfl (gLe_n (gLe_n (gLe_n (gLe_n gLe_0))))))))) (by rw [cpF_0, sI_id])
