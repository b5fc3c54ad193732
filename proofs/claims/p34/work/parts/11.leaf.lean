def cntN (P : Nat → Bool) : Nat → Nat
  | 0 => 0
  | n + 1 => cntN P n + (if P n = true then 1 else 0)
theorem cntN_s (P : Nat → Bool) (n : Nat) : cntN P (n + 1) = cntN P n + (if P n = true then 1 else 0) := rfl
theorem cnt_t {P : Nat → Bool} {n : Nat} (h : P n = true) : cntN P (n + 1) = cntN P n + 1 := by rw [cntN_s, if_pos h]
theorem cnt_f {P : Nat → Bool} {n : Nat} (h : P n = false) : cntN P (n + 1) = cntN P n := by show cntN P n + _ = _; rw [if_neg (by rw [h]; decide)]; rfl
theorem cnt_le (P : Nat → Bool) (n : Nat) : cntN P n ≤ n := by
  induction n with
  | zero => exact Nat.le_refl _
  | succ n ih => rw [cntN_s]; split <;> omega
theorem cnt_congr {P R : Nat → Bool} {n : Nat} (h : ∀ i, i < n → P i = R i) : cntN P n = cntN R n := by
  induction n with
  | zero => rfl
  | succ n ih => rw [cntN_s, cntN_s, ih (fun i hi => h i (by omega)), h n (by omega)]
theorem cnt_zero {P : Nat → Bool} {n : Nat} : cntN P n = 0 ↔ ∀ i, i < n → P i = false := by
  induction n with
  | zero => exact ⟨fun _ i hi => absurd hi (by omega), fun _ => rfl⟩
  | succ n ih =>
    constructor
    · intro h i hi
      rw [cntN_s] at h
      by_cases c : i = n
      · subst c
        cases hp : P i with
        | false => rfl
        | true => rw [if_pos hp] at h; omega
      · exact ih.mp (by omega) i (by omega)
    · intro h
      rw [cntN_s, ih.mpr (fun i hi => h i (by omega)), if_neg (by rw [h n (by omega)]; decide)]
def cpF (s d : Nat → Int32) (i : Nat) : Nat → Int32 := fun j => if j < i then s j else d j
theorem cpF_0 (s d : Nat → Int32) : cpF s d 0 = d := rfl
theorem cpF_s (s d : Nat → Int32) (i : Nat) : upd (cpF s d i) i (s i) = cpF s d (i + 1) := by
  funext j
  unfold upd cpF
  by_cases c : j = i
  · subst c
    simp
  · by_cases c2 : j < i
    · simp [c, c2, Nat.lt_succ_of_lt c2]
    · simp [c, c2, show ¬ j < i + 1 by omega]
theorem cpF_lt {s d : Nat → Int32} {i j : Nat} (h : j < i) : cpF s d i j = s j := if_pos h
theorem upd_s (f : Nat → Int32) (k : Nat) (x : Int32) : upd f k x k = x := if_pos rfl
theorem upd_n (f : Nat → Int32) {k j : Nat} (x : Int32) (h : j ≠ k) : upd f k x j = f j := if_neg h
/-- digits of a content, the last one first -/
def dg (a k : Nat) : Nat := a / 10 ^ k % 10
def like (a b : Nat) : Nat := cntN (fun k => decide (dg a k = dg b k)) 4
/-- what both sides make of a part: of three numbers -/
def chgN (b o t : Nat) : Option Nat := if o = b then some t else if t = b then some o else if t = o then some o else none
def mrgN (a b c : Nat) : Nat → Option Nat
  | 0 => some 0
  | k + 1 => match mrgN a b c k, chgN (dg a k) (dg b k) (dg c k) with
    | some m, some d => some (m + d * 10 ^ k)
    | _, _ => none
theorem dg_lt (a k : Nat) : dg a k < 10 := Nat.mod_lt _ (by decide)
theorem mrg_s {a b c k m d : Nat} (h1 : mrgN a b c k = some m) (h2 : chgN (dg a k) (dg b k) (dg c k) = some d) : mrgN a b c (k + 1) = some (m + d * 10 ^ k) := by
  show (match mrgN a b c k, chgN (dg a k) (dg b k) (dg c k) with
    | some m, some d => some (m + d * 10 ^ k)
    | _, _ => none) = _
  rw [h1, h2]
theorem mrg_n {a b c k : Nat} (h : mrgN a b c k = none ∨ chgN (dg a k) (dg b k) (dg c k) = none) : mrgN a b c (k + 1) = none := by
  show (match mrgN a b c k, chgN (dg a k) (dg b k) (dg c k) with
    | some m, some d => some (m + d * 10 ^ k)
    | _, _ => none) = _
  rcases h with h | h
  · rw [h]
  · rw [h]
    cases mrgN a b c k <;> rfl
theorem mrg_none {a b c k : Nat} (h : mrgN a b c k = none) : ∀ j, mrgN a b c (k + j) = none := by
  intro j
  induction j with
  | zero => exact h
  | succ j ih => exact mrg_n (Or.inl ih)
theorem chg_lt {b o t d B : Nat} (h : chgN b o t = some d) (ho : o < B) (ht : t < B) : d < B := by
  unfold chgN at h
  split at h
  · cases h; exact ht
  · split at h
    · cases h; exact ho
    · split at h
      · cases h; exact ho
      · cases h
theorem pow_s (a i : Nat) : a / 10 ^ i / 10 = a / 10 ^ (i + 1) := by rw [Nat.div_div_eq_div_mul, Nat.pow_succ]
theorem div_lt (a i : Nat) (h : a < 10000) : a / 10 ^ i < 2 ^ 31 := Nat.lt_of_le_of_lt (Nat.div_le_self _ _) (by omega)
section QD
variable {G : gG} {X : gX} {own : String} {cc : ByteArray} {nL : Nat} {R : Room} {k n pc : Nat} {lv lv' : List (Option Value)} {st : List Value} {M M' : gMem}
theorem q_cast (h : Q G X k n pc lv' st M') (h1 : gLe lv' lv) (h2 : M = M') : Q G X k n pc lv st M := by
  rw [h2]
  exact j_sub h1 h
theorem q_irem (C : gC G X own cc nL R) {a d : Nat} (ha : a < 2 ^ 31) (h0 : 0 < d) (hd : d < 2 ^ 31) (dd : decode cc pc = .ok (.irem, 1)) (kk : Q G X k n (pc + 1) lv (.int (nI (a % d)) :: st) M) : Q G X k n pc lv (.int (nI d) :: .int (nI a) :: st) M :=
  j_irem C dd (nI_ne0 h0 hd) (by rw [pk_rem ha h0 hd]; exact kk)
theorem q_idiv (C : gC G X own cc nL R) {a d : Nat} (ha : a < 2 ^ 31) (h0 : 0 < d) (hd : d < 2 ^ 31) (dd : decode cc pc = .ok (.idiv, 1)) (kk : Q G X k n (pc + 1) lv (.int (nI (a / d)) :: st) M) : Q G X k n pc lv (.int (nI d) :: .int (nI a) :: st) M :=
  j_idiv C dd (nI_ne0 h0 hd) (by rw [pk_div ha h0 hd]; exact kk)
theorem q_iadd (C : gC G X own cc nL R) {a b : Nat} (dd : decode cc pc = .ok (.iadd, 1)) (kk : Q G X k n (pc + 1) lv (.int (nI (a + b)) :: st) M) : Q G X k n pc lv (.int (nI b) :: .int (nI a) :: st) M :=
  j_iadd C dd (by rw [nI_add]; exact kk)
theorem q_imul (C : gC G X own cc nL R) {a b : Nat} (dd : decode cc pc = .ok (.imul, 1)) (kk : Q G X k n (pc + 1) lv (.int (nI (a * b)) :: st) M) : Q G X k n pc lv (.int (nI b) :: .int (nI a) :: st) M :=
  j_imul C dd (by rw [pk_mul]; exact kk)
theorem q_isub (C : gC G X own cc nL R) {a b : Nat} (hb : b ≤ a) (dd : decode cc pc = .ok (.isub, 1)) (kk : Q G X k n (pc + 1) lv (.int (nI (a - b)) :: st) M) : Q G X k n pc lv (.int (nI b) :: .int (nI a) :: st) M :=
  j_isub C dd (by rw [pk_sub hb]; exact kk)
end QD
set_option maxHeartbeats 4000000 in
set_option maxRecDepth 100000 in
theorem sp_X4_at (G : gG) (M : gMem) {t k : Nat} (ht : gTr t) (hk : k < 8) : SpR G mX4_at (gRm 0 0) [.ref (gb G + t), .int (nI k)] M (some (.int (M.1 (t + 1) k))) M := by
  refine Sp.of (by decide +kernel) (Nat.le_of_ble_eq_true rfl) (fun X C CM => ?_)
  have C : gC G X RX4 cX4_at 2 (gRm 0 0) := C
  refine j_iload_n C dX4_at_0 rfl ?_
  refine j_if_lt C 22 dX4_at_1 (fun h => absurd h (nI_pos (by omega))) (fun _ => ?_) (by decide)
  refine j_iload_n C dX4_at_4 rfl ?_
  refine j_aload_n C dX4_at_5 rfl ?_
  refine q_get C fX4 0 (ht).1 (gTr_lt (ht)) (by decide) lf_X4_9 rfl (gFs_tr0 (ht)) dX4_at_6 ?_
  refine q_alen C (ht).2.1 (ht).2.2.1 dX4_at_9 ?_
  refine q_icmp_ge C 22 dX4_at_10 (by decide) (by omega) (by omega) (fun h10 => ?_) (fun h10 => ?_)
  · omega
  · refine j_aload_n C dX4_at_13 rfl ?_
    refine q_get C fX4 0 (ht).1 (gTr_lt (ht)) (by decide) lf_X4_9 rfl (gFs_tr0 (ht)) dX4_at_14 ?_
    refine j_iload_n C dX4_at_17 rfl ?_
    refine q_iald C (ht).2.1 (ht).2.2.1 (by decide) (by omega) dX4_at_18 ?_
    refine j_goto C 23 dX4_at_19 ?_ (by decide)
    exact q_iret C CM rfl (by decide) (by decide) dX4_at_23 rfl rfl
set_option maxHeartbeats 4000000 in
set_option maxRecDepth 100000 in
theorem sp_X4_put (G : gG) (M : gMem) {t k : Nat} {v : Int32} (ht : gTr t) (hk : k < 8) : SpR G mX4_put (gRm 0 0) [.ref (gb G + t), .int (nI k), .int v] M (none) (sI M (t + 1) (upd (M.1 (t + 1)) k v)) := by
  refine Sp.of (by decide +kernel) (Nat.le_of_ble_eq_true rfl) (fun X C CM => ?_)
  have C : gC G X RX4 cX4_put 3 (gRm 0 0) := C
  refine j_iload_n C dX4_put_0 rfl ?_
  refine j_if_lt C 20 dX4_put_1 (fun h => absurd h (nI_pos (by omega))) (fun _ => ?_) (by decide)
  refine j_iload_n C dX4_put_4 rfl ?_
  refine j_aload_n C dX4_put_5 rfl ?_
  refine q_get C fX4 0 (ht).1 (gTr_lt (ht)) (by decide) lf_X4_9 rfl (gFs_tr0 (ht)) dX4_put_6 ?_
  refine q_alen C (ht).2.1 (ht).2.2.1 dX4_put_9 ?_
  refine q_icmp_ge C 20 dX4_put_10 (by decide) (by omega) (by omega) (fun h10 => ?_) (fun h10 => ?_)
  · omega
  · refine j_aload_n C dX4_put_13 rfl ?_
    refine q_get C fX4 0 (ht).1 (gTr_lt (ht)) (by decide) lf_X4_9 rfl (gFs_tr0 (ht)) dX4_put_14 ?_
    refine j_iload_n C dX4_put_17 rfl ?_
    refine j_iload_n C dX4_put_18 rfl ?_
    refine q_iast C (ht).2.1 (ht).2.2.1 (by decide) (by omega) dX4_put_19 ?_
    exact q_vret C CM rfl (by decide) (by decide) dX4_put_20 rfl
set_option maxHeartbeats 4000000 in
set_option maxRecDepth 100000 in
theorem sp_X4_copy (G : gG) (M : gMem) {t u : Nat} (ht : gTr t) (hu : gTr u) (hn : u ≠ t) : SpR G mX4_copy (gRm 1 0) [.ref (gb G + t), .ref (gb G + u)] M (none) (sI M (t + 1) (cpF (M.1 (u + 1)) (M.1 (t + 1)) 8)) := by
  refine Sp.of (by decide +kernel) (Nat.le_of_ble_eq_true rfl) (fun X C CM => ?_)
  have C : gC G X RX4 cX4_copy 3 (gRm 1 0) := C
  refine j_iconst C (v := nI 0) dX4_copy_0 rfl ?_
  refine j_istore_n C dX4_copy_1 (by decide) rfl ?_
  have K2 : ∀ i, i ≤ 8 → Q G X 0 0 2 [some (.ref (gb G + t)), some (.ref (gb G + u)), some (.int (nI i))] [] ((sI M (t + 1) (cpF (M.1 (u + 1)) (M.1 (t + 1)) i))) := by
    refine g_up _ _ (fun i hi ih => ?_)
    refine j_iload_n C dX4_copy_2 rfl ?_
    refine j_aload_n C dX4_copy_3 rfl ?_
    refine q_get C fX4 0 (ht).1 (gTr_lt (ht)) (by decide) lf_X4_9 rfl (gFs_tr0 (ht)) dX4_copy_4 ?_
    refine q_alen C (ht).2.1 (ht).2.2.1 dX4_copy_7 ?_
    refine q_icmp_ge C 28 dX4_copy_8 (by decide) (by omega) (by omega) (fun h8 => ?_) (fun h8 => ?_)
    · exact q_vret C CM rfl (by decide) (by decide) dX4_copy_28 (by rw [show i = 8 by omega])
    · refine j_aload_n C dX4_copy_11 rfl ?_
      refine q_get C fX4 0 (ht).1 (gTr_lt (ht)) (by decide) lf_X4_9 rfl (gFs_tr0 (ht)) dX4_copy_12 ?_
      refine j_iload_n C dX4_copy_15 rfl ?_
      refine j_aload_n C dX4_copy_16 rfl ?_
      refine j_iload_n C dX4_copy_17 rfl ?_
      refine q_callV C (sp_X4_at G _ hu h8) vX4_at lk_X4_15 (hu).1 (gTr_lt (hu)) rfl rfl (Nat.le_of_ble_eq_true rfl) (by decide) dX4_copy_18 ?_
      refine q_iast C (ht).2.1 (ht).2.2.1 (by decide) (by omega) dX4_copy_21 ?_
      refine q_iinc C dX4_copy_22 rfl (by decide) rfl ?_
      refine j_goto C 2 dX4_copy_25 ?_ (by decide)
      exact q_cast (ih (by omega)) (gLe_c rfl (gLe_c rfl (gLe_c rfl gLe_0))) (by rw [sI_sI, sI_s, sI_n _ _ (show u + 1 ≠ t + 1 by omega), cpF_s])
  exact q_cast (K2 0 (by omega)) (gLe_c rfl (gLe_c rfl (gLe_c rfl gLe_0))) (by rw [cpF_0, sI_id])
set_option maxHeartbeats 4000000 in
set_option maxRecDepth 100000 in
theorem sp_X4_differences (G : gG) (M : gMem) {t u : Nat} (ht : gTr t) (hu : gTr u) : SpR G mX4_differences (gRm 1 0) [.ref (gb G + t), .ref (gb G + u)] M (some (.int (nI (cntN (fun p => decide (¬ M.1 (t + 1) p = M.1 (u + 1) p)) 8)))) M := by
  refine Sp.of (by decide +kernel) (Nat.le_of_ble_eq_true rfl) (fun X C CM => ?_)
  have C : gC G X RX4 cX4_differences 4 (gRm 1 0) := C
  refine j_iconst C (v := nI 0) dX4_differences_0 rfl ?_
  refine j_istore_n C dX4_differences_1 (by decide) rfl ?_
  refine j_iconst C (v := nI 0) dX4_differences_2 rfl ?_
  refine j_istore_n C dX4_differences_3 (by decide) rfl ?_
  have K4 : ∀ i, i ≤ 8 → Q G X 0 0 4 [some (.ref (gb G + t)), some (.ref (gb G + u)), some (.int (nI (cntN (fun p => decide (¬ M.1 (t + 1) p = M.1 (u + 1) p)) i))), some (.int (nI i))] [] (M) := by
    refine g_up _ _ (fun i hi ih => ?_)
    refine j_iload_n C dX4_differences_4 rfl ?_
    refine j_aload_n C dX4_differences_5 rfl ?_
    refine q_get C fX4 0 (ht).1 (gTr_lt (ht)) (by decide) lf_X4_9 rfl (gFs_tr0 (ht)) dX4_differences_6 ?_
    refine q_alen C (ht).2.1 (ht).2.2.1 dX4_differences_9 ?_
    refine q_icmp_ge C 36 dX4_differences_10 (by decide) (by omega) (by omega) (fun h10 => ?_) (fun h10 => ?_)
    · refine j_iload_n C dX4_differences_36 rfl ?_
      exact q_iret C CM rfl (by decide) (by decide) dX4_differences_37 (by rw [show i = 8 by omega]) rfl
    · refine j_aload_n C dX4_differences_13 rfl ?_
      refine q_get C fX4 0 (ht).1 (gTr_lt (ht)) (by decide) lf_X4_9 rfl (gFs_tr0 (ht)) dX4_differences_14 ?_
      refine j_iload_n C dX4_differences_17 rfl ?_
      refine q_iald C (ht).2.1 (ht).2.2.1 (by decide) (by omega) dX4_differences_18 ?_
      refine j_aload_n C dX4_differences_19 rfl ?_
      refine j_iload_n C dX4_differences_20 rfl ?_
      refine q_callV C (sp_X4_at G _ hu h10) vX4_at lk_X4_15 (hu).1 (gTr_lt (hu)) rfl rfl (Nat.le_of_ble_eq_true rfl) (by decide) dX4_differences_21 ?_
      refine j_icmp_eq C 30 dX4_differences_24 (fun h24 => ?_) (fun h24 => ?_) (by decide)
      · refine q_iinc C dX4_differences_30 rfl (by decide) rfl ?_
        refine j_goto C 4 dX4_differences_33 ?_ (by decide)
        exact q_cast (ih (by omega)) (gLe_c rfl (gLe_c rfl (gLe_c (by first | rw [cnt_t (decide_eq_true h24)] | rw [cnt_f (decide_eq_false (fun q => q h24))]) (gLe_c rfl gLe_0)))) (rfl)
      · refine q_iinc C dX4_differences_27 rfl (by decide) rfl ?_
        refine q_iinc C dX4_differences_30 rfl (by decide) rfl ?_
        refine j_goto C 4 dX4_differences_33 ?_ (by decide)
        exact q_cast (ih (by omega)) (gLe_c rfl (gLe_c rfl (gLe_c (by first | rw [cnt_t (decide_eq_true h24)] | rw [cnt_f (decide_eq_false (fun q => q h24))]) (gLe_c rfl gLe_0)))) (rfl)
  exact q_cast (K4 0 (by omega)) (gLe_c rfl (gLe_c rfl (gLe_c rfl (gLe_c rfl gLe_0)))) (rfl)
set_option maxHeartbeats 4000000 in
set_option maxRecDepth 100000 in
theorem sp_X2_likeness (G : gG) (M : gMem) {a b : Nat} (ha : a < 10000) (hb : b < 10000) : SpR G mX2_likeness (gRm 0 0) [.int (nI a), .int (nI b)] M (some (.int (nI (like a b)))) M := by
  refine Sp.of (by decide +kernel) (Nat.le_of_ble_eq_true rfl) (fun X C CM => ?_)
  have C : gC G X RX2 cX2_likeness 6 (gRm 0 0) := C
  refine j_iconst C (v := nI 0) dX2_likeness_0 rfl ?_
  refine j_istore_n C dX2_likeness_1 (by decide) rfl ?_
  refine j_iload_n C dX2_likeness_2 rfl ?_
  refine j_istore_n C dX2_likeness_3 (by decide) rfl ?_
  refine j_iload_n C dX2_likeness_4 rfl ?_
  refine j_istore C dX2_likeness_5 (by decide) rfl ?_
  refine j_iconst C (v := nI 0) dX2_likeness_7 rfl ?_
  refine j_istore C dX2_likeness_8 (by decide) rfl ?_
  have K10 : ∀ i, i ≤ 4 → Q G X 0 0 10 [some (.int (nI a)), some (.int (nI b)), some (.int (nI (cntN (fun k => decide (dg a k = dg b k)) i))), some (.int (nI (a / 10 ^ i))), some (.int (nI (b / 10 ^ i))), some (.int (nI i))] [] (M) := by
    refine g_up _ _ (fun i hi ih => ?_)
    refine j_iload C dX2_likeness_10 rfl ?_
    refine j_iconst C (v := nI 4) dX2_likeness_12 rfl ?_
    refine q_icmp_ge C 49 dX2_likeness_13 (by decide) (by omega) (by omega) (fun h13 => ?_) (fun h13 => ?_)
    · refine j_iload_n C dX2_likeness_49 rfl ?_
      exact q_iret C CM rfl (by decide) (by decide) dX2_likeness_50 (by rw [show i = 4 by omega]; rfl) rfl
    · refine j_iload_n C dX2_likeness_16 rfl ?_
      refine j_bipush C (v := nI 10) dX2_likeness_17 rfl ?_
      refine q_irem C (div_lt a i ha) (by decide) (by decide) dX2_likeness_19 ?_
      refine j_iload C dX2_likeness_20 rfl ?_
      refine j_bipush C (v := nI 10) dX2_likeness_22 rfl ?_
      refine q_irem C (div_lt b i hb) (by decide) (by decide) dX2_likeness_24 ?_
      have g1 : a / 10 ^ i % 10 < 10 := Nat.mod_lt _ (by decide)
      have g2 : b / 10 ^ i % 10 < 10 := Nat.mod_lt _ (by decide)
      refine q_icmp_ne C 31 dX2_likeness_25 (by decide) (by omega) (by omega) (fun h25 => ?_) (fun h25 => ?_)
      · refine j_iload_n C dX2_likeness_31 rfl ?_
        refine j_bipush C (v := nI 10) dX2_likeness_32 rfl ?_
        refine q_idiv C (div_lt a i ha) (by decide) (by decide) dX2_likeness_34 ?_
        refine j_istore_n C dX2_likeness_35 (by decide) rfl ?_
        refine j_iload C dX2_likeness_36 rfl ?_
        refine j_bipush C (v := nI 10) dX2_likeness_38 rfl ?_
        refine q_idiv C (div_lt b i hb) (by decide) (by decide) dX2_likeness_40 ?_
        refine j_istore C dX2_likeness_41 (by decide) rfl ?_
        refine q_iinc C dX2_likeness_43 rfl (by decide) rfl ?_
        refine j_goto C 10 dX2_likeness_46 ?_ (by decide)
        exact q_cast (ih (by omega)) (gLe_c rfl (gLe_c rfl (gLe_c (by first | rw [cnt_t (decide_eq_true h25)] | rw [cnt_f (decide_eq_false h25)]) (gLe_c (by rw [pow_s]) (gLe_c (by rw [pow_s]) (gLe_c rfl gLe_0)))))) (rfl)
      · refine q_iinc C dX2_likeness_28 rfl (by decide) rfl ?_
        refine j_iload_n C dX2_likeness_31 rfl ?_
        refine j_bipush C (v := nI 10) dX2_likeness_32 rfl ?_
        refine q_idiv C (div_lt a i ha) (by decide) (by decide) dX2_likeness_34 ?_
        refine j_istore_n C dX2_likeness_35 (by decide) rfl ?_
        refine j_iload C dX2_likeness_36 rfl ?_
        refine j_bipush C (v := nI 10) dX2_likeness_38 rfl ?_
        refine q_idiv C (div_lt b i hb) (by decide) (by decide) dX2_likeness_40 ?_
        refine j_istore C dX2_likeness_41 (by decide) rfl ?_
        refine q_iinc C dX2_likeness_43 rfl (by decide) rfl ?_
        refine j_goto C 10 dX2_likeness_46 ?_ (by decide)
        exact q_cast (ih (by omega)) (gLe_c rfl (gLe_c rfl (gLe_c (by first | rw [cnt_t (decide_eq_true h25)] | rw [cnt_f (decide_eq_false h25)]) (gLe_c (by rw [pow_s]) (gLe_c (by rw [pow_s]) (gLe_c rfl gLe_0)))))) (rfl)
  exact q_cast (K10 0 (by omega)) (gLe_c rfl (gLe_c rfl (gLe_c rfl (gLe_c (by rw [Nat.pow_zero, Nat.div_one]) (gLe_c (by rw [Nat.pow_zero, Nat.div_one]) (gLe_c rfl gLe_0)))))) (rfl)
set_option maxHeartbeats 4000000 in
set_option maxRecDepth 100000 in
theorem sp_X2_changed (G : gG) (M : gMem) {b o t : Nat} (hb : b < 2 ^ 31) (ho : o < 2 ^ 31) (ht : t < 2 ^ 31) : SpR G mX2_changed (gRm 0 0) [.int (nI b), .int (nI o), .int (nI t)] M (some (.int (oI (chgN b o t)))) M := by
  refine Sp.of (by decide +kernel) (Nat.le_of_ble_eq_true rfl) (fun X C CM => ?_)
  have C : gC G X RX2 cX2_changed 3 (gRm 0 0) := C
  refine j_iload_n C dX2_changed_0 rfl ?_
  refine j_iload_n C dX2_changed_1 rfl ?_
  refine q_icmp_ne C 7 dX2_changed_2 (by decide) (by omega) (by omega) (fun h2 => ?_) (fun h2 => ?_)
  · refine j_iload_n C dX2_changed_7 rfl ?_
    refine j_iload_n C dX2_changed_8 rfl ?_
    refine q_icmp_eq C 17 dX2_changed_9 (by decide) (by omega) (by omega) (fun h9 => ?_) (fun h9 => ?_)
    · refine j_iload_n C dX2_changed_17 rfl ?_
      refine j_goto C 22 dX2_changed_18 ?_ (by decide)
      exact q_iret C CM rfl (by decide) (by decide) dX2_changed_22 (by unfold chgN; simp only [oI, *]; first | rfl | (split <;> first | rfl | omega) | simp_all) rfl
    · refine j_iload_n C dX2_changed_12 rfl ?_
      refine j_iload_n C dX2_changed_13 rfl ?_
      refine q_icmp_ne C 21 dX2_changed_14 (by decide) (by omega) (by omega) (fun h14 => ?_) (fun h14 => ?_)
      · refine j_iconst C (v := -1) dX2_changed_21 rfl ?_
        exact q_iret C CM rfl (by decide) (by decide) dX2_changed_22 (by unfold chgN; simp only [oI, *]; first | rfl | (split <;> first | rfl | omega) | simp_all) rfl
      · refine j_iload_n C dX2_changed_17 rfl ?_
        refine j_goto C 22 dX2_changed_18 ?_ (by decide)
        exact q_iret C CM rfl (by decide) (by decide) dX2_changed_22 (by unfold chgN; simp only [oI, *]; first | rfl | (split <;> first | rfl | omega) | simp_all) rfl
  · refine j_iload_n C dX2_changed_5 rfl ?_
    exact q_iret C CM rfl (by decide) (by decide) dX2_changed_6 (by rw [show chgN b o t = some t from if_pos (by omega)]; rfl) rfl
set_option maxHeartbeats 4000000 in
set_option maxRecDepth 100000 in
theorem sp_X2_mergeContents (G : gG) (M : gMem) {a b c : Nat} (ha : a < 10000) (hb : b < 10000) (hc : c < 10000) : SpR G mX2_mergeContents (gRm 1 0) [.int (nI a), .int (nI b), .int (nI c)] M (some (.int (oI (mrgN a b c 4)))) M := by
  refine Sp.of (by decide +kernel) (Nat.le_of_ble_eq_true rfl) (fun X C CM => ?_)
  have C : gC G X RX2 cX2_mergeContents 10 (gRm 1 0) := C
  refine j_iload_n C dX2_mergeContents_0 rfl ?_
  refine j_istore_n C dX2_mergeContents_1 (by decide) rfl ?_
  refine j_iload_n C dX2_mergeContents_2 rfl ?_
  refine j_istore C dX2_mergeContents_3 (by decide) rfl ?_
  refine j_iload_n C dX2_mergeContents_5 rfl ?_
  refine j_istore C dX2_mergeContents_6 (by decide) rfl ?_
  refine j_iconst C (v := nI 0) dX2_mergeContents_8 rfl ?_
  refine j_istore C dX2_mergeContents_9 (by decide) rfl ?_
  refine j_iconst C (v := nI 1) dX2_mergeContents_11 rfl ?_
  refine j_istore C dX2_mergeContents_12 (by decide) rfl ?_
  refine j_iconst C (v := nI 0) dX2_mergeContents_14 rfl ?_
  refine j_istore C dX2_mergeContents_15 (by decide) rfl ?_
  have K17 : ∀ i, i ≤ 4 → ∀ m, mrgN a b c i = some m → Q G X 0 0 17 [some (.int (nI a)), some (.int (nI b)), some (.int (nI c)), some (.int (nI (a / 10 ^ i))), some (.int (nI (b / 10 ^ i))), some (.int (nI (c / 10 ^ i))), some (.int (nI m)), some (.int (nI (10 ^ i))), some (.int (nI i)), none] [] (M) := by
    refine g_up _ _ (fun i hi ih => ?_)
    intro m hm
    refine j_iload C dX2_mergeContents_17 rfl ?_
    refine j_iconst C (v := nI 4) dX2_mergeContents_19 rfl ?_
    refine q_icmp_ge C 92 dX2_mergeContents_20 (by decide) (by omega) (by omega) (fun h20 => ?_) (fun h20 => ?_)
    · refine j_iload C dX2_mergeContents_92 rfl ?_
      exact q_iret C CM rfl (by decide) (by decide) dX2_mergeContents_94 (by rw [show i = 4 by omega] at hm; rw [hm]; rfl) rfl
    · refine j_iload_n C dX2_mergeContents_23 rfl ?_
      refine j_bipush C (v := nI 10) dX2_mergeContents_24 rfl ?_
      refine q_irem C (div_lt a i ha) (by decide) (by decide) dX2_mergeContents_26 ?_
      refine j_iload C dX2_mergeContents_27 rfl ?_
      refine j_bipush C (v := nI 10) dX2_mergeContents_29 rfl ?_
      refine q_irem C (div_lt b i hb) (by decide) (by decide) dX2_mergeContents_31 ?_
      refine j_iload C dX2_mergeContents_32 rfl ?_
      refine j_bipush C (v := nI 10) dX2_mergeContents_34 rfl ?_
      refine q_irem C (div_lt c i hc) (by decide) (by decide) dX2_mergeContents_36 ?_
      refine q_callS C (sp_X2_changed G _ (b := dg a i) (o := dg b i) (t := dg c i) (Nat.lt_trans (dg_lt _ _) (by decide)) (Nat.lt_trans (dg_lt _ _) (by decide)) (Nat.lt_trans (dg_lt _ _) (by decide))) vX2_changed lk_X2_9 rfl rfl (Nat.le_of_ble_eq_true rfl) (by decide) dX2_mergeContents_37 ?_
      refine j_istore C dX2_mergeContents_40 (by decide) rfl ?_
      refine j_iload C dX2_mergeContents_42 rfl ?_
      refine j_iconst C (v := -1) dX2_mergeContents_44 rfl ?_
      refine q_icmp_neN C 50 dX2_mergeContents_45 (by decide) (fun v hv => Nat.lt_trans (chg_lt hv (dg_lt _ _) (dg_lt _ _)) (by decide)) (fun v45 h45 => ?_) (fun h45 => ?_)
      · rw [h45]
        refine j_iload C dX2_mergeContents_50 rfl ?_
        refine j_iload C dX2_mergeContents_52 rfl ?_
        refine j_iload C dX2_mergeContents_54 rfl ?_
        refine q_imul C dX2_mergeContents_56 ?_
        refine q_iadd C dX2_mergeContents_57 ?_
        refine j_istore C dX2_mergeContents_58 (by decide) rfl ?_
        refine j_iload C dX2_mergeContents_60 rfl ?_
        refine j_bipush C (v := nI 10) dX2_mergeContents_62 rfl ?_
        refine q_imul C dX2_mergeContents_64 ?_
        refine j_istore C dX2_mergeContents_65 (by decide) rfl ?_
        refine j_iload_n C dX2_mergeContents_67 rfl ?_
        refine j_bipush C (v := nI 10) dX2_mergeContents_68 rfl ?_
        refine q_idiv C (div_lt a i ha) (by decide) (by decide) dX2_mergeContents_70 ?_
        refine j_istore_n C dX2_mergeContents_71 (by decide) rfl ?_
        refine j_iload C dX2_mergeContents_72 rfl ?_
        refine j_bipush C (v := nI 10) dX2_mergeContents_74 rfl ?_
        refine q_idiv C (div_lt b i hb) (by decide) (by decide) dX2_mergeContents_76 ?_
        refine j_istore C dX2_mergeContents_77 (by decide) rfl ?_
        refine j_iload C dX2_mergeContents_79 rfl ?_
        refine j_bipush C (v := nI 10) dX2_mergeContents_81 rfl ?_
        refine q_idiv C (div_lt c i hc) (by decide) (by decide) dX2_mergeContents_83 ?_
        refine j_istore C dX2_mergeContents_84 (by decide) rfl ?_
        refine q_iinc C dX2_mergeContents_86 rfl (by decide) rfl ?_
        refine j_goto C 17 dX2_mergeContents_89 ?_ (by decide)
        exact q_cast (ih (by omega) _ (mrg_s hm h45)) (gLe_c rfl (gLe_c rfl (gLe_c rfl (gLe_c (by rw [pow_s]) (gLe_c (by rw [pow_s]) (gLe_c (by rw [pow_s]) (gLe_c rfl (gLe_c (by rw [Nat.pow_succ]) (gLe_c rfl (gLe_n gLe_0)))))))))) (rfl)
      · refine j_iconst C (v := -1) dX2_mergeContents_48 rfl ?_
        exact q_iret C CM rfl (by decide) (by decide) dX2_mergeContents_49 (by rw [show mrgN a b c 4 = none from by have := mrg_none (mrg_n (Or.inr h45)) (3 - i); rwa [show i + 1 + (3 - i) = 4 by omega] at this]; rfl) rfl
  exact q_cast (K17 0 (by omega) 0 rfl) (gLe_c rfl (gLe_c rfl (gLe_c rfl (gLe_c (by rw [Nat.pow_zero, Nat.div_one]) (gLe_c (by rw [Nat.pow_zero, Nat.div_one]) (gLe_c (by rw [Nat.pow_zero, Nat.div_one]) (gLe_c rfl (gLe_c rfl (gLe_c rfl (gLe_n gLe_0)))))))))) (rfl)
