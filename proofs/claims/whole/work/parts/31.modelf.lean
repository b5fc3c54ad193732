def cmM (M : gMem) (x : Nat) (c : Int32) : gMem := sI (sI M 224 (upd (M.1 224) x c)) 225 (upd (M.1 225) x (M.1 225 x + nI 1))
theorem cm_came (M : gMem) (x c : Nat) : gCame 225 224 M (cmM M x (nI c)) x c := ⟨fun q => by
  unfold cmM
  rw [sI_s]
  rfl, fun q => by
  unfold cmM
  rw [sI_n _ _ (by decide), sI_s]
  rfl⟩
theorem cm_sc (M : gMem) (x : Nat) (c : Int32) : gSc 224 225 M (cmM M x c) := sc_trans (sc_sI M _ (by decide) (by decide)) (sc_sI _ _ (by decide) (by decide))
/-- the model's way to merge contents: the first digit first -/
def mrT (a b c : Nat) : Nat → Option Nat
  | 0 => some 0
  | k + 1 => match mrT a b c k, chgN (dg a (3 - k)) (dg b (3 - k)) (dg c (3 - k)) with
    | some m, some d => some (10 * m + d)
    | _, _ => none
theorem mrT_s (a b c k : Nat) : mrT a b c (k + 1) = (match mrT a b c k, chgN (dg a (3 - k)) (dg b (3 - k)) (dg c (3 - k)) with
    | some m, some d => some (10 * m + d)
    | _, _ => none) := rfl
theorem mrT_eq (a b c : Nat) : mrT a b c 4 = mrgN a b c 4 := by
  show (match (match (match (match (some 0 : Option Nat), chgN (dg a 3) (dg b 3) (dg c 3) with | some m, some d => some (10 * m + d) | _, _ => none), chgN (dg a 2) (dg b 2) (dg c 2) with | some m, some d => some (10 * m + d) | _, _ => none), chgN (dg a 1) (dg b 1) (dg c 1) with | some m, some d => some (10 * m + d) | _, _ => none), chgN (dg a 0) (dg b 0) (dg c 0) with | some m, some d => some (10 * m + d) | _, _ => none) = (match (match (match (match (some 0 : Option Nat), chgN (dg a 0) (dg b 0) (dg c 0) with | some m, some d => some (m + d * 10 ^ 0) | _, _ => none), chgN (dg a 1) (dg b 1) (dg c 1) with | some m, some d => some (m + d * 10 ^ 1) | _, _ => none), chgN (dg a 2) (dg b 2) (dg c 2) with | some m, some d => some (m + d * 10 ^ 2) | _, _ => none), chgN (dg a 3) (dg b 3) (dg c 3) with | some m, some d => some (m + d * 10 ^ 3) | _, _ => none)
  cases chgN (dg a 0) (dg b 0) (dg c 0) <;> cases chgN (dg a 1) (dg b 1) (dg c 1) <;> cases chgN (dg a 2) (dg b 2) (dg c 2) <;> cases chgN (dg a 3) (dg b 3) (dg c 3) <;> first
    | rfl
    | (show some _ = some _; congr 1; omega)
theorem jI_neg {o : Option Nat} (h : jI o < 0) (hb : ∀ x, o = some x → x < 2 ^ 31) : o = none := by
  cases o with
  | none => rfl
  | some x => exact absurd h (nI_pos (hb x rfl))
theorem jI_pos {o : Option Nat} (h : ¬ jI o < 0) : ∃ x, o = some x := by
  cases o with
  | none => exact absurd (by decide) h
  | some x => exact ⟨x, rfl⟩
theorem chg_b {b o t : Nat} (ho : o < 10000) (ht : t < 10000) : ∀ x, chgN b o t = some x → x < 2 ^ 31 := fun x h => Nat.lt_trans (chg_lt h ho ht) (by decide)
theorem dg_b (a k : Nat) : dg a k < 2 ^ 31 := Nat.lt_trans (dg_lt a k) (by decide)
theorem mrT_n1 {a b c k : Nat} (h : mrT a b c k = none) : mrT a b c (k + 1) = none := by rw [mrT_s, h]
theorem mrT_n2 {a b c k : Nat} (h : chgN (dg a (3 - k)) (dg b (3 - k)) (dg c (3 - k)) = none) : mrT a b c (k + 1) = none := by
  rw [mrT_s, h]
  cases mrT a b c k <;> rfl
theorem mrT_t {a b c k m d : Nat} (h : mrT a b c k = some m) (h2 : chgN (dg a (3 - k)) (dg b (3 - k)) (dg c (3 - k)) = some d) : mrT a b c (k + 1) = some (10 * m + d) := by rw [mrT_s, h, h2]
theorem mrT_acc {a b c k : Nat} {x : Int32} (hx : ∀ m, mrT a b c k = some m → x = nI m) : ∀ m, mrT a b c (k + 1) = some m → nI 10 * x + jI (chgN (dg a (3 - k)) (dg b (3 - k)) (dg c (3 - k))) = nI m := fun m hm => by
  cases h1 : mrT a b c k with
  | none => rw [mrT_n1 h1] at hm; cases hm
  | some m1 =>
    cases h2 : chgN (dg a (3 - k)) (dg b (3 - k)) (dg c (3 - k)) with
    | none => rw [mrT_n2 h2] at hm; cases hm
    | some d =>
      rw [mrT_t h1 h2] at hm
      cases hm
      rw [hx m1 h1]
      show nI 10 * nI m1 + nI d = _
      rw [pk_mul, nI_add]
theorem fw_gone {t u v : Nat → Option Nat} {p : Nat} (hs : (t p).isSome = true) (h : moO t u p = none ∨ moO t v p = none) : (!flC t u v p) = (decide (moO t u p = moO t v p) || (decide (moO t u p = some p) && decide (u p = t p)) || (decide (moO t v p = some p) && decide (v p = t p))) := by
  rw [(fl_gone hs h).1, Bool.not_not]
  have pu : ∀ w : Nat → Option Nat, w p = t p → moO t w p = some p := fun w e => by
    unfold moO plO
    rw [e, if_pos hs]
  have nu : ∀ w : Nat → Option Nat, nuB t w (moves t w) p = ((moO t w p).isNone || decide (w p = t p)) := fun _ => rfl
  rw [nu u, nu v]
  rcases h with h | h
  · rw [h]
    have hu : ¬ u p = t p := fun e => by rw [pu u e] at h; cases h
    rw [decide_eq_false hu]
    cases e : moO t v p with
    | none => simp
    | some b =>
      by_cases ev : v p = t p
      · have := pu v ev
        rw [e] at this
        cases this
        simp [ev]
      · simp [ev]
  · rw [h]
    have hv : ¬ v p = t p := fun e => by rw [pu v e] at h; cases h
    rw [decide_eq_false hv]
    cases e : moO t u p with
    | none => simp
    | some b =>
      by_cases eu : u p = t p
      · have := pu u eu
        rw [e] at this
        cases this
        simp [eu]
      · simp [eu]
def gFlm (t u v : Nat → Option Nat) (p j k : Nat) (M M' : gMem) : Prop := gSc 224 225 M M' ∧ gAr t u v 225 224 M' (p + 1) j k
theorem fm_0 {t u v : Nat → Option Nat} {p j k : Nat} {M : gMem} (ha : gAr t u v 225 224 M p j k) (h : flA t u v p = none) : gFlm t u v p j k M M := ⟨sc_refl M, ar_E0 ha h⟩
theorem fm_a {t u v : Nat → Option Nat} {p j k x c : Nat} {M : gMem} (ha : gAr t u v 225 224 M p j k) (hx : x < 8) (h : flA t u v p = some (x, c)) : gFlm t u v p j k M (cmM M x (nI c)) := ⟨cm_sc M _ _, ar_E ha h hx (cm_came M x c)⟩
theorem nI_bI1 {b : Bool} (h : b = true) : nI 1 = bI b := by rw [h]; rfl
theorem nI_bI0 {b : Bool} (h : b = false) : nI 0 = bI b := by rw [h]; rfl
theorem q_st {G : gG} {X : gX} {k n pc : Nat} {lv lv' : List (Option Value)} {x y : Int32} {M : gMem} (h : Q G X k n pc lv' [.int y] M) (e : x = y) (h1 : gLe lv' lv) : Q G X k n pc lv [.int x] M := by
  rw [e]
  exact q_cast h h1 rfl
theorem gd_no {P : Bool} {a b c k : Nat} (h : (P && (mrT a b c k).isSome) = false) : (P && (mrT a b c (k + 1)).isSome) = false := by
  cases e : mrT a b c k with
  | none => rw [mrT_n1 e]; simp
  | some m => rw [e] at h; simp at h; rw [h]; rfl
theorem gd_n2 {P : Bool} {a b c k : Nat} (h : chgN (dg a (3 - k)) (dg b (3 - k)) (dg c (3 - k)) = none) : (P && (mrT a b c (k + 1)).isSome) = false := by
  rw [mrT_n2 h]; simp
theorem gd_ok {P : Bool} {a b c k : Nat} (h : (P && (mrT a b c k).isSome) = true) (h2 : ∃ x, chgN (dg a (3 - k)) (dg b (3 - k)) (dg c (3 - k)) = some x) : (P && (mrT a b c (k + 1)).isSome) = true := by
  obtain ⟨d, hd⟩ := h2
  simp only [Bool.and_eq_true] at h ⊢
  obtain ⟨m, hm⟩ := Option.isSome_iff_exists.mp h.2
  exact ⟨h.1, by rw [mrT_t hm hd]; rfl⟩
theorem gd_bad {o : Option Nat} {a b c i : Nat} (hi : i = 4) (h : (o.isSome && (mrT a b c i).isSome) = false) : o = none ∨ mrgN a b c 4 = none := by
  rw [hi, mrT_eq] at h
  cases o with
  | none => exact Or.inl rfl
  | some y =>
    right
    cases e : mrgN a b c 4 with
    | none => rfl
    | some m => rw [e] at h; cases h
set_option maxHeartbeats 4000000 in
set_option maxRecDepth 100000 in
theorem sp_X7_comes (G : gG) (M : gMem) {x : Nat} (hx : x < 8) (c : Int32) : SpR G mX7_comes (gRm 0 0) [.ref (gb G + 156), .int (nI x), .int c] M (none) (cmM M x c) := by
  refine Sp.of (by decide +kernel) (Nat.le_of_ble_eq_true rfl) (fun X C CM => ?_)
  have C : gC G X RX7 cX7_comes 3 (gRm 0 0) := C
  refine j_aload_n C dX7_comes_0 rfl ?_
  refine q_get C fX7 10 rfl (by decide) (by decide) lf_X7_37 rfl rfl dX7_comes_1 ?_
  refine j_iload_n C dX7_comes_4 rfl ?_
  refine j_iload_n C dX7_comes_5 rfl ?_
  refine q_iast C rfl (by decide) (by decide) (by omega) dX7_comes_6 ?_
  refine j_aload_n C dX7_comes_7 rfl ?_
  refine q_get C fX7 11 rfl (by decide) (by decide) lf_X7_40 rfl rfl dX7_comes_8 ?_
  refine j_iload_n C dX7_comes_11 rfl ?_
  refine j_dup2 C dX7_comes_12 rfl rfl ?_
  refine q_iald C rfl (by decide) (by decide) (by omega) dX7_comes_13 ?_
  refine j_iconst C (v := nI 1) dX7_comes_14 rfl ?_
  refine j_iadd C dX7_comes_15 ?_
  refine q_iast C rfl (by decide) (by decide) (by omega) dX7_comes_16 ?_
  exact q_vret C CM rfl (by decide) (by decide) dX7_comes_17 (by unfold cmM; rw [sI_n _ _ (show (225 : Nat) ≠ 224 by decide)])
set_option maxHeartbeats 4000000 in
set_option maxRecDepth 100000 in
theorem sp_X7_isNew (G : gG) (M : gMem) {a b m p : Nat} {t u mv : Nat → Option Nat} (ha : gKd a = (0, 8) ∧ a < 239) (hb : gKd b = (0, 8) ∧ b < 239) (hm : gKd m = (0, 8) ∧ m < 239) (hr : gRo M a t) (hs : gRo M b u) (hv : gRo M m mv) (ht : gTn t) (hu : gTn u) (hmv : ∀ p v, p < 8 → mv p = some v → v < 8) (hp : p < 8) : SpR G mX7_isNew (gRm 1 0) [.ref (gb G + a), .ref (gb G + b), .ref (gb G + m), .int (nI p)] M (some (.int (bI (cmB t u mv p)))) M := by
  refine Sp.of (by decide +kernel) (Nat.le_of_ble_eq_true rfl) (fun X C CM => ?_)
  have C : gC G X RX7 cX7_isNew 4 (gRm 1 0) := C
  refine j_aload_n C dX7_isNew_0 rfl ?_
  refine j_iload_n C dX7_isNew_1 rfl ?_
  refine q_iald C ha.1 ha.2 (by decide) (by omega) dX7_isNew_2 ?_
  rw [hr p hp]
  refine j_iconst C (v := -1) dX7_isNew_3 rfl ?_
  refine q_icmp_neN C 26 dX7_isNew_4 (by decide) (nI_lt8 ht hp) (fun v4 h4 => ?_) (fun h4 => ?_)
  · refine j_iconst C (v := nI 0) dX7_isNew_26 rfl ?_
    exact q_zret C CM rfl (by decide) (by decide) dX7_isNew_27 (by first | exact nI_bI0 (cm_f1 h4) | exact nI_bI0 (cm_f2 h11) | exact nI_bI0 (cm_f3 h19) | exact nI_bI1 (cm_tt h4 h11 h19)) rfl
  · refine j_aload_n C dX7_isNew_7 rfl ?_
    refine j_iload_n C dX7_isNew_8 rfl ?_
    refine q_iald C hb.1 hb.2 (by decide) (by omega) dX7_isNew_9 ?_
    rw [hs p hp]
    refine j_iconst C (v := -1) dX7_isNew_10 rfl ?_
    refine q_icmp_eqN C 26 dX7_isNew_11 (by decide) (nI_lt8 hu hp) (fun h11 => ?_) (fun v11 h11 => ?_)
    · refine j_iconst C (v := nI 0) dX7_isNew_26 rfl ?_
      exact q_zret C CM rfl (by decide) (by decide) dX7_isNew_27 (by first | exact nI_bI0 (cm_f1 h4) | exact nI_bI0 (cm_f2 h11) | exact nI_bI0 (cm_f3 h19) | exact nI_bI1 (cm_tt h4 h11 h19)) rfl
    · refine j_aload_n C dX7_isNew_14 rfl ?_
      refine j_iload_n C dX7_isNew_15 rfl ?_
      refine q_callS C (sp_X7_isTarget G M hm.1 hm.2 hv hmv hp) vX7_isTarget lk_X7_131 rfl rfl (Nat.le_of_ble_eq_true rfl) (by decide) dX7_isNew_16 ?_
      refine q_if_ne0 C 26 dX7_isNew_19 (by decide) (fun h19 => ?_) (fun h19 => ?_)
      · refine j_iconst C (v := nI 0) dX7_isNew_26 rfl ?_
        exact q_zret C CM rfl (by decide) (by decide) dX7_isNew_27 (by first | exact nI_bI0 (cm_f1 h4) | exact nI_bI0 (cm_f2 h11) | exact nI_bI0 (cm_f3 h19) | exact nI_bI1 (cm_tt h4 h11 h19)) rfl
      · refine j_iconst C (v := nI 1) dX7_isNew_22 rfl ?_
        refine j_goto C 27 dX7_isNew_23 ?_ (by decide)
        exact q_zret C CM rfl (by decide) (by decide) dX7_isNew_27 (by first | exact nI_bI0 (cm_f1 h4) | exact nI_bI0 (cm_f2 h11) | exact nI_bI0 (cm_f3 h19) | exact nI_bI1 (cm_tt h4 h11 h19)) rfl
set_option maxHeartbeats 4000000 in
set_option maxRecDepth 100000 in
theorem sp_X7_follows (G : gG) (M : gMem) {a b c p j k : Nat} {t u v : Nat → Option Nat} (ha : gKd a = (0, 8) ∧ a < 239) (hb : gKd b = (0, 8) ∧ b < 239) (hc : gKd c = (0, 8) ∧ c < 239) (hr : gRo M a t) (hsu : gRo M b u) (hsv : gRo M c v) (hm1 : gRo M 222 (moves t u)) (hm2 : gRo M 223 (moves t v)) (ht : gTn t) (hu : gTn u) (hv : gTn v) (hp : p < 8) (hs : (t p).isSome = true) (hA : gAr t u v 225 224 M p j k) : SpS G mX7_follows (gRm 2 0) [.ref (gb G + 156), .ref (gb G + a), .ref (gb G + b), .ref (gb G + c), .int (nI p)] M (some (.int (bI (!flC t u v p)))) (gFlm t u v p j k M) := by
  refine Sp.of (by decide +kernel) (Nat.le_of_ble_eq_true rfl) (fun X C CM => ?_)
  have C : gC G X RX7 cX7_follows 12 (gRm 2 0) := C
  refine j_aload_n C dX7_follows_0 rfl ?_
  refine j_aload_n C dX7_follows_1 rfl ?_
  refine q_get C fX7 8 rfl (by decide) (by decide) lf_X7_31 rfl rfl dX7_follows_2 ?_
  refine j_iload C dX7_follows_5 rfl ?_
  refine q_callS C (sp_X7_placeOf G M hb.1 hb.2 (b := 222) rfl (by decide) hsu hm1 hu hp) vX7_placeOf lk_X7_138 rfl rfl (Nat.le_of_ble_eq_true rfl) (by decide) dX7_follows_7 ?_
  rw [show plO u (moves t u) p = moO t u p from rfl]
  refine j_istore C dX7_follows_10 (by decide) rfl ?_
  refine j_aload_n C dX7_follows_12 rfl ?_
  refine j_aload_n C dX7_follows_13 rfl ?_
  refine q_get C fX7 9 rfl (by decide) (by decide) lf_X7_34 rfl rfl dX7_follows_14 ?_
  refine j_iload C dX7_follows_17 rfl ?_
  refine q_callS C (sp_X7_placeOf G M hc.1 hc.2 (b := 223) rfl (by decide) hsv hm2 hv hp) vX7_placeOf lk_X7_138 rfl rfl (Nat.le_of_ble_eq_true rfl) (by decide) dX7_follows_19 ?_
  rw [show plO v (moves t v) p = moO t v p from rfl]
  refine j_istore C dX7_follows_22 (by decide) rfl ?_
  refine j_iload C dX7_follows_24 rfl ?_
  refine j_iconst C (v := -1) dX7_follows_26 rfl ?_
  refine q_icmp_eqN C 36 dX7_follows_27 (by decide) (fun w hw => Nat.lt_trans (mv_some hw hp).1 (by decide)) (fun h27 => ?_) (fun v27 h27 => ?_)
  · refine j_iload C dX7_follows_36 rfl ?_
    refine j_iload C dX7_follows_38 rfl ?_
    refine j_icmp_ne C 47 dX7_follows_40 (fun h40 => ?_) (fun h40 => ?_) (by decide)
    · refine j_iconst C (v := nI 0) dX7_follows_47 rfl ?_
      have K48 : Q G X 0 0 48 [some (.ref (gb G + 156)), some (.ref (gb G + a)), some (.ref (gb G + b)), some (.ref (gb G + c)), some (.int (nI p)), some (.int (oI (moO t u p))), some (.int (oI (moO t v p))), none, none, none, none, none] [.int (bI (decide ((moO t u p) = (moO t v p))))] M := by
        skip
        refine j_istore C dX7_follows_48 (by decide) rfl ?_
        refine j_iload C dX7_follows_50 rfl ?_
        refine j_iload C dX7_follows_52 rfl ?_
        refine j_icmp_ne C 72 dX7_follows_54 (fun h54 => ?_) (fun h54 => ?_) (by decide)
        · refine j_iconst C (v := nI 0) dX7_follows_72 rfl ?_
          have K73 : Q G X 0 0 73 [some (.ref (gb G + 156)), some (.ref (gb G + a)), some (.ref (gb G + b)), some (.ref (gb G + c)), some (.int (nI p)), some (.int (oI (moO t u p))), some (.int (oI (moO t v p))), some (.int (bI (decide ((moO t u p) = (moO t v p))))), none, none, none, none] [.int (bI ((decide ((moO t u p) = some p) && decide (u p = t p))))] M := by
            skip
            refine j_istore C dX7_follows_73 (by decide) rfl ?_
            refine j_iload C dX7_follows_75 rfl ?_
            refine j_iload C dX7_follows_77 rfl ?_
            refine j_icmp_ne C 97 dX7_follows_79 (fun h79 => ?_) (fun h79 => ?_) (by decide)
            · refine j_iconst C (v := nI 0) dX7_follows_97 rfl ?_
              have K98 : Q G X 0 0 98 [some (.ref (gb G + 156)), some (.ref (gb G + a)), some (.ref (gb G + b)), some (.ref (gb G + c)), some (.int (nI p)), some (.int (oI (moO t u p))), some (.int (oI (moO t v p))), some (.int (bI (decide ((moO t u p) = (moO t v p))))), some (.int (bI (decide ((moO t u p) = some p) && decide (u p = t p)))), none, none, none] [.int (bI ((decide ((moO t v p) = some p) && decide (v p = t p))))] M := by
                skip
                refine j_istore C dX7_follows_98 (by decide) rfl ?_
                refine j_iload C dX7_follows_100 rfl ?_
                refine q_if_ne0 C 115 dX7_follows_102 (by decide) (fun h102 => ?_) (fun h102 => ?_)
                · refine j_iconst C (v := nI 1) dX7_follows_115 rfl ?_
                  refine j_goto C 120 dX7_follows_116 ?_ (by decide)
                  exact q_zretS C CM rfl (by decide) (by decide) dX7_follows_120 (by first | exact nI_bI1 (by rw [fw_gone hs (by first | exact Or.inl h27 | exact Or.inr h33), h102]; rfl) | exact nI_bI1 (by rw [fw_gone hs (by first | exact Or.inl h27 | exact Or.inr h33), h107, Bool.or_true]; rfl) | exact nI_bI1 (by rw [fw_gone hs (by first | exact Or.inl h27 | exact Or.inr h33), h112, Bool.or_true]) | exact nI_bI0 (by rw [fw_gone hs (by first | exact Or.inl h27 | exact Or.inr h33), h102, h107, h112]; rfl)) (fm_0 hA (fl_gone hs (by first | exact Or.inl h27 | exact Or.inr h33)).2)
                · refine j_iload C dX7_follows_105 rfl ?_
                  refine q_if_ne0 C 115 dX7_follows_107 (by decide) (fun h107 => ?_) (fun h107 => ?_)
                  · refine j_iconst C (v := nI 1) dX7_follows_115 rfl ?_
                    refine j_goto C 120 dX7_follows_116 ?_ (by decide)
                    exact q_zretS C CM rfl (by decide) (by decide) dX7_follows_120 (by first | exact nI_bI1 (by rw [fw_gone hs (by first | exact Or.inl h27 | exact Or.inr h33), h102]; rfl) | exact nI_bI1 (by rw [fw_gone hs (by first | exact Or.inl h27 | exact Or.inr h33), h107, Bool.or_true]; rfl) | exact nI_bI1 (by rw [fw_gone hs (by first | exact Or.inl h27 | exact Or.inr h33), h112, Bool.or_true]) | exact nI_bI0 (by rw [fw_gone hs (by first | exact Or.inl h27 | exact Or.inr h33), h102, h107, h112]; rfl)) (fm_0 hA (fl_gone hs (by first | exact Or.inl h27 | exact Or.inr h33)).2)
                  · refine j_iload C dX7_follows_110 rfl ?_
                    refine q_if_eq0 C 119 dX7_follows_112 (by decide) (fun h112 => ?_) (fun h112 => ?_)
                    · refine j_iconst C (v := nI 0) dX7_follows_119 rfl ?_
                      exact q_zretS C CM rfl (by decide) (by decide) dX7_follows_120 (by first | exact nI_bI1 (by rw [fw_gone hs (by first | exact Or.inl h27 | exact Or.inr h33), h102]; rfl) | exact nI_bI1 (by rw [fw_gone hs (by first | exact Or.inl h27 | exact Or.inr h33), h107, Bool.or_true]; rfl) | exact nI_bI1 (by rw [fw_gone hs (by first | exact Or.inl h27 | exact Or.inr h33), h112, Bool.or_true]) | exact nI_bI0 (by rw [fw_gone hs (by first | exact Or.inl h27 | exact Or.inr h33), h102, h107, h112]; rfl)) (fm_0 hA (fl_gone hs (by first | exact Or.inl h27 | exact Or.inr h33)).2)
                    · refine j_iconst C (v := nI 1) dX7_follows_115 rfl ?_
                      refine j_goto C 120 dX7_follows_116 ?_ (by decide)
                      exact q_zretS C CM rfl (by decide) (by decide) dX7_follows_120 (by first | exact nI_bI1 (by rw [fw_gone hs (by first | exact Or.inl h27 | exact Or.inr h33), h102]; rfl) | exact nI_bI1 (by rw [fw_gone hs (by first | exact Or.inl h27 | exact Or.inr h33), h107, Bool.or_true]; rfl) | exact nI_bI1 (by rw [fw_gone hs (by first | exact Or.inl h27 | exact Or.inr h33), h112, Bool.or_true]) | exact nI_bI0 (by rw [fw_gone hs (by first | exact Or.inl h27 | exact Or.inr h33), h102, h107, h112]; rfl)) (fm_0 hA (fl_gone hs (by first | exact Or.inl h27 | exact Or.inr h33)).2)
              exact q_st (K98) (by first | exact nI_bI1 (by rw [decide_eq_true ((oI_eq (b := some p) (fun w hw => Nat.lt_trans (mv_some hw hp).1 (by decide)) (fun w hw => by cases hw; omega)).mp h79), decide_eq_true ((oI_eq (nI_lt8 hv hp) (nI_lt8 ht hp)).mp h90)]; rfl) | exact nI_bI0 (by rw [decide_eq_false (p := v p = t p) (fun e => h90 ((oI_eq (nI_lt8 hv hp) (nI_lt8 ht hp)).mpr e)), Bool.and_false]) | exact nI_bI0 (by rw [decide_eq_false (p := (moO t v p) = some p) (fun e => h79 ((oI_eq (b := some p) (fun w hw => Nat.lt_trans (mv_some hw hp).1 (by decide)) (fun w hw => by cases hw; omega)).mpr e))]; rfl)) (gLe_c rfl (gLe_c rfl (gLe_c rfl (gLe_c rfl (gLe_c rfl (gLe_c rfl (gLe_c rfl (gLe_c rfl (gLe_c rfl (gLe_n (gLe_n (gLe_n gLe_0))))))))))))
            · refine j_aload_n C dX7_follows_82 rfl ?_
              refine j_iload C dX7_follows_83 rfl ?_
              refine q_iald C hc.1 hc.2 (by decide) (by omega) dX7_follows_85 ?_
              rw [hsv p hp]
              refine j_aload_n C dX7_follows_86 rfl ?_
              refine j_iload C dX7_follows_87 rfl ?_
              refine q_iald C ha.1 ha.2 (by decide) (by omega) dX7_follows_89 ?_
              rw [hr p hp]
              refine j_icmp_ne C 97 dX7_follows_90 (fun h90 => ?_) (fun h90 => ?_) (by decide)
              · refine j_iconst C (v := nI 0) dX7_follows_97 rfl ?_
                have K98 : Q G X 0 0 98 [some (.ref (gb G + 156)), some (.ref (gb G + a)), some (.ref (gb G + b)), some (.ref (gb G + c)), some (.int (nI p)), some (.int (oI (moO t u p))), some (.int (oI (moO t v p))), some (.int (bI (decide ((moO t u p) = (moO t v p))))), some (.int (bI (decide ((moO t u p) = some p) && decide (u p = t p)))), none, none, none] [.int (bI ((decide ((moO t v p) = some p) && decide (v p = t p))))] M := by
                  skip
                  refine j_istore C dX7_follows_98 (by decide) rfl ?_
                  refine j_iload C dX7_follows_100 rfl ?_
                  refine q_if_ne0 C 115 dX7_follows_102 (by decide) (fun h102 => ?_) (fun h102 => ?_)
                  · refine j_iconst C (v := nI 1) dX7_follows_115 rfl ?_
                    refine j_goto C 120 dX7_follows_116 ?_ (by decide)
                    exact q_zretS C CM rfl (by decide) (by decide) dX7_follows_120 (by first | exact nI_bI1 (by rw [fw_gone hs (by first | exact Or.inl h27 | exact Or.inr h33), h102]; rfl) | exact nI_bI1 (by rw [fw_gone hs (by first | exact Or.inl h27 | exact Or.inr h33), h107, Bool.or_true]; rfl) | exact nI_bI1 (by rw [fw_gone hs (by first | exact Or.inl h27 | exact Or.inr h33), h112, Bool.or_true]) | exact nI_bI0 (by rw [fw_gone hs (by first | exact Or.inl h27 | exact Or.inr h33), h102, h107, h112]; rfl)) (fm_0 hA (fl_gone hs (by first | exact Or.inl h27 | exact Or.inr h33)).2)
                  · refine j_iload C dX7_follows_105 rfl ?_
                    refine q_if_ne0 C 115 dX7_follows_107 (by decide) (fun h107 => ?_) (fun h107 => ?_)
                    · refine j_iconst C (v := nI 1) dX7_follows_115 rfl ?_
                      refine j_goto C 120 dX7_follows_116 ?_ (by decide)
                      exact q_zretS C CM rfl (by decide) (by decide) dX7_follows_120 (by first | exact nI_bI1 (by rw [fw_gone hs (by first | exact Or.inl h27 | exact Or.inr h33), h102]; rfl) | exact nI_bI1 (by rw [fw_gone hs (by first | exact Or.inl h27 | exact Or.inr h33), h107, Bool.or_true]; rfl) | exact nI_bI1 (by rw [fw_gone hs (by first | exact Or.inl h27 | exact Or.inr h33), h112, Bool.or_true]) | exact nI_bI0 (by rw [fw_gone hs (by first | exact Or.inl h27 | exact Or.inr h33), h102, h107, h112]; rfl)) (fm_0 hA (fl_gone hs (by first | exact Or.inl h27 | exact Or.inr h33)).2)
                    · refine j_iload C dX7_follows_110 rfl ?_
                      refine q_if_eq0 C 119 dX7_follows_112 (by decide) (fun h112 => ?_) (fun h112 => ?_)
                      · refine j_iconst C (v := nI 0) dX7_follows_119 rfl ?_
                        exact q_zretS C CM rfl (by decide) (by decide) dX7_follows_120 (by first | exact nI_bI1 (by rw [fw_gone hs (by first | exact Or.inl h27 | exact Or.inr h33), h102]; rfl) | exact nI_bI1 (by rw [fw_gone hs (by first | exact Or.inl h27 | exact Or.inr h33), h107, Bool.or_true]; rfl) | exact nI_bI1 (by rw [fw_gone hs (by first | exact Or.inl h27 | exact Or.inr h33), h112, Bool.or_true]) | exact nI_bI0 (by rw [fw_gone hs (by first | exact Or.inl h27 | exact Or.inr h33), h102, h107, h112]; rfl)) (fm_0 hA (fl_gone hs (by first | exact Or.inl h27 | exact Or.inr h33)).2)
                      · refine j_iconst C (v := nI 1) dX7_follows_115 rfl ?_
                        refine j_goto C 120 dX7_follows_116 ?_ (by decide)
                        exact q_zretS C CM rfl (by decide) (by decide) dX7_follows_120 (by first | exact nI_bI1 (by rw [fw_gone hs (by first | exact Or.inl h27 | exact Or.inr h33), h102]; rfl) | exact nI_bI1 (by rw [fw_gone hs (by first | exact Or.inl h27 | exact Or.inr h33), h107, Bool.or_true]; rfl) | exact nI_bI1 (by rw [fw_gone hs (by first | exact Or.inl h27 | exact Or.inr h33), h112, Bool.or_true]) | exact nI_bI0 (by rw [fw_gone hs (by first | exact Or.inl h27 | exact Or.inr h33), h102, h107, h112]; rfl)) (fm_0 hA (fl_gone hs (by first | exact Or.inl h27 | exact Or.inr h33)).2)
                exact q_st (K98) (by first | exact nI_bI1 (by rw [decide_eq_true ((oI_eq (b := some p) (fun w hw => Nat.lt_trans (mv_some hw hp).1 (by decide)) (fun w hw => by cases hw; omega)).mp h79), decide_eq_true ((oI_eq (nI_lt8 hv hp) (nI_lt8 ht hp)).mp h90)]; rfl) | exact nI_bI0 (by rw [decide_eq_false (p := v p = t p) (fun e => h90 ((oI_eq (nI_lt8 hv hp) (nI_lt8 ht hp)).mpr e)), Bool.and_false]) | exact nI_bI0 (by rw [decide_eq_false (p := (moO t v p) = some p) (fun e => h79 ((oI_eq (b := some p) (fun w hw => Nat.lt_trans (mv_some hw hp).1 (by decide)) (fun w hw => by cases hw; omega)).mpr e))]; rfl)) (gLe_c rfl (gLe_c rfl (gLe_c rfl (gLe_c rfl (gLe_c rfl (gLe_c rfl (gLe_c rfl (gLe_c rfl (gLe_c rfl (gLe_n (gLe_n (gLe_n gLe_0))))))))))))
              · refine j_iconst C (v := nI 1) dX7_follows_93 rfl ?_
                refine j_goto C 98 dX7_follows_94 ?_ (by decide)
                have K98 : Q G X 0 0 98 [some (.ref (gb G + 156)), some (.ref (gb G + a)), some (.ref (gb G + b)), some (.ref (gb G + c)), some (.int (nI p)), some (.int (oI (moO t u p))), some (.int (oI (moO t v p))), some (.int (bI (decide ((moO t u p) = (moO t v p))))), some (.int (bI (decide ((moO t u p) = some p) && decide (u p = t p)))), none, none, none] [.int (bI ((decide ((moO t v p) = some p) && decide (v p = t p))))] M := by
                  skip
                  refine j_istore C dX7_follows_98 (by decide) rfl ?_
                  refine j_iload C dX7_follows_100 rfl ?_
                  refine q_if_ne0 C 115 dX7_follows_102 (by decide) (fun h102 => ?_) (fun h102 => ?_)
                  · refine j_iconst C (v := nI 1) dX7_follows_115 rfl ?_
                    refine j_goto C 120 dX7_follows_116 ?_ (by decide)
                    exact q_zretS C CM rfl (by decide) (by decide) dX7_follows_120 (by first | exact nI_bI1 (by rw [fw_gone hs (by first | exact Or.inl h27 | exact Or.inr h33), h102]; rfl) | exact nI_bI1 (by rw [fw_gone hs (by first | exact Or.inl h27 | exact Or.inr h33), h107, Bool.or_true]; rfl) | exact nI_bI1 (by rw [fw_gone hs (by first | exact Or.inl h27 | exact Or.inr h33), h112, Bool.or_true]) | exact nI_bI0 (by rw [fw_gone hs (by first | exact Or.inl h27 | exact Or.inr h33), h102, h107, h112]; rfl)) (fm_0 hA (fl_gone hs (by first | exact Or.inl h27 | exact Or.inr h33)).2)
                  · refine j_iload C dX7_follows_105 rfl ?_
                    refine q_if_ne0 C 115 dX7_follows_107 (by decide) (fun h107 => ?_) (fun h107 => ?_)
                    · refine j_iconst C (v := nI 1) dX7_follows_115 rfl ?_
                      refine j_goto C 120 dX7_follows_116 ?_ (by decide)
                      exact q_zretS C CM rfl (by decide) (by decide) dX7_follows_120 (by first | exact nI_bI1 (by rw [fw_gone hs (by first | exact Or.inl h27 | exact Or.inr h33), h102]; rfl) | exact nI_bI1 (by rw [fw_gone hs (by first | exact Or.inl h27 | exact Or.inr h33), h107, Bool.or_true]; rfl) | exact nI_bI1 (by rw [fw_gone hs (by first | exact Or.inl h27 | exact Or.inr h33), h112, Bool.or_true]) | exact nI_bI0 (by rw [fw_gone hs (by first | exact Or.inl h27 | exact Or.inr h33), h102, h107, h112]; rfl)) (fm_0 hA (fl_gone hs (by first | exact Or.inl h27 | exact Or.inr h33)).2)
                    · refine j_iload C dX7_follows_110 rfl ?_
                      refine q_if_eq0 C 119 dX7_follows_112 (by decide) (fun h112 => ?_) (fun h112 => ?_)
                      · refine j_iconst C (v := nI 0) dX7_follows_119 rfl ?_
                        exact q_zretS C CM rfl (by decide) (by decide) dX7_follows_120 (by first | exact nI_bI1 (by rw [fw_gone hs (by first | exact Or.inl h27 | exact Or.inr h33), h102]; rfl) | exact nI_bI1 (by rw [fw_gone hs (by first | exact Or.inl h27 | exact Or.inr h33), h107, Bool.or_true]; rfl) | exact nI_bI1 (by rw [fw_gone hs (by first | exact Or.inl h27 | exact Or.inr h33), h112, Bool.or_true]) | exact nI_bI0 (by rw [fw_gone hs (by first | exact Or.inl h27 | exact Or.inr h33), h102, h107, h112]; rfl)) (fm_0 hA (fl_gone hs (by first | exact Or.inl h27 | exact Or.inr h33)).2)
                      · refine j_iconst C (v := nI 1) dX7_follows_115 rfl ?_
                        refine j_goto C 120 dX7_follows_116 ?_ (by decide)
                        exact q_zretS C CM rfl (by decide) (by decide) dX7_follows_120 (by first | exact nI_bI1 (by rw [fw_gone hs (by first | exact Or.inl h27 | exact Or.inr h33), h102]; rfl) | exact nI_bI1 (by rw [fw_gone hs (by first | exact Or.inl h27 | exact Or.inr h33), h107, Bool.or_true]; rfl) | exact nI_bI1 (by rw [fw_gone hs (by first | exact Or.inl h27 | exact Or.inr h33), h112, Bool.or_true]) | exact nI_bI0 (by rw [fw_gone hs (by first | exact Or.inl h27 | exact Or.inr h33), h102, h107, h112]; rfl)) (fm_0 hA (fl_gone hs (by first | exact Or.inl h27 | exact Or.inr h33)).2)
                exact q_st (K98) (by first | exact nI_bI1 (by rw [decide_eq_true ((oI_eq (b := some p) (fun w hw => Nat.lt_trans (mv_some hw hp).1 (by decide)) (fun w hw => by cases hw; omega)).mp h79), decide_eq_true ((oI_eq (nI_lt8 hv hp) (nI_lt8 ht hp)).mp h90)]; rfl) | exact nI_bI0 (by rw [decide_eq_false (p := v p = t p) (fun e => h90 ((oI_eq (nI_lt8 hv hp) (nI_lt8 ht hp)).mpr e)), Bool.and_false]) | exact nI_bI0 (by rw [decide_eq_false (p := (moO t v p) = some p) (fun e => h79 ((oI_eq (b := some p) (fun w hw => Nat.lt_trans (mv_some hw hp).1 (by decide)) (fun w hw => by cases hw; omega)).mpr e))]; rfl)) (gLe_c rfl (gLe_c rfl (gLe_c rfl (gLe_c rfl (gLe_c rfl (gLe_c rfl (gLe_c rfl (gLe_c rfl (gLe_c rfl (gLe_n (gLe_n (gLe_n gLe_0))))))))))))
          exact q_st (K73) (by first | exact nI_bI1 (by rw [decide_eq_true ((oI_eq (b := some p) (fun w hw => Nat.lt_trans (mv_some hw hp).1 (by decide)) (fun w hw => by cases hw; omega)).mp h54), decide_eq_true ((oI_eq (nI_lt8 hu hp) (nI_lt8 ht hp)).mp h65)]; rfl) | exact nI_bI0 (by rw [decide_eq_false (p := u p = t p) (fun e => h65 ((oI_eq (nI_lt8 hu hp) (nI_lt8 ht hp)).mpr e)), Bool.and_false]) | exact nI_bI0 (by rw [decide_eq_false (p := (moO t u p) = some p) (fun e => h54 ((oI_eq (b := some p) (fun w hw => Nat.lt_trans (mv_some hw hp).1 (by decide)) (fun w hw => by cases hw; omega)).mpr e))]; rfl)) (gLe_c rfl (gLe_c rfl (gLe_c rfl (gLe_c rfl (gLe_c rfl (gLe_c rfl (gLe_c rfl (gLe_c rfl (gLe_n (gLe_n (gLe_n (gLe_n gLe_0))))))))))))
        · refine j_aload_n C dX7_follows_57 rfl ?_
          refine j_iload C dX7_follows_58 rfl ?_
          refine q_iald C hb.1 hb.2 (by decide) (by omega) dX7_follows_60 ?_
          rw [hsu p hp]
          refine j_aload_n C dX7_follows_61 rfl ?_
          refine j_iload C dX7_follows_62 rfl ?_
          refine q_iald C ha.1 ha.2 (by decide) (by omega) dX7_follows_64 ?_
          rw [hr p hp]
          refine j_icmp_ne C 72 dX7_follows_65 (fun h65 => ?_) (fun h65 => ?_) (by decide)
          · refine j_iconst C (v := nI 0) dX7_follows_72 rfl ?_
            have K73 : Q G X 0 0 73 [some (.ref (gb G + 156)), some (.ref (gb G + a)), some (.ref (gb G + b)), some (.ref (gb G + c)), some (.int (nI p)), some (.int (oI (moO t u p))), some (.int (oI (moO t v p))), some (.int (bI (decide ((moO t u p) = (moO t v p))))), none, none, none, none] [.int (bI ((decide ((moO t u p) = some p) && decide (u p = t p))))] M := by
              skip
              refine j_istore C dX7_follows_73 (by decide) rfl ?_
              refine j_iload C dX7_follows_75 rfl ?_
              refine j_iload C dX7_follows_77 rfl ?_
              refine j_icmp_ne C 97 dX7_follows_79 (fun h79 => ?_) (fun h79 => ?_) (by decide)
              · refine j_iconst C (v := nI 0) dX7_follows_97 rfl ?_
                have K98 : Q G X 0 0 98 [some (.ref (gb G + 156)), some (.ref (gb G + a)), some (.ref (gb G + b)), some (.ref (gb G + c)), some (.int (nI p)), some (.int (oI (moO t u p))), some (.int (oI (moO t v p))), some (.int (bI (decide ((moO t u p) = (moO t v p))))), some (.int (bI (decide ((moO t u p) = some p) && decide (u p = t p)))), none, none, none] [.int (bI ((decide ((moO t v p) = some p) && decide (v p = t p))))] M := by
                  skip
                  refine j_istore C dX7_follows_98 (by decide) rfl ?_
                  refine j_iload C dX7_follows_100 rfl ?_
                  refine q_if_ne0 C 115 dX7_follows_102 (by decide) (fun h102 => ?_) (fun h102 => ?_)
                  · refine j_iconst C (v := nI 1) dX7_follows_115 rfl ?_
                    refine j_goto C 120 dX7_follows_116 ?_ (by decide)
                    exact q_zretS C CM rfl (by decide) (by decide) dX7_follows_120 (by first | exact nI_bI1 (by rw [fw_gone hs (by first | exact Or.inl h27 | exact Or.inr h33), h102]; rfl) | exact nI_bI1 (by rw [fw_gone hs (by first | exact Or.inl h27 | exact Or.inr h33), h107, Bool.or_true]; rfl) | exact nI_bI1 (by rw [fw_gone hs (by first | exact Or.inl h27 | exact Or.inr h33), h112, Bool.or_true]) | exact nI_bI0 (by rw [fw_gone hs (by first | exact Or.inl h27 | exact Or.inr h33), h102, h107, h112]; rfl)) (fm_0 hA (fl_gone hs (by first | exact Or.inl h27 | exact Or.inr h33)).2)
                  · refine j_iload C dX7_follows_105 rfl ?_
                    refine q_if_ne0 C 115 dX7_follows_107 (by decide) (fun h107 => ?_) (fun h107 => ?_)
                    · refine j_iconst C (v := nI 1) dX7_follows_115 rfl ?_
                      refine j_goto C 120 dX7_follows_116 ?_ (by decide)
                      exact q_zretS C CM rfl (by decide) (by decide) dX7_follows_120 (by first | exact nI_bI1 (by rw [fw_gone hs (by first | exact Or.inl h27 | exact Or.inr h33), h102]; rfl) | exact nI_bI1 (by rw [fw_gone hs (by first | exact Or.inl h27 | exact Or.inr h33), h107, Bool.or_true]; rfl) | exact nI_bI1 (by rw [fw_gone hs (by first | exact Or.inl h27 | exact Or.inr h33), h112, Bool.or_true]) | exact nI_bI0 (by rw [fw_gone hs (by first | exact Or.inl h27 | exact Or.inr h33), h102, h107, h112]; rfl)) (fm_0 hA (fl_gone hs (by first | exact Or.inl h27 | exact Or.inr h33)).2)
                    · refine j_iload C dX7_follows_110 rfl ?_
                      refine q_if_eq0 C 119 dX7_follows_112 (by decide) (fun h112 => ?_) (fun h112 => ?_)
                      · refine j_iconst C (v := nI 0) dX7_follows_119 rfl ?_
                        exact q_zretS C CM rfl (by decide) (by decide) dX7_follows_120 (by first | exact nI_bI1 (by rw [fw_gone hs (by first | exact Or.inl h27 | exact Or.inr h33), h102]; rfl) | exact nI_bI1 (by rw [fw_gone hs (by first | exact Or.inl h27 | exact Or.inr h33), h107, Bool.or_true]; rfl) | exact nI_bI1 (by rw [fw_gone hs (by first | exact Or.inl h27 | exact Or.inr h33), h112, Bool.or_true]) | exact nI_bI0 (by rw [fw_gone hs (by first | exact Or.inl h27 | exact Or.inr h33), h102, h107, h112]; rfl)) (fm_0 hA (fl_gone hs (by first | exact Or.inl h27 | exact Or.inr h33)).2)
                      · refine j_iconst C (v := nI 1) dX7_follows_115 rfl ?_
                        refine j_goto C 120 dX7_follows_116 ?_ (by decide)
                        exact q_zretS C CM rfl (by decide) (by decide) dX7_follows_120 (by first | exact nI_bI1 (by rw [fw_gone hs (by first | exact Or.inl h27 | exact Or.inr h33), h102]; rfl) | exact nI_bI1 (by rw [fw_gone hs (by first | exact Or.inl h27 | exact Or.inr h33), h107, Bool.or_true]; rfl) | exact nI_bI1 (by rw [fw_gone hs (by first | exact Or.inl h27 | exact Or.inr h33), h112, Bool.or_true]) | exact nI_bI0 (by rw [fw_gone hs (by first | exact Or.inl h27 | exact Or.inr h33), h102, h107, h112]; rfl)) (fm_0 hA (fl_gone hs (by first | exact Or.inl h27 | exact Or.inr h33)).2)
                exact q_st (K98) (by first | exact nI_bI1 (by rw [decide_eq_true ((oI_eq (b := some p) (fun w hw => Nat.lt_trans (mv_some hw hp).1 (by decide)) (fun w hw => by cases hw; omega)).mp h79), decide_eq_true ((oI_eq (nI_lt8 hv hp) (nI_lt8 ht hp)).mp h90)]; rfl) | exact nI_bI0 (by rw [decide_eq_false (p := v p = t p) (fun e => h90 ((oI_eq (nI_lt8 hv hp) (nI_lt8 ht hp)).mpr e)), Bool.and_false]) | exact nI_bI0 (by rw [decide_eq_false (p := (moO t v p) = some p) (fun e => h79 ((oI_eq (b := some p) (fun w hw => Nat.lt_trans (mv_some hw hp).1 (by decide)) (fun w hw => by cases hw; omega)).mpr e))]; rfl)) (gLe_c rfl (gLe_c rfl (gLe_c rfl (gLe_c rfl (gLe_c rfl (gLe_c rfl (gLe_c rfl (gLe_c rfl (gLe_c rfl (gLe_n (gLe_n (gLe_n gLe_0))))))))))))
              · refine j_aload_n C dX7_follows_82 rfl ?_
                refine j_iload C dX7_follows_83 rfl ?_
                refine q_iald C hc.1 hc.2 (by decide) (by omega) dX7_follows_85 ?_
                rw [hsv p hp]
                refine j_aload_n C dX7_follows_86 rfl ?_
                refine j_iload C dX7_follows_87 rfl ?_
                refine q_iald C ha.1 ha.2 (by decide) (by omega) dX7_follows_89 ?_
                rw [hr p hp]
                refine j_icmp_ne C 97 dX7_follows_90 (fun h90 => ?_) (fun h90 => ?_) (by decide)
                · refine j_iconst C (v := nI 0) dX7_follows_97 rfl ?_
                  have K98 : Q G X 0 0 98 [some (.ref (gb G + 156)), some (.ref (gb G + a)), some (.ref (gb G + b)), some (.ref (gb G + c)), some (.int (nI p)), some (.int (oI (moO t u p))), some (.int (oI (moO t v p))), some (.int (bI (decide ((moO t u p) = (moO t v p))))), some (.int (bI (decide ((moO t u p) = some p) && decide (u p = t p)))), none, none, none] [.int (bI ((decide ((moO t v p) = some p) && decide (v p = t p))))] M := by
                    skip
                    refine j_istore C dX7_follows_98 (by decide) rfl ?_
                    refine j_iload C dX7_follows_100 rfl ?_
                    refine q_if_ne0 C 115 dX7_follows_102 (by decide) (fun h102 => ?_) (fun h102 => ?_)
                    · refine j_iconst C (v := nI 1) dX7_follows_115 rfl ?_
                      refine j_goto C 120 dX7_follows_116 ?_ (by decide)
                      exact q_zretS C CM rfl (by decide) (by decide) dX7_follows_120 (by first | exact nI_bI1 (by rw [fw_gone hs (by first | exact Or.inl h27 | exact Or.inr h33), h102]; rfl) | exact nI_bI1 (by rw [fw_gone hs (by first | exact Or.inl h27 | exact Or.inr h33), h107, Bool.or_true]; rfl) | exact nI_bI1 (by rw [fw_gone hs (by first | exact Or.inl h27 | exact Or.inr h33), h112, Bool.or_true]) | exact nI_bI0 (by rw [fw_gone hs (by first | exact Or.inl h27 | exact Or.inr h33), h102, h107, h112]; rfl)) (fm_0 hA (fl_gone hs (by first | exact Or.inl h27 | exact Or.inr h33)).2)
                    · refine j_iload C dX7_follows_105 rfl ?_
                      refine q_if_ne0 C 115 dX7_follows_107 (by decide) (fun h107 => ?_) (fun h107 => ?_)
                      · refine j_iconst C (v := nI 1) dX7_follows_115 rfl ?_
                        refine j_goto C 120 dX7_follows_116 ?_ (by decide)
                        exact q_zretS C CM rfl (by decide) (by decide) dX7_follows_120 (by first | exact nI_bI1 (by rw [fw_gone hs (by first | exact Or.inl h27 | exact Or.inr h33), h102]; rfl) | exact nI_bI1 (by rw [fw_gone hs (by first | exact Or.inl h27 | exact Or.inr h33), h107, Bool.or_true]; rfl) | exact nI_bI1 (by rw [fw_gone hs (by first | exact Or.inl h27 | exact Or.inr h33), h112, Bool.or_true]) | exact nI_bI0 (by rw [fw_gone hs (by first | exact Or.inl h27 | exact Or.inr h33), h102, h107, h112]; rfl)) (fm_0 hA (fl_gone hs (by first | exact Or.inl h27 | exact Or.inr h33)).2)
                      · refine j_iload C dX7_follows_110 rfl ?_
                        refine q_if_eq0 C 119 dX7_follows_112 (by decide) (fun h112 => ?_) (fun h112 => ?_)
                        · refine j_iconst C (v := nI 0) dX7_follows_119 rfl ?_
                          exact q_zretS C CM rfl (by decide) (by decide) dX7_follows_120 (by first | exact nI_bI1 (by rw [fw_gone hs (by first | exact Or.inl h27 | exact Or.inr h33), h102]; rfl) | exact nI_bI1 (by rw [fw_gone hs (by first | exact Or.inl h27 | exact Or.inr h33), h107, Bool.or_true]; rfl) | exact nI_bI1 (by rw [fw_gone hs (by first | exact Or.inl h27 | exact Or.inr h33), h112, Bool.or_true]) | exact nI_bI0 (by rw [fw_gone hs (by first | exact Or.inl h27 | exact Or.inr h33), h102, h107, h112]; rfl)) (fm_0 hA (fl_gone hs (by first | exact Or.inl h27 | exact Or.inr h33)).2)
                        · refine j_iconst C (v := nI 1) dX7_follows_115 rfl ?_
                          refine j_goto C 120 dX7_follows_116 ?_ (by decide)
                          exact q_zretS C CM rfl (by decide) (by decide) dX7_follows_120 (by first | exact nI_bI1 (by rw [fw_gone hs (by first | exact Or.inl h27 | exact Or.inr h33), h102]; rfl) | exact nI_bI1 (by rw [fw_gone hs (by first | exact Or.inl h27 | exact Or.inr h33), h107, Bool.or_true]; rfl) | exact nI_bI1 (by rw [fw_gone hs (by first | exact Or.inl h27 | exact Or.inr h33), h112, Bool.or_true]) | exact nI_bI0 (by rw [fw_gone hs (by first | exact Or.inl h27 | exact Or.inr h33), h102, h107, h112]; rfl)) (fm_0 hA (fl_gone hs (by first | exact Or.inl h27 | exact Or.inr h33)).2)
                  exact q_st (K98) (by first | exact nI_bI1 (by rw [decide_eq_true ((oI_eq (b := some p) (fun w hw => Nat.lt_trans (mv_some hw hp).1 (by decide)) (fun w hw => by cases hw; omega)).mp h79), decide_eq_true ((oI_eq (nI_lt8 hv hp) (nI_lt8 ht hp)).mp h90)]; rfl) | exact nI_bI0 (by rw [decide_eq_false (p := v p = t p) (fun e => h90 ((oI_eq (nI_lt8 hv hp) (nI_lt8 ht hp)).mpr e)), Bool.and_false]) | exact nI_bI0 (by rw [decide_eq_false (p := (moO t v p) = some p) (fun e => h79 ((oI_eq (b := some p) (fun w hw => Nat.lt_trans (mv_some hw hp).1 (by decide)) (fun w hw => by cases hw; omega)).mpr e))]; rfl)) (gLe_c rfl (gLe_c rfl (gLe_c rfl (gLe_c rfl (gLe_c rfl (gLe_c rfl (gLe_c rfl (gLe_c rfl (gLe_c rfl (gLe_n (gLe_n (gLe_n gLe_0))))))))))))
                · refine j_iconst C (v := nI 1) dX7_follows_93 rfl ?_
                  refine j_goto C 98 dX7_follows_94 ?_ (by decide)
                  have K98 : Q G X 0 0 98 [some (.ref (gb G + 156)), some (.ref (gb G + a)), some (.ref (gb G + b)), some (.ref (gb G + c)), some (.int (nI p)), some (.int (oI (moO t u p))), some (.int (oI (moO t v p))), some (.int (bI (decide ((moO t u p) = (moO t v p))))), some (.int (bI (decide ((moO t u p) = some p) && decide (u p = t p)))), none, none, none] [.int (bI ((decide ((moO t v p) = some p) && decide (v p = t p))))] M := by
                    skip
                    refine j_istore C dX7_follows_98 (by decide) rfl ?_
                    refine j_iload C dX7_follows_100 rfl ?_
                    refine q_if_ne0 C 115 dX7_follows_102 (by decide) (fun h102 => ?_) (fun h102 => ?_)
                    · refine j_iconst C (v := nI 1) dX7_follows_115 rfl ?_
                      refine j_goto C 120 dX7_follows_116 ?_ (by decide)
                      exact q_zretS C CM rfl (by decide) (by decide) dX7_follows_120 (by first | exact nI_bI1 (by rw [fw_gone hs (by first | exact Or.inl h27 | exact Or.inr h33), h102]; rfl) | exact nI_bI1 (by rw [fw_gone hs (by first | exact Or.inl h27 | exact Or.inr h33), h107, Bool.or_true]; rfl) | exact nI_bI1 (by rw [fw_gone hs (by first | exact Or.inl h27 | exact Or.inr h33), h112, Bool.or_true]) | exact nI_bI0 (by rw [fw_gone hs (by first | exact Or.inl h27 | exact Or.inr h33), h102, h107, h112]; rfl)) (fm_0 hA (fl_gone hs (by first | exact Or.inl h27 | exact Or.inr h33)).2)
                    · refine j_iload C dX7_follows_105 rfl ?_
                      refine q_if_ne0 C 115 dX7_follows_107 (by decide) (fun h107 => ?_) (fun h107 => ?_)
                      · refine j_iconst C (v := nI 1) dX7_follows_115 rfl ?_
                        refine j_goto C 120 dX7_follows_116 ?_ (by decide)
                        exact q_zretS C CM rfl (by decide) (by decide) dX7_follows_120 (by first | exact nI_bI1 (by rw [fw_gone hs (by first | exact Or.inl h27 | exact Or.inr h33), h102]; rfl) | exact nI_bI1 (by rw [fw_gone hs (by first | exact Or.inl h27 | exact Or.inr h33), h107, Bool.or_true]; rfl) | exact nI_bI1 (by rw [fw_gone hs (by first | exact Or.inl h27 | exact Or.inr h33), h112, Bool.or_true]) | exact nI_bI0 (by rw [fw_gone hs (by first | exact Or.inl h27 | exact Or.inr h33), h102, h107, h112]; rfl)) (fm_0 hA (fl_gone hs (by first | exact Or.inl h27 | exact Or.inr h33)).2)
                      · refine j_iload C dX7_follows_110 rfl ?_
                        refine q_if_eq0 C 119 dX7_follows_112 (by decide) (fun h112 => ?_) (fun h112 => ?_)
                        · refine j_iconst C (v := nI 0) dX7_follows_119 rfl ?_
                          exact q_zretS C CM rfl (by decide) (by decide) dX7_follows_120 (by first | exact nI_bI1 (by rw [fw_gone hs (by first | exact Or.inl h27 | exact Or.inr h33), h102]; rfl) | exact nI_bI1 (by rw [fw_gone hs (by first | exact Or.inl h27 | exact Or.inr h33), h107, Bool.or_true]; rfl) | exact nI_bI1 (by rw [fw_gone hs (by first | exact Or.inl h27 | exact Or.inr h33), h112, Bool.or_true]) | exact nI_bI0 (by rw [fw_gone hs (by first | exact Or.inl h27 | exact Or.inr h33), h102, h107, h112]; rfl)) (fm_0 hA (fl_gone hs (by first | exact Or.inl h27 | exact Or.inr h33)).2)
                        · refine j_iconst C (v := nI 1) dX7_follows_115 rfl ?_
                          refine j_goto C 120 dX7_follows_116 ?_ (by decide)
                          exact q_zretS C CM rfl (by decide) (by decide) dX7_follows_120 (by first | exact nI_bI1 (by rw [fw_gone hs (by first | exact Or.inl h27 | exact Or.inr h33), h102]; rfl) | exact nI_bI1 (by rw [fw_gone hs (by first | exact Or.inl h27 | exact Or.inr h33), h107, Bool.or_true]; rfl) | exact nI_bI1 (by rw [fw_gone hs (by first | exact Or.inl h27 | exact Or.inr h33), h112, Bool.or_true]) | exact nI_bI0 (by rw [fw_gone hs (by first | exact Or.inl h27 | exact Or.inr h33), h102, h107, h112]; rfl)) (fm_0 hA (fl_gone hs (by first | exact Or.inl h27 | exact Or.inr h33)).2)
                  exact q_st (K98) (by first | exact nI_bI1 (by rw [decide_eq_true ((oI_eq (b := some p) (fun w hw => Nat.lt_trans (mv_some hw hp).1 (by decide)) (fun w hw => by cases hw; omega)).mp h79), decide_eq_true ((oI_eq (nI_lt8 hv hp) (nI_lt8 ht hp)).mp h90)]; rfl) | exact nI_bI0 (by rw [decide_eq_false (p := v p = t p) (fun e => h90 ((oI_eq (nI_lt8 hv hp) (nI_lt8 ht hp)).mpr e)), Bool.and_false]) | exact nI_bI0 (by rw [decide_eq_false (p := (moO t v p) = some p) (fun e => h79 ((oI_eq (b := some p) (fun w hw => Nat.lt_trans (mv_some hw hp).1 (by decide)) (fun w hw => by cases hw; omega)).mpr e))]; rfl)) (gLe_c rfl (gLe_c rfl (gLe_c rfl (gLe_c rfl (gLe_c rfl (gLe_c rfl (gLe_c rfl (gLe_c rfl (gLe_c rfl (gLe_n (gLe_n (gLe_n gLe_0))))))))))))
            exact q_st (K73) (by first | exact nI_bI1 (by rw [decide_eq_true ((oI_eq (b := some p) (fun w hw => Nat.lt_trans (mv_some hw hp).1 (by decide)) (fun w hw => by cases hw; omega)).mp h54), decide_eq_true ((oI_eq (nI_lt8 hu hp) (nI_lt8 ht hp)).mp h65)]; rfl) | exact nI_bI0 (by rw [decide_eq_false (p := u p = t p) (fun e => h65 ((oI_eq (nI_lt8 hu hp) (nI_lt8 ht hp)).mpr e)), Bool.and_false]) | exact nI_bI0 (by rw [decide_eq_false (p := (moO t u p) = some p) (fun e => h54 ((oI_eq (b := some p) (fun w hw => Nat.lt_trans (mv_some hw hp).1 (by decide)) (fun w hw => by cases hw; omega)).mpr e))]; rfl)) (gLe_c rfl (gLe_c rfl (gLe_c rfl (gLe_c rfl (gLe_c rfl (gLe_c rfl (gLe_c rfl (gLe_c rfl (gLe_n (gLe_n (gLe_n (gLe_n gLe_0))))))))))))
          · refine j_iconst C (v := nI 1) dX7_follows_68 rfl ?_
            refine j_goto C 73 dX7_follows_69 ?_ (by decide)
            have K73 : Q G X 0 0 73 [some (.ref (gb G + 156)), some (.ref (gb G + a)), some (.ref (gb G + b)), some (.ref (gb G + c)), some (.int (nI p)), some (.int (oI (moO t u p))), some (.int (oI (moO t v p))), some (.int (bI (decide ((moO t u p) = (moO t v p))))), none, none, none, none] [.int (bI ((decide ((moO t u p) = some p) && decide (u p = t p))))] M := by
              skip
              refine j_istore C dX7_follows_73 (by decide) rfl ?_
              refine j_iload C dX7_follows_75 rfl ?_
              refine j_iload C dX7_follows_77 rfl ?_
              refine j_icmp_ne C 97 dX7_follows_79 (fun h79 => ?_) (fun h79 => ?_) (by decide)
              · refine j_iconst C (v := nI 0) dX7_follows_97 rfl ?_
                have K98 : Q G X 0 0 98 [some (.ref (gb G + 156)), some (.ref (gb G + a)), some (.ref (gb G + b)), some (.ref (gb G + c)), some (.int (nI p)), some (.int (oI (moO t u p))), some (.int (oI (moO t v p))), some (.int (bI (decide ((moO t u p) = (moO t v p))))), some (.int (bI (decide ((moO t u p) = some p) && decide (u p = t p)))), none, none, none] [.int (bI ((decide ((moO t v p) = some p) && decide (v p = t p))))] M := by
                  skip
                  refine j_istore C dX7_follows_98 (by decide) rfl ?_
                  refine j_iload C dX7_follows_100 rfl ?_
                  refine q_if_ne0 C 115 dX7_follows_102 (by decide) (fun h102 => ?_) (fun h102 => ?_)
                  · refine j_iconst C (v := nI 1) dX7_follows_115 rfl ?_
                    refine j_goto C 120 dX7_follows_116 ?_ (by decide)
                    exact q_zretS C CM rfl (by decide) (by decide) dX7_follows_120 (by first | exact nI_bI1 (by rw [fw_gone hs (by first | exact Or.inl h27 | exact Or.inr h33), h102]; rfl) | exact nI_bI1 (by rw [fw_gone hs (by first | exact Or.inl h27 | exact Or.inr h33), h107, Bool.or_true]; rfl) | exact nI_bI1 (by rw [fw_gone hs (by first | exact Or.inl h27 | exact Or.inr h33), h112, Bool.or_true]) | exact nI_bI0 (by rw [fw_gone hs (by first | exact Or.inl h27 | exact Or.inr h33), h102, h107, h112]; rfl)) (fm_0 hA (fl_gone hs (by first | exact Or.inl h27 | exact Or.inr h33)).2)
                  · refine j_iload C dX7_follows_105 rfl ?_
                    refine q_if_ne0 C 115 dX7_follows_107 (by decide) (fun h107 => ?_) (fun h107 => ?_)
                    · refine j_iconst C (v := nI 1) dX7_follows_115 rfl ?_
                      refine j_goto C 120 dX7_follows_116 ?_ (by decide)
                      exact q_zretS C CM rfl (by decide) (by decide) dX7_follows_120 (by first | exact nI_bI1 (by rw [fw_gone hs (by first | exact Or.inl h27 | exact Or.inr h33), h102]; rfl) | exact nI_bI1 (by rw [fw_gone hs (by first | exact Or.inl h27 | exact Or.inr h33), h107, Bool.or_true]; rfl) | exact nI_bI1 (by rw [fw_gone hs (by first | exact Or.inl h27 | exact Or.inr h33), h112, Bool.or_true]) | exact nI_bI0 (by rw [fw_gone hs (by first | exact Or.inl h27 | exact Or.inr h33), h102, h107, h112]; rfl)) (fm_0 hA (fl_gone hs (by first | exact Or.inl h27 | exact Or.inr h33)).2)
                    · refine j_iload C dX7_follows_110 rfl ?_
                      refine q_if_eq0 C 119 dX7_follows_112 (by decide) (fun h112 => ?_) (fun h112 => ?_)
                      · refine j_iconst C (v := nI 0) dX7_follows_119 rfl ?_
                        exact q_zretS C CM rfl (by decide) (by decide) dX7_follows_120 (by first | exact nI_bI1 (by rw [fw_gone hs (by first | exact Or.inl h27 | exact Or.inr h33), h102]; rfl) | exact nI_bI1 (by rw [fw_gone hs (by first | exact Or.inl h27 | exact Or.inr h33), h107, Bool.or_true]; rfl) | exact nI_bI1 (by rw [fw_gone hs (by first | exact Or.inl h27 | exact Or.inr h33), h112, Bool.or_true]) | exact nI_bI0 (by rw [fw_gone hs (by first | exact Or.inl h27 | exact Or.inr h33), h102, h107, h112]; rfl)) (fm_0 hA (fl_gone hs (by first | exact Or.inl h27 | exact Or.inr h33)).2)
                      · refine j_iconst C (v := nI 1) dX7_follows_115 rfl ?_
                        refine j_goto C 120 dX7_follows_116 ?_ (by decide)
                        exact q_zretS C CM rfl (by decide) (by decide) dX7_follows_120 (by first | exact nI_bI1 (by rw [fw_gone hs (by first | exact Or.inl h27 | exact Or.inr h33), h102]; rfl) | exact nI_bI1 (by rw [fw_gone hs (by first | exact Or.inl h27 | exact Or.inr h33), h107, Bool.or_true]; rfl) | exact nI_bI1 (by rw [fw_gone hs (by first | exact Or.inl h27 | exact Or.inr h33), h112, Bool.or_true]) | exact nI_bI0 (by rw [fw_gone hs (by first | exact Or.inl h27 | exact Or.inr h33), h102, h107, h112]; rfl)) (fm_0 hA (fl_gone hs (by first | exact Or.inl h27 | exact Or.inr h33)).2)
                exact q_st (K98) (by first | exact nI_bI1 (by rw [decide_eq_true ((oI_eq (b := some p) (fun w hw => Nat.lt_trans (mv_some hw hp).1 (by decide)) (fun w hw => by cases hw; omega)).mp h79), decide_eq_true ((oI_eq (nI_lt8 hv hp) (nI_lt8 ht hp)).mp h90)]; rfl) | exact nI_bI0 (by rw [decide_eq_false (p := v p = t p) (fun e => h90 ((oI_eq (nI_lt8 hv hp) (nI_lt8 ht hp)).mpr e)), Bool.and_false]) | exact nI_bI0 (by rw [decide_eq_false (p := (moO t v p) = some p) (fun e => h79 ((oI_eq (b := some p) (fun w hw => Nat.lt_trans (mv_some hw hp).1 (by decide)) (fun w hw => by cases hw; omega)).mpr e))]; rfl)) (gLe_c rfl (gLe_c rfl (gLe_c rfl (gLe_c rfl (gLe_c rfl (gLe_c rfl (gLe_c rfl (gLe_c rfl (gLe_c rfl (gLe_n (gLe_n (gLe_n gLe_0))))))))))))
              · refine j_aload_n C dX7_follows_82 rfl ?_
                refine j_iload C dX7_follows_83 rfl ?_
                refine q_iald C hc.1 hc.2 (by decide) (by omega) dX7_follows_85 ?_
                rw [hsv p hp]
                refine j_aload_n C dX7_follows_86 rfl ?_
                refine j_iload C dX7_follows_87 rfl ?_
                refine q_iald C ha.1 ha.2 (by decide) (by omega) dX7_follows_89 ?_
                rw [hr p hp]
                refine j_icmp_ne C 97 dX7_follows_90 (fun h90 => ?_) (fun h90 => ?_) (by decide)
                · refine j_iconst C (v := nI 0) dX7_follows_97 rfl ?_
                  have K98 : Q G X 0 0 98 [some (.ref (gb G + 156)), some (.ref (gb G + a)), some (.ref (gb G + b)), some (.ref (gb G + c)), some (.int (nI p)), some (.int (oI (moO t u p))), some (.int (oI (moO t v p))), some (.int (bI (decide ((moO t u p) = (moO t v p))))), some (.int (bI (decide ((moO t u p) = some p) && decide (u p = t p)))), none, none, none] [.int (bI ((decide ((moO t v p) = some p) && decide (v p = t p))))] M := by
                    skip
                    refine j_istore C dX7_follows_98 (by decide) rfl ?_
                    refine j_iload C dX7_follows_100 rfl ?_
                    refine q_if_ne0 C 115 dX7_follows_102 (by decide) (fun h102 => ?_) (fun h102 => ?_)
                    · refine j_iconst C (v := nI 1) dX7_follows_115 rfl ?_
                      refine j_goto C 120 dX7_follows_116 ?_ (by decide)
                      exact q_zretS C CM rfl (by decide) (by decide) dX7_follows_120 (by first | exact nI_bI1 (by rw [fw_gone hs (by first | exact Or.inl h27 | exact Or.inr h33), h102]; rfl) | exact nI_bI1 (by rw [fw_gone hs (by first | exact Or.inl h27 | exact Or.inr h33), h107, Bool.or_true]; rfl) | exact nI_bI1 (by rw [fw_gone hs (by first | exact Or.inl h27 | exact Or.inr h33), h112, Bool.or_true]) | exact nI_bI0 (by rw [fw_gone hs (by first | exact Or.inl h27 | exact Or.inr h33), h102, h107, h112]; rfl)) (fm_0 hA (fl_gone hs (by first | exact Or.inl h27 | exact Or.inr h33)).2)
                    · refine j_iload C dX7_follows_105 rfl ?_
                      refine q_if_ne0 C 115 dX7_follows_107 (by decide) (fun h107 => ?_) (fun h107 => ?_)
                      · refine j_iconst C (v := nI 1) dX7_follows_115 rfl ?_
                        refine j_goto C 120 dX7_follows_116 ?_ (by decide)
                        exact q_zretS C CM rfl (by decide) (by decide) dX7_follows_120 (by first | exact nI_bI1 (by rw [fw_gone hs (by first | exact Or.inl h27 | exact Or.inr h33), h102]; rfl) | exact nI_bI1 (by rw [fw_gone hs (by first | exact Or.inl h27 | exact Or.inr h33), h107, Bool.or_true]; rfl) | exact nI_bI1 (by rw [fw_gone hs (by first | exact Or.inl h27 | exact Or.inr h33), h112, Bool.or_true]) | exact nI_bI0 (by rw [fw_gone hs (by first | exact Or.inl h27 | exact Or.inr h33), h102, h107, h112]; rfl)) (fm_0 hA (fl_gone hs (by first | exact Or.inl h27 | exact Or.inr h33)).2)
                      · refine j_iload C dX7_follows_110 rfl ?_
                        refine q_if_eq0 C 119 dX7_follows_112 (by decide) (fun h112 => ?_) (fun h112 => ?_)
                        · refine j_iconst C (v := nI 0) dX7_follows_119 rfl ?_
                          exact q_zretS C CM rfl (by decide) (by decide) dX7_follows_120 (by first | exact nI_bI1 (by rw [fw_gone hs (by first | exact Or.inl h27 | exact Or.inr h33), h102]; rfl) | exact nI_bI1 (by rw [fw_gone hs (by first | exact Or.inl h27 | exact Or.inr h33), h107, Bool.or_true]; rfl) | exact nI_bI1 (by rw [fw_gone hs (by first | exact Or.inl h27 | exact Or.inr h33), h112, Bool.or_true]) | exact nI_bI0 (by rw [fw_gone hs (by first | exact Or.inl h27 | exact Or.inr h33), h102, h107, h112]; rfl)) (fm_0 hA (fl_gone hs (by first | exact Or.inl h27 | exact Or.inr h33)).2)
                        · refine j_iconst C (v := nI 1) dX7_follows_115 rfl ?_
                          refine j_goto C 120 dX7_follows_116 ?_ (by decide)
                          exact q_zretS C CM rfl (by decide) (by decide) dX7_follows_120 (by first | exact nI_bI1 (by rw [fw_gone hs (by first | exact Or.inl h27 | exact Or.inr h33), h102]; rfl) | exact nI_bI1 (by rw [fw_gone hs (by first | exact Or.inl h27 | exact Or.inr h33), h107, Bool.or_true]; rfl) | exact nI_bI1 (by rw [fw_gone hs (by first | exact Or.inl h27 | exact Or.inr h33), h112, Bool.or_true]) | exact nI_bI0 (by rw [fw_gone hs (by first | exact Or.inl h27 | exact Or.inr h33), h102, h107, h112]; rfl)) (fm_0 hA (fl_gone hs (by first | exact Or.inl h27 | exact Or.inr h33)).2)
                  exact q_st (K98) (by first | exact nI_bI1 (by rw [decide_eq_true ((oI_eq (b := some p) (fun w hw => Nat.lt_trans (mv_some hw hp).1 (by decide)) (fun w hw => by cases hw; omega)).mp h79), decide_eq_true ((oI_eq (nI_lt8 hv hp) (nI_lt8 ht hp)).mp h90)]; rfl) | exact nI_bI0 (by rw [decide_eq_false (p := v p = t p) (fun e => h90 ((oI_eq (nI_lt8 hv hp) (nI_lt8 ht hp)).mpr e)), Bool.and_false]) | exact nI_bI0 (by rw [decide_eq_false (p := (moO t v p) = some p) (fun e => h79 ((oI_eq (b := some p) (fun w hw => Nat.lt_trans (mv_some hw hp).1 (by decide)) (fun w hw => by cases hw; omega)).mpr e))]; rfl)) (gLe_c rfl (gLe_c rfl (gLe_c rfl (gLe_c rfl (gLe_c rfl (gLe_c rfl (gLe_c rfl (gLe_c rfl (gLe_c rfl (gLe_n (gLe_n (gLe_n gLe_0))))))))))))
                · refine j_iconst C (v := nI 1) dX7_follows_93 rfl ?_
                  refine j_goto C 98 dX7_follows_94 ?_ (by decide)
                  have K98 : Q G X 0 0 98 [some (.ref (gb G + 156)), some (.ref (gb G + a)), some (.ref (gb G + b)), some (.ref (gb G + c)), some (.int (nI p)), some (.int (oI (moO t u p))), some (.int (oI (moO t v p))), some (.int (bI (decide ((moO t u p) = (moO t v p))))), some (.int (bI (decide ((moO t u p) = some p) && decide (u p = t p)))), none, none, none] [.int (bI ((decide ((moO t v p) = some p) && decide (v p = t p))))] M := by
                    skip
                    refine j_istore C dX7_follows_98 (by decide) rfl ?_
                    refine j_iload C dX7_follows_100 rfl ?_
                    refine q_if_ne0 C 115 dX7_follows_102 (by decide) (fun h102 => ?_) (fun h102 => ?_)
                    · refine j_iconst C (v := nI 1) dX7_follows_115 rfl ?_
                      refine j_goto C 120 dX7_follows_116 ?_ (by decide)
                      exact q_zretS C CM rfl (by decide) (by decide) dX7_follows_120 (by first | exact nI_bI1 (by rw [fw_gone hs (by first | exact Or.inl h27 | exact Or.inr h33), h102]; rfl) | exact nI_bI1 (by rw [fw_gone hs (by first | exact Or.inl h27 | exact Or.inr h33), h107, Bool.or_true]; rfl) | exact nI_bI1 (by rw [fw_gone hs (by first | exact Or.inl h27 | exact Or.inr h33), h112, Bool.or_true]) | exact nI_bI0 (by rw [fw_gone hs (by first | exact Or.inl h27 | exact Or.inr h33), h102, h107, h112]; rfl)) (fm_0 hA (fl_gone hs (by first | exact Or.inl h27 | exact Or.inr h33)).2)
                    · refine j_iload C dX7_follows_105 rfl ?_
                      refine q_if_ne0 C 115 dX7_follows_107 (by decide) (fun h107 => ?_) (fun h107 => ?_)
                      · refine j_iconst C (v := nI 1) dX7_follows_115 rfl ?_
                        refine j_goto C 120 dX7_follows_116 ?_ (by decide)
                        exact q_zretS C CM rfl (by decide) (by decide) dX7_follows_120 (by first | exact nI_bI1 (by rw [fw_gone hs (by first | exact Or.inl h27 | exact Or.inr h33), h102]; rfl) | exact nI_bI1 (by rw [fw_gone hs (by first | exact Or.inl h27 | exact Or.inr h33), h107, Bool.or_true]; rfl) | exact nI_bI1 (by rw [fw_gone hs (by first | exact Or.inl h27 | exact Or.inr h33), h112, Bool.or_true]) | exact nI_bI0 (by rw [fw_gone hs (by first | exact Or.inl h27 | exact Or.inr h33), h102, h107, h112]; rfl)) (fm_0 hA (fl_gone hs (by first | exact Or.inl h27 | exact Or.inr h33)).2)
                      · refine j_iload C dX7_follows_110 rfl ?_
                        refine q_if_eq0 C 119 dX7_follows_112 (by decide) (fun h112 => ?_) (fun h112 => ?_)
                        · refine j_iconst C (v := nI 0) dX7_follows_119 rfl ?_
                          exact q_zretS C CM rfl (by decide) (by decide) dX7_follows_120 (by first | exact nI_bI1 (by rw [fw_gone hs (by first | exact Or.inl h27 | exact Or.inr h33), h102]; rfl) | exact nI_bI1 (by rw [fw_gone hs (by first | exact Or.inl h27 | exact Or.inr h33), h107, Bool.or_true]; rfl) | exact nI_bI1 (by rw [fw_gone hs (by first | exact Or.inl h27 | exact Or.inr h33), h112, Bool.or_true]) | exact nI_bI0 (by rw [fw_gone hs (by first | exact Or.inl h27 | exact Or.inr h33), h102, h107, h112]; rfl)) (fm_0 hA (fl_gone hs (by first | exact Or.inl h27 | exact Or.inr h33)).2)
                        · refine j_iconst C (v := nI 1) dX7_follows_115 rfl ?_
                          refine j_goto C 120 dX7_follows_116 ?_ (by decide)
                          exact q_zretS C CM rfl (by decide) (by decide) dX7_follows_120 (by first | exact nI_bI1 (by rw [fw_gone hs (by first | exact Or.inl h27 | exact Or.inr h33), h102]; rfl) | exact nI_bI1 (by rw [fw_gone hs (by first | exact Or.inl h27 | exact Or.inr h33), h107, Bool.or_true]; rfl) | exact nI_bI1 (by rw [fw_gone hs (by first | exact Or.inl h27 | exact Or.inr h33), h112, Bool.or_true]) | exact nI_bI0 (by rw [fw_gone hs (by first | exact Or.inl h27 | exact Or.inr h33), h102, h107, h112]; rfl)) (fm_0 hA (fl_gone hs (by first | exact Or.inl h27 | exact Or.inr h33)).2)
                  exact q_st (K98) (by first | exact nI_bI1 (by rw [decide_eq_true ((oI_eq (b := some p) (fun w hw => Nat.lt_trans (mv_some hw hp).1 (by decide)) (fun w hw => by cases hw; omega)).mp h79), decide_eq_true ((oI_eq (nI_lt8 hv hp) (nI_lt8 ht hp)).mp h90)]; rfl) | exact nI_bI0 (by rw [decide_eq_false (p := v p = t p) (fun e => h90 ((oI_eq (nI_lt8 hv hp) (nI_lt8 ht hp)).mpr e)), Bool.and_false]) | exact nI_bI0 (by rw [decide_eq_false (p := (moO t v p) = some p) (fun e => h79 ((oI_eq (b := some p) (fun w hw => Nat.lt_trans (mv_some hw hp).1 (by decide)) (fun w hw => by cases hw; omega)).mpr e))]; rfl)) (gLe_c rfl (gLe_c rfl (gLe_c rfl (gLe_c rfl (gLe_c rfl (gLe_c rfl (gLe_c rfl (gLe_c rfl (gLe_c rfl (gLe_n (gLe_n (gLe_n gLe_0))))))))))))
            exact q_st (K73) (by first | exact nI_bI1 (by rw [decide_eq_true ((oI_eq (b := some p) (fun w hw => Nat.lt_trans (mv_some hw hp).1 (by decide)) (fun w hw => by cases hw; omega)).mp h54), decide_eq_true ((oI_eq (nI_lt8 hu hp) (nI_lt8 ht hp)).mp h65)]; rfl) | exact nI_bI0 (by rw [decide_eq_false (p := u p = t p) (fun e => h65 ((oI_eq (nI_lt8 hu hp) (nI_lt8 ht hp)).mpr e)), Bool.and_false]) | exact nI_bI0 (by rw [decide_eq_false (p := (moO t u p) = some p) (fun e => h54 ((oI_eq (b := some p) (fun w hw => Nat.lt_trans (mv_some hw hp).1 (by decide)) (fun w hw => by cases hw; omega)).mpr e))]; rfl)) (gLe_c rfl (gLe_c rfl (gLe_c rfl (gLe_c rfl (gLe_c rfl (gLe_c rfl (gLe_c rfl (gLe_c rfl (gLe_n (gLe_n (gLe_n (gLe_n gLe_0))))))))))))
      exact q_st (K48) (by first | exact nI_bI1 (decide_eq_true ((oI_eq (fun w hw => Nat.lt_trans (mv_some hw hp).1 (by decide)) (fun w hw => Nat.lt_trans (mv_some hw hp).1 (by decide))).mp h40)) | exact nI_bI0 (decide_eq_false (fun e => h40 ((oI_eq (fun w hw => Nat.lt_trans (mv_some hw hp).1 (by decide)) (fun w hw => Nat.lt_trans (mv_some hw hp).1 (by decide))).mpr e)))) (gLe_c rfl (gLe_c rfl (gLe_c rfl (gLe_c rfl (gLe_c rfl (gLe_c rfl (gLe_c rfl (gLe_n (gLe_n (gLe_n (gLe_n (gLe_n gLe_0))))))))))))
    · refine j_iconst C (v := nI 1) dX7_follows_43 rfl ?_
      refine j_goto C 48 dX7_follows_44 ?_ (by decide)
      have K48 : Q G X 0 0 48 [some (.ref (gb G + 156)), some (.ref (gb G + a)), some (.ref (gb G + b)), some (.ref (gb G + c)), some (.int (nI p)), some (.int (oI (moO t u p))), some (.int (oI (moO t v p))), none, none, none, none, none] [.int (bI (decide ((moO t u p) = (moO t v p))))] M := by
        skip
        refine j_istore C dX7_follows_48 (by decide) rfl ?_
        refine j_iload C dX7_follows_50 rfl ?_
        refine j_iload C dX7_follows_52 rfl ?_
        refine j_icmp_ne C 72 dX7_follows_54 (fun h54 => ?_) (fun h54 => ?_) (by decide)
        · refine j_iconst C (v := nI 0) dX7_follows_72 rfl ?_
          have K73 : Q G X 0 0 73 [some (.ref (gb G + 156)), some (.ref (gb G + a)), some (.ref (gb G + b)), some (.ref (gb G + c)), some (.int (nI p)), some (.int (oI (moO t u p))), some (.int (oI (moO t v p))), some (.int (bI (decide ((moO t u p) = (moO t v p))))), none, none, none, none] [.int (bI ((decide ((moO t u p) = some p) && decide (u p = t p))))] M := by
            skip
            refine j_istore C dX7_follows_73 (by decide) rfl ?_
            refine j_iload C dX7_follows_75 rfl ?_
            refine j_iload C dX7_follows_77 rfl ?_
            refine j_icmp_ne C 97 dX7_follows_79 (fun h79 => ?_) (fun h79 => ?_) (by decide)
            · refine j_iconst C (v := nI 0) dX7_follows_97 rfl ?_
              have K98 : Q G X 0 0 98 [some (.ref (gb G + 156)), some (.ref (gb G + a)), some (.ref (gb G + b)), some (.ref (gb G + c)), some (.int (nI p)), some (.int (oI (moO t u p))), some (.int (oI (moO t v p))), some (.int (bI (decide ((moO t u p) = (moO t v p))))), some (.int (bI (decide ((moO t u p) = some p) && decide (u p = t p)))), none, none, none] [.int (bI ((decide ((moO t v p) = some p) && decide (v p = t p))))] M := by
                skip
                refine j_istore C dX7_follows_98 (by decide) rfl ?_
                refine j_iload C dX7_follows_100 rfl ?_
                refine q_if_ne0 C 115 dX7_follows_102 (by decide) (fun h102 => ?_) (fun h102 => ?_)
                · refine j_iconst C (v := nI 1) dX7_follows_115 rfl ?_
                  refine j_goto C 120 dX7_follows_116 ?_ (by decide)
                  exact q_zretS C CM rfl (by decide) (by decide) dX7_follows_120 (by first | exact nI_bI1 (by rw [fw_gone hs (by first | exact Or.inl h27 | exact Or.inr h33), h102]; rfl) | exact nI_bI1 (by rw [fw_gone hs (by first | exact Or.inl h27 | exact Or.inr h33), h107, Bool.or_true]; rfl) | exact nI_bI1 (by rw [fw_gone hs (by first | exact Or.inl h27 | exact Or.inr h33), h112, Bool.or_true]) | exact nI_bI0 (by rw [fw_gone hs (by first | exact Or.inl h27 | exact Or.inr h33), h102, h107, h112]; rfl)) (fm_0 hA (fl_gone hs (by first | exact Or.inl h27 | exact Or.inr h33)).2)
                · refine j_iload C dX7_follows_105 rfl ?_
                  refine q_if_ne0 C 115 dX7_follows_107 (by decide) (fun h107 => ?_) (fun h107 => ?_)
                  · refine j_iconst C (v := nI 1) dX7_follows_115 rfl ?_
                    refine j_goto C 120 dX7_follows_116 ?_ (by decide)
                    exact q_zretS C CM rfl (by decide) (by decide) dX7_follows_120 (by first | exact nI_bI1 (by rw [fw_gone hs (by first | exact Or.inl h27 | exact Or.inr h33), h102]; rfl) | exact nI_bI1 (by rw [fw_gone hs (by first | exact Or.inl h27 | exact Or.inr h33), h107, Bool.or_true]; rfl) | exact nI_bI1 (by rw [fw_gone hs (by first | exact Or.inl h27 | exact Or.inr h33), h112, Bool.or_true]) | exact nI_bI0 (by rw [fw_gone hs (by first | exact Or.inl h27 | exact Or.inr h33), h102, h107, h112]; rfl)) (fm_0 hA (fl_gone hs (by first | exact Or.inl h27 | exact Or.inr h33)).2)
                  · refine j_iload C dX7_follows_110 rfl ?_
                    refine q_if_eq0 C 119 dX7_follows_112 (by decide) (fun h112 => ?_) (fun h112 => ?_)
                    · refine j_iconst C (v := nI 0) dX7_follows_119 rfl ?_
                      exact q_zretS C CM rfl (by decide) (by decide) dX7_follows_120 (by first | exact nI_bI1 (by rw [fw_gone hs (by first | exact Or.inl h27 | exact Or.inr h33), h102]; rfl) | exact nI_bI1 (by rw [fw_gone hs (by first | exact Or.inl h27 | exact Or.inr h33), h107, Bool.or_true]; rfl) | exact nI_bI1 (by rw [fw_gone hs (by first | exact Or.inl h27 | exact Or.inr h33), h112, Bool.or_true]) | exact nI_bI0 (by rw [fw_gone hs (by first | exact Or.inl h27 | exact Or.inr h33), h102, h107, h112]; rfl)) (fm_0 hA (fl_gone hs (by first | exact Or.inl h27 | exact Or.inr h33)).2)
                    · refine j_iconst C (v := nI 1) dX7_follows_115 rfl ?_
                      refine j_goto C 120 dX7_follows_116 ?_ (by decide)
                      exact q_zretS C CM rfl (by decide) (by decide) dX7_follows_120 (by first | exact nI_bI1 (by rw [fw_gone hs (by first | exact Or.inl h27 | exact Or.inr h33), h102]; rfl) | exact nI_bI1 (by rw [fw_gone hs (by first | exact Or.inl h27 | exact Or.inr h33), h107, Bool.or_true]; rfl) | exact nI_bI1 (by rw [fw_gone hs (by first | exact Or.inl h27 | exact Or.inr h33), h112, Bool.or_true]) | exact nI_bI0 (by rw [fw_gone hs (by first | exact Or.inl h27 | exact Or.inr h33), h102, h107, h112]; rfl)) (fm_0 hA (fl_gone hs (by first | exact Or.inl h27 | exact Or.inr h33)).2)
              exact q_st (K98) (by first | exact nI_bI1 (by rw [decide_eq_true ((oI_eq (b := some p) (fun w hw => Nat.lt_trans (mv_some hw hp).1 (by decide)) (fun w hw => by cases hw; omega)).mp h79), decide_eq_true ((oI_eq (nI_lt8 hv hp) (nI_lt8 ht hp)).mp h90)]; rfl) | exact nI_bI0 (by rw [decide_eq_false (p := v p = t p) (fun e => h90 ((oI_eq (nI_lt8 hv hp) (nI_lt8 ht hp)).mpr e)), Bool.and_false]) | exact nI_bI0 (by rw [decide_eq_false (p := (moO t v p) = some p) (fun e => h79 ((oI_eq (b := some p) (fun w hw => Nat.lt_trans (mv_some hw hp).1 (by decide)) (fun w hw => by cases hw; omega)).mpr e))]; rfl)) (gLe_c rfl (gLe_c rfl (gLe_c rfl (gLe_c rfl (gLe_c rfl (gLe_c rfl (gLe_c rfl (gLe_c rfl (gLe_c rfl (gLe_n (gLe_n (gLe_n gLe_0))))))))))))
            · refine j_aload_n C dX7_follows_82 rfl ?_
              refine j_iload C dX7_follows_83 rfl ?_
              refine q_iald C hc.1 hc.2 (by decide) (by omega) dX7_follows_85 ?_
              rw [hsv p hp]
              refine j_aload_n C dX7_follows_86 rfl ?_
              refine j_iload C dX7_follows_87 rfl ?_
              refine q_iald C ha.1 ha.2 (by decide) (by omega) dX7_follows_89 ?_
              rw [hr p hp]
              refine j_icmp_ne C 97 dX7_follows_90 (fun h90 => ?_) (fun h90 => ?_) (by decide)
              · refine j_iconst C (v := nI 0) dX7_follows_97 rfl ?_
                have K98 : Q G X 0 0 98 [some (.ref (gb G + 156)), some (.ref (gb G + a)), some (.ref (gb G + b)), some (.ref (gb G + c)), some (.int (nI p)), some (.int (oI (moO t u p))), some (.int (oI (moO t v p))), some (.int (bI (decide ((moO t u p) = (moO t v p))))), some (.int (bI (decide ((moO t u p) = some p) && decide (u p = t p)))), none, none, none] [.int (bI ((decide ((moO t v p) = some p) && decide (v p = t p))))] M := by
                  skip
                  refine j_istore C dX7_follows_98 (by decide) rfl ?_
                  refine j_iload C dX7_follows_100 rfl ?_
                  refine q_if_ne0 C 115 dX7_follows_102 (by decide) (fun h102 => ?_) (fun h102 => ?_)
                  · refine j_iconst C (v := nI 1) dX7_follows_115 rfl ?_
                    refine j_goto C 120 dX7_follows_116 ?_ (by decide)
                    exact q_zretS C CM rfl (by decide) (by decide) dX7_follows_120 (by first | exact nI_bI1 (by rw [fw_gone hs (by first | exact Or.inl h27 | exact Or.inr h33), h102]; rfl) | exact nI_bI1 (by rw [fw_gone hs (by first | exact Or.inl h27 | exact Or.inr h33), h107, Bool.or_true]; rfl) | exact nI_bI1 (by rw [fw_gone hs (by first | exact Or.inl h27 | exact Or.inr h33), h112, Bool.or_true]) | exact nI_bI0 (by rw [fw_gone hs (by first | exact Or.inl h27 | exact Or.inr h33), h102, h107, h112]; rfl)) (fm_0 hA (fl_gone hs (by first | exact Or.inl h27 | exact Or.inr h33)).2)
                  · refine j_iload C dX7_follows_105 rfl ?_
                    refine q_if_ne0 C 115 dX7_follows_107 (by decide) (fun h107 => ?_) (fun h107 => ?_)
                    · refine j_iconst C (v := nI 1) dX7_follows_115 rfl ?_
                      refine j_goto C 120 dX7_follows_116 ?_ (by decide)
                      exact q_zretS C CM rfl (by decide) (by decide) dX7_follows_120 (by first | exact nI_bI1 (by rw [fw_gone hs (by first | exact Or.inl h27 | exact Or.inr h33), h102]; rfl) | exact nI_bI1 (by rw [fw_gone hs (by first | exact Or.inl h27 | exact Or.inr h33), h107, Bool.or_true]; rfl) | exact nI_bI1 (by rw [fw_gone hs (by first | exact Or.inl h27 | exact Or.inr h33), h112, Bool.or_true]) | exact nI_bI0 (by rw [fw_gone hs (by first | exact Or.inl h27 | exact Or.inr h33), h102, h107, h112]; rfl)) (fm_0 hA (fl_gone hs (by first | exact Or.inl h27 | exact Or.inr h33)).2)
                    · refine j_iload C dX7_follows_110 rfl ?_
                      refine q_if_eq0 C 119 dX7_follows_112 (by decide) (fun h112 => ?_) (fun h112 => ?_)
                      · refine j_iconst C (v := nI 0) dX7_follows_119 rfl ?_
                        exact q_zretS C CM rfl (by decide) (by decide) dX7_follows_120 (by first | exact nI_bI1 (by rw [fw_gone hs (by first | exact Or.inl h27 | exact Or.inr h33), h102]; rfl) | exact nI_bI1 (by rw [fw_gone hs (by first | exact Or.inl h27 | exact Or.inr h33), h107, Bool.or_true]; rfl) | exact nI_bI1 (by rw [fw_gone hs (by first | exact Or.inl h27 | exact Or.inr h33), h112, Bool.or_true]) | exact nI_bI0 (by rw [fw_gone hs (by first | exact Or.inl h27 | exact Or.inr h33), h102, h107, h112]; rfl)) (fm_0 hA (fl_gone hs (by first | exact Or.inl h27 | exact Or.inr h33)).2)
                      · refine j_iconst C (v := nI 1) dX7_follows_115 rfl ?_
                        refine j_goto C 120 dX7_follows_116 ?_ (by decide)
                        exact q_zretS C CM rfl (by decide) (by decide) dX7_follows_120 (by first | exact nI_bI1 (by rw [fw_gone hs (by first | exact Or.inl h27 | exact Or.inr h33), h102]; rfl) | exact nI_bI1 (by rw [fw_gone hs (by first | exact Or.inl h27 | exact Or.inr h33), h107, Bool.or_true]; rfl) | exact nI_bI1 (by rw [fw_gone hs (by first | exact Or.inl h27 | exact Or.inr h33), h112, Bool.or_true]) | exact nI_bI0 (by rw [fw_gone hs (by first | exact Or.inl h27 | exact Or.inr h33), h102, h107, h112]; rfl)) (fm_0 hA (fl_gone hs (by first | exact Or.inl h27 | exact Or.inr h33)).2)
                exact q_st (K98) (by first | exact nI_bI1 (by rw [decide_eq_true ((oI_eq (b := some p) (fun w hw => Nat.lt_trans (mv_some hw hp).1 (by decide)) (fun w hw => by cases hw; omega)).mp h79), decide_eq_true ((oI_eq (nI_lt8 hv hp) (nI_lt8 ht hp)).mp h90)]; rfl) | exact nI_bI0 (by rw [decide_eq_false (p := v p = t p) (fun e => h90 ((oI_eq (nI_lt8 hv hp) (nI_lt8 ht hp)).mpr e)), Bool.and_false]) | exact nI_bI0 (by rw [decide_eq_false (p := (moO t v p) = some p) (fun e => h79 ((oI_eq (b := some p) (fun w hw => Nat.lt_trans (mv_some hw hp).1 (by decide)) (fun w hw => by cases hw; omega)).mpr e))]; rfl)) (gLe_c rfl (gLe_c rfl (gLe_c rfl (gLe_c rfl (gLe_c rfl (gLe_c rfl (gLe_c rfl (gLe_c rfl (gLe_c rfl (gLe_n (gLe_n (gLe_n gLe_0))))))))))))
              · refine j_iconst C (v := nI 1) dX7_follows_93 rfl ?_
                refine j_goto C 98 dX7_follows_94 ?_ (by decide)
                have K98 : Q G X 0 0 98 [some (.ref (gb G + 156)), some (.ref (gb G + a)), some (.ref (gb G + b)), some (.ref (gb G + c)), some (.int (nI p)), some (.int (oI (moO t u p))), some (.int (oI (moO t v p))), some (.int (bI (decide ((moO t u p) = (moO t v p))))), some (.int (bI (decide ((moO t u p) = some p) && decide (u p = t p)))), none, none, none] [.int (bI ((decide ((moO t v p) = some p) && decide (v p = t p))))] M := by
                  skip
                  refine j_istore C dX7_follows_98 (by decide) rfl ?_
                  refine j_iload C dX7_follows_100 rfl ?_
                  refine q_if_ne0 C 115 dX7_follows_102 (by decide) (fun h102 => ?_) (fun h102 => ?_)
                  · refine j_iconst C (v := nI 1) dX7_follows_115 rfl ?_
                    refine j_goto C 120 dX7_follows_116 ?_ (by decide)
                    exact q_zretS C CM rfl (by decide) (by decide) dX7_follows_120 (by first | exact nI_bI1 (by rw [fw_gone hs (by first | exact Or.inl h27 | exact Or.inr h33), h102]; rfl) | exact nI_bI1 (by rw [fw_gone hs (by first | exact Or.inl h27 | exact Or.inr h33), h107, Bool.or_true]; rfl) | exact nI_bI1 (by rw [fw_gone hs (by first | exact Or.inl h27 | exact Or.inr h33), h112, Bool.or_true]) | exact nI_bI0 (by rw [fw_gone hs (by first | exact Or.inl h27 | exact Or.inr h33), h102, h107, h112]; rfl)) (fm_0 hA (fl_gone hs (by first | exact Or.inl h27 | exact Or.inr h33)).2)
                  · refine j_iload C dX7_follows_105 rfl ?_
                    refine q_if_ne0 C 115 dX7_follows_107 (by decide) (fun h107 => ?_) (fun h107 => ?_)
                    · refine j_iconst C (v := nI 1) dX7_follows_115 rfl ?_
                      refine j_goto C 120 dX7_follows_116 ?_ (by decide)
                      exact q_zretS C CM rfl (by decide) (by decide) dX7_follows_120 (by first | exact nI_bI1 (by rw [fw_gone hs (by first | exact Or.inl h27 | exact Or.inr h33), h102]; rfl) | exact nI_bI1 (by rw [fw_gone hs (by first | exact Or.inl h27 | exact Or.inr h33), h107, Bool.or_true]; rfl) | exact nI_bI1 (by rw [fw_gone hs (by first | exact Or.inl h27 | exact Or.inr h33), h112, Bool.or_true]) | exact nI_bI0 (by rw [fw_gone hs (by first | exact Or.inl h27 | exact Or.inr h33), h102, h107, h112]; rfl)) (fm_0 hA (fl_gone hs (by first | exact Or.inl h27 | exact Or.inr h33)).2)
                    · refine j_iload C dX7_follows_110 rfl ?_
                      refine q_if_eq0 C 119 dX7_follows_112 (by decide) (fun h112 => ?_) (fun h112 => ?_)
                      · refine j_iconst C (v := nI 0) dX7_follows_119 rfl ?_
                        exact q_zretS C CM rfl (by decide) (by decide) dX7_follows_120 (by first | exact nI_bI1 (by rw [fw_gone hs (by first | exact Or.inl h27 | exact Or.inr h33), h102]; rfl) | exact nI_bI1 (by rw [fw_gone hs (by first | exact Or.inl h27 | exact Or.inr h33), h107, Bool.or_true]; rfl) | exact nI_bI1 (by rw [fw_gone hs (by first | exact Or.inl h27 | exact Or.inr h33), h112, Bool.or_true]) | exact nI_bI0 (by rw [fw_gone hs (by first | exact Or.inl h27 | exact Or.inr h33), h102, h107, h112]; rfl)) (fm_0 hA (fl_gone hs (by first | exact Or.inl h27 | exact Or.inr h33)).2)
                      · refine j_iconst C (v := nI 1) dX7_follows_115 rfl ?_
                        refine j_goto C 120 dX7_follows_116 ?_ (by decide)
                        exact q_zretS C CM rfl (by decide) (by decide) dX7_follows_120 (by first | exact nI_bI1 (by rw [fw_gone hs (by first | exact Or.inl h27 | exact Or.inr h33), h102]; rfl) | exact nI_bI1 (by rw [fw_gone hs (by first | exact Or.inl h27 | exact Or.inr h33), h107, Bool.or_true]; rfl) | exact nI_bI1 (by rw [fw_gone hs (by first | exact Or.inl h27 | exact Or.inr h33), h112, Bool.or_true]) | exact nI_bI0 (by rw [fw_gone hs (by first | exact Or.inl h27 | exact Or.inr h33), h102, h107, h112]; rfl)) (fm_0 hA (fl_gone hs (by first | exact Or.inl h27 | exact Or.inr h33)).2)
                exact q_st (K98) (by first | exact nI_bI1 (by rw [decide_eq_true ((oI_eq (b := some p) (fun w hw => Nat.lt_trans (mv_some hw hp).1 (by decide)) (fun w hw => by cases hw; omega)).mp h79), decide_eq_true ((oI_eq (nI_lt8 hv hp) (nI_lt8 ht hp)).mp h90)]; rfl) | exact nI_bI0 (by rw [decide_eq_false (p := v p = t p) (fun e => h90 ((oI_eq (nI_lt8 hv hp) (nI_lt8 ht hp)).mpr e)), Bool.and_false]) | exact nI_bI0 (by rw [decide_eq_false (p := (moO t v p) = some p) (fun e => h79 ((oI_eq (b := some p) (fun w hw => Nat.lt_trans (mv_some hw hp).1 (by decide)) (fun w hw => by cases hw; omega)).mpr e))]; rfl)) (gLe_c rfl (gLe_c rfl (gLe_c rfl (gLe_c rfl (gLe_c rfl (gLe_c rfl (gLe_c rfl (gLe_c rfl (gLe_c rfl (gLe_n (gLe_n (gLe_n gLe_0))))))))))))
          exact q_st (K73) (by first | exact nI_bI1 (by rw [decide_eq_true ((oI_eq (b := some p) (fun w hw => Nat.lt_trans (mv_some hw hp).1 (by decide)) (fun w hw => by cases hw; omega)).mp h54), decide_eq_true ((oI_eq (nI_lt8 hu hp) (nI_lt8 ht hp)).mp h65)]; rfl) | exact nI_bI0 (by rw [decide_eq_false (p := u p = t p) (fun e => h65 ((oI_eq (nI_lt8 hu hp) (nI_lt8 ht hp)).mpr e)), Bool.and_false]) | exact nI_bI0 (by rw [decide_eq_false (p := (moO t u p) = some p) (fun e => h54 ((oI_eq (b := some p) (fun w hw => Nat.lt_trans (mv_some hw hp).1 (by decide)) (fun w hw => by cases hw; omega)).mpr e))]; rfl)) (gLe_c rfl (gLe_c rfl (gLe_c rfl (gLe_c rfl (gLe_c rfl (gLe_c rfl (gLe_c rfl (gLe_c rfl (gLe_n (gLe_n (gLe_n (gLe_n gLe_0))))))))))))
        · refine j_aload_n C dX7_follows_57 rfl ?_
          refine j_iload C dX7_follows_58 rfl ?_
          refine q_iald C hb.1 hb.2 (by decide) (by omega) dX7_follows_60 ?_
          rw [hsu p hp]
          refine j_aload_n C dX7_follows_61 rfl ?_
          refine j_iload C dX7_follows_62 rfl ?_
          refine q_iald C ha.1 ha.2 (by decide) (by omega) dX7_follows_64 ?_
          rw [hr p hp]
          refine j_icmp_ne C 72 dX7_follows_65 (fun h65 => ?_) (fun h65 => ?_) (by decide)
          · refine j_iconst C (v := nI 0) dX7_follows_72 rfl ?_
            have K73 : Q G X 0 0 73 [some (.ref (gb G + 156)), some (.ref (gb G + a)), some (.ref (gb G + b)), some (.ref (gb G + c)), some (.int (nI p)), some (.int (oI (moO t u p))), some (.int (oI (moO t v p))), some (.int (bI (decide ((moO t u p) = (moO t v p))))), none, none, none, none] [.int (bI ((decide ((moO t u p) = some p) && decide (u p = t p))))] M := by
              skip
              refine j_istore C dX7_follows_73 (by decide) rfl ?_
              refine j_iload C dX7_follows_75 rfl ?_
              refine j_iload C dX7_follows_77 rfl ?_
              refine j_icmp_ne C 97 dX7_follows_79 (fun h79 => ?_) (fun h79 => ?_) (by decide)
              · refine j_iconst C (v := nI 0) dX7_follows_97 rfl ?_
                have K98 : Q G X 0 0 98 [some (.ref (gb G + 156)), some (.ref (gb G + a)), some (.ref (gb G + b)), some (.ref (gb G + c)), some (.int (nI p)), some (.int (oI (moO t u p))), some (.int (oI (moO t v p))), some (.int (bI (decide ((moO t u p) = (moO t v p))))), some (.int (bI (decide ((moO t u p) = some p) && decide (u p = t p)))), none, none, none] [.int (bI ((decide ((moO t v p) = some p) && decide (v p = t p))))] M := by
                  skip
                  refine j_istore C dX7_follows_98 (by decide) rfl ?_
                  refine j_iload C dX7_follows_100 rfl ?_
                  refine q_if_ne0 C 115 dX7_follows_102 (by decide) (fun h102 => ?_) (fun h102 => ?_)
                  · refine j_iconst C (v := nI 1) dX7_follows_115 rfl ?_
                    refine j_goto C 120 dX7_follows_116 ?_ (by decide)
                    exact q_zretS C CM rfl (by decide) (by decide) dX7_follows_120 (by first | exact nI_bI1 (by rw [fw_gone hs (by first | exact Or.inl h27 | exact Or.inr h33), h102]; rfl) | exact nI_bI1 (by rw [fw_gone hs (by first | exact Or.inl h27 | exact Or.inr h33), h107, Bool.or_true]; rfl) | exact nI_bI1 (by rw [fw_gone hs (by first | exact Or.inl h27 | exact Or.inr h33), h112, Bool.or_true]) | exact nI_bI0 (by rw [fw_gone hs (by first | exact Or.inl h27 | exact Or.inr h33), h102, h107, h112]; rfl)) (fm_0 hA (fl_gone hs (by first | exact Or.inl h27 | exact Or.inr h33)).2)
                  · refine j_iload C dX7_follows_105 rfl ?_
                    refine q_if_ne0 C 115 dX7_follows_107 (by decide) (fun h107 => ?_) (fun h107 => ?_)
                    · refine j_iconst C (v := nI 1) dX7_follows_115 rfl ?_
                      refine j_goto C 120 dX7_follows_116 ?_ (by decide)
                      exact q_zretS C CM rfl (by decide) (by decide) dX7_follows_120 (by first | exact nI_bI1 (by rw [fw_gone hs (by first | exact Or.inl h27 | exact Or.inr h33), h102]; rfl) | exact nI_bI1 (by rw [fw_gone hs (by first | exact Or.inl h27 | exact Or.inr h33), h107, Bool.or_true]; rfl) | exact nI_bI1 (by rw [fw_gone hs (by first | exact Or.inl h27 | exact Or.inr h33), h112, Bool.or_true]) | exact nI_bI0 (by rw [fw_gone hs (by first | exact Or.inl h27 | exact Or.inr h33), h102, h107, h112]; rfl)) (fm_0 hA (fl_gone hs (by first | exact Or.inl h27 | exact Or.inr h33)).2)
                    · refine j_iload C dX7_follows_110 rfl ?_
                      refine q_if_eq0 C 119 dX7_follows_112 (by decide) (fun h112 => ?_) (fun h112 => ?_)
                      · refine j_iconst C (v := nI 0) dX7_follows_119 rfl ?_
                        exact q_zretS C CM rfl (by decide) (by decide) dX7_follows_120 (by first | exact nI_bI1 (by rw [fw_gone hs (by first | exact Or.inl h27 | exact Or.inr h33), h102]; rfl) | exact nI_bI1 (by rw [fw_gone hs (by first | exact Or.inl h27 | exact Or.inr h33), h107, Bool.or_true]; rfl) | exact nI_bI1 (by rw [fw_gone hs (by first | exact Or.inl h27 | exact Or.inr h33), h112, Bool.or_true]) | exact nI_bI0 (by rw [fw_gone hs (by first | exact Or.inl h27 | exact Or.inr h33), h102, h107, h112]; rfl)) (fm_0 hA (fl_gone hs (by first | exact Or.inl h27 | exact Or.inr h33)).2)
                      · refine j_iconst C (v := nI 1) dX7_follows_115 rfl ?_
                        refine j_goto C 120 dX7_follows_116 ?_ (by decide)
                        exact q_zretS C CM rfl (by decide) (by decide) dX7_follows_120 (by first | exact nI_bI1 (by rw [fw_gone hs (by first | exact Or.inl h27 | exact Or.inr h33), h102]; rfl) | exact nI_bI1 (by rw [fw_gone hs (by first | exact Or.inl h27 | exact Or.inr h33), h107, Bool.or_true]; rfl) | exact nI_bI1 (by rw [fw_gone hs (by first | exact Or.inl h27 | exact Or.inr h33), h112, Bool.or_true]) | exact nI_bI0 (by rw [fw_gone hs (by first | exact Or.inl h27 | exact Or.inr h33), h102, h107, h112]; rfl)) (fm_0 hA (fl_gone hs (by first | exact Or.inl h27 | exact Or.inr h33)).2)
                exact q_st (K98) (by first | exact nI_bI1 (by rw [decide_eq_true ((oI_eq (b := some p) (fun w hw => Nat.lt_trans (mv_some hw hp).1 (by decide)) (fun w hw => by cases hw; omega)).mp h79), decide_eq_true ((oI_eq (nI_lt8 hv hp) (nI_lt8 ht hp)).mp h90)]; rfl) | exact nI_bI0 (by rw [decide_eq_false (p := v p = t p) (fun e => h90 ((oI_eq (nI_lt8 hv hp) (nI_lt8 ht hp)).mpr e)), Bool.and_false]) | exact nI_bI0 (by rw [decide_eq_false (p := (moO t v p) = some p) (fun e => h79 ((oI_eq (b := some p) (fun w hw => Nat.lt_trans (mv_some hw hp).1 (by decide)) (fun w hw => by cases hw; omega)).mpr e))]; rfl)) (gLe_c rfl (gLe_c rfl (gLe_c rfl (gLe_c rfl (gLe_c rfl (gLe_c rfl (gLe_c rfl (gLe_c rfl (gLe_c rfl (gLe_n (gLe_n (gLe_n gLe_0))))))))))))
              · refine j_aload_n C dX7_follows_82 rfl ?_
                refine j_iload C dX7_follows_83 rfl ?_
                refine q_iald C hc.1 hc.2 (by decide) (by omega) dX7_follows_85 ?_
                rw [hsv p hp]
                refine j_aload_n C dX7_follows_86 rfl ?_
                refine j_iload C dX7_follows_87 rfl ?_
                refine q_iald C ha.1 ha.2 (by decide) (by omega) dX7_follows_89 ?_
                rw [hr p hp]
                refine j_icmp_ne C 97 dX7_follows_90 (fun h90 => ?_) (fun h90 => ?_) (by decide)
                · refine j_iconst C (v := nI 0) dX7_follows_97 rfl ?_
                  have K98 : Q G X 0 0 98 [some (.ref (gb G + 156)), some (.ref (gb G + a)), some (.ref (gb G + b)), some (.ref (gb G + c)), some (.int (nI p)), some (.int (oI (moO t u p))), some (.int (oI (moO t v p))), some (.int (bI (decide ((moO t u p) = (moO t v p))))), some (.int (bI (decide ((moO t u p) = some p) && decide (u p = t p)))), none, none, none] [.int (bI ((decide ((moO t v p) = some p) && decide (v p = t p))))] M := by
                    skip
                    refine j_istore C dX7_follows_98 (by decide) rfl ?_
                    refine j_iload C dX7_follows_100 rfl ?_
                    refine q_if_ne0 C 115 dX7_follows_102 (by decide) (fun h102 => ?_) (fun h102 => ?_)
                    · refine j_iconst C (v := nI 1) dX7_follows_115 rfl ?_
                      refine j_goto C 120 dX7_follows_116 ?_ (by decide)
                      exact q_zretS C CM rfl (by decide) (by decide) dX7_follows_120 (by first | exact nI_bI1 (by rw [fw_gone hs (by first | exact Or.inl h27 | exact Or.inr h33), h102]; rfl) | exact nI_bI1 (by rw [fw_gone hs (by first | exact Or.inl h27 | exact Or.inr h33), h107, Bool.or_true]; rfl) | exact nI_bI1 (by rw [fw_gone hs (by first | exact Or.inl h27 | exact Or.inr h33), h112, Bool.or_true]) | exact nI_bI0 (by rw [fw_gone hs (by first | exact Or.inl h27 | exact Or.inr h33), h102, h107, h112]; rfl)) (fm_0 hA (fl_gone hs (by first | exact Or.inl h27 | exact Or.inr h33)).2)
                    · refine j_iload C dX7_follows_105 rfl ?_
                      refine q_if_ne0 C 115 dX7_follows_107 (by decide) (fun h107 => ?_) (fun h107 => ?_)
                      · refine j_iconst C (v := nI 1) dX7_follows_115 rfl ?_
                        refine j_goto C 120 dX7_follows_116 ?_ (by decide)
                        exact q_zretS C CM rfl (by decide) (by decide) dX7_follows_120 (by first | exact nI_bI1 (by rw [fw_gone hs (by first | exact Or.inl h27 | exact Or.inr h33), h102]; rfl) | exact nI_bI1 (by rw [fw_gone hs (by first | exact Or.inl h27 | exact Or.inr h33), h107, Bool.or_true]; rfl) | exact nI_bI1 (by rw [fw_gone hs (by first | exact Or.inl h27 | exact Or.inr h33), h112, Bool.or_true]) | exact nI_bI0 (by rw [fw_gone hs (by first | exact Or.inl h27 | exact Or.inr h33), h102, h107, h112]; rfl)) (fm_0 hA (fl_gone hs (by first | exact Or.inl h27 | exact Or.inr h33)).2)
                      · refine j_iload C dX7_follows_110 rfl ?_
                        refine q_if_eq0 C 119 dX7_follows_112 (by decide) (fun h112 => ?_) (fun h112 => ?_)
                        · refine j_iconst C (v := nI 0) dX7_follows_119 rfl ?_
                          exact q_zretS C CM rfl (by decide) (by decide) dX7_follows_120 (by first | exact nI_bI1 (by rw [fw_gone hs (by first | exact Or.inl h27 | exact Or.inr h33), h102]; rfl) | exact nI_bI1 (by rw [fw_gone hs (by first | exact Or.inl h27 | exact Or.inr h33), h107, Bool.or_true]; rfl) | exact nI_bI1 (by rw [fw_gone hs (by first | exact Or.inl h27 | exact Or.inr h33), h112, Bool.or_true]) | exact nI_bI0 (by rw [fw_gone hs (by first | exact Or.inl h27 | exact Or.inr h33), h102, h107, h112]; rfl)) (fm_0 hA (fl_gone hs (by first | exact Or.inl h27 | exact Or.inr h33)).2)
                        · refine j_iconst C (v := nI 1) dX7_follows_115 rfl ?_
                          refine j_goto C 120 dX7_follows_116 ?_ (by decide)
                          exact q_zretS C CM rfl (by decide) (by decide) dX7_follows_120 (by first | exact nI_bI1 (by rw [fw_gone hs (by first | exact Or.inl h27 | exact Or.inr h33), h102]; rfl) | exact nI_bI1 (by rw [fw_gone hs (by first | exact Or.inl h27 | exact Or.inr h33), h107, Bool.or_true]; rfl) | exact nI_bI1 (by rw [fw_gone hs (by first | exact Or.inl h27 | exact Or.inr h33), h112, Bool.or_true]) | exact nI_bI0 (by rw [fw_gone hs (by first | exact Or.inl h27 | exact Or.inr h33), h102, h107, h112]; rfl)) (fm_0 hA (fl_gone hs (by first | exact Or.inl h27 | exact Or.inr h33)).2)
                  exact q_st (K98) (by first | exact nI_bI1 (by rw [decide_eq_true ((oI_eq (b := some p) (fun w hw => Nat.lt_trans (mv_some hw hp).1 (by decide)) (fun w hw => by cases hw; omega)).mp h79), decide_eq_true ((oI_eq (nI_lt8 hv hp) (nI_lt8 ht hp)).mp h90)]; rfl) | exact nI_bI0 (by rw [decide_eq_false (p := v p = t p) (fun e => h90 ((oI_eq (nI_lt8 hv hp) (nI_lt8 ht hp)).mpr e)), Bool.and_false]) | exact nI_bI0 (by rw [decide_eq_false (p := (moO t v p) = some p) (fun e => h79 ((oI_eq (b := some p) (fun w hw => Nat.lt_trans (mv_some hw hp).1 (by decide)) (fun w hw => by cases hw; omega)).mpr e))]; rfl)) (gLe_c rfl (gLe_c rfl (gLe_c rfl (gLe_c rfl (gLe_c rfl (gLe_c rfl (gLe_c rfl (gLe_c rfl (gLe_c rfl (gLe_n (gLe_n (gLe_n gLe_0))))))))))))
                · refine j_iconst C (v := nI 1) dX7_follows_93 rfl ?_
                  refine j_goto C 98 dX7_follows_94 ?_ (by decide)
                  have K98 : Q G X 0 0 98 [some (.ref (gb G + 156)), some (.ref (gb G + a)), some (.ref (gb G + b)), some (.ref (gb G + c)), some (.int (nI p)), some (.int (oI (moO t u p))), some (.int (oI (moO t v p))), some (.int (bI (decide ((moO t u p) = (moO t v p))))), some (.int (bI (decide ((moO t u p) = some p) && decide (u p = t p)))), none, none, none] [.int (bI ((decide ((moO t v p) = some p) && decide (v p = t p))))] M := by
                    skip
                    refine j_istore C dX7_follows_98 (by decide) rfl ?_
                    refine j_iload C dX7_follows_100 rfl ?_
                    refine q_if_ne0 C 115 dX7_follows_102 (by decide) (fun h102 => ?_) (fun h102 => ?_)
                    · refine j_iconst C (v := nI 1) dX7_follows_115 rfl ?_
                      refine j_goto C 120 dX7_follows_116 ?_ (by decide)
                      exact q_zretS C CM rfl (by decide) (by decide) dX7_follows_120 (by first | exact nI_bI1 (by rw [fw_gone hs (by first | exact Or.inl h27 | exact Or.inr h33), h102]; rfl) | exact nI_bI1 (by rw [fw_gone hs (by first | exact Or.inl h27 | exact Or.inr h33), h107, Bool.or_true]; rfl) | exact nI_bI1 (by rw [fw_gone hs (by first | exact Or.inl h27 | exact Or.inr h33), h112, Bool.or_true]) | exact nI_bI0 (by rw [fw_gone hs (by first | exact Or.inl h27 | exact Or.inr h33), h102, h107, h112]; rfl)) (fm_0 hA (fl_gone hs (by first | exact Or.inl h27 | exact Or.inr h33)).2)
                    · refine j_iload C dX7_follows_105 rfl ?_
                      refine q_if_ne0 C 115 dX7_follows_107 (by decide) (fun h107 => ?_) (fun h107 => ?_)
                      · refine j_iconst C (v := nI 1) dX7_follows_115 rfl ?_
                        refine j_goto C 120 dX7_follows_116 ?_ (by decide)
                        exact q_zretS C CM rfl (by decide) (by decide) dX7_follows_120 (by first | exact nI_bI1 (by rw [fw_gone hs (by first | exact Or.inl h27 | exact Or.inr h33), h102]; rfl) | exact nI_bI1 (by rw [fw_gone hs (by first | exact Or.inl h27 | exact Or.inr h33), h107, Bool.or_true]; rfl) | exact nI_bI1 (by rw [fw_gone hs (by first | exact Or.inl h27 | exact Or.inr h33), h112, Bool.or_true]) | exact nI_bI0 (by rw [fw_gone hs (by first | exact Or.inl h27 | exact Or.inr h33), h102, h107, h112]; rfl)) (fm_0 hA (fl_gone hs (by first | exact Or.inl h27 | exact Or.inr h33)).2)
                      · refine j_iload C dX7_follows_110 rfl ?_
                        refine q_if_eq0 C 119 dX7_follows_112 (by decide) (fun h112 => ?_) (fun h112 => ?_)
                        · refine j_iconst C (v := nI 0) dX7_follows_119 rfl ?_
                          exact q_zretS C CM rfl (by decide) (by decide) dX7_follows_120 (by first | exact nI_bI1 (by rw [fw_gone hs (by first | exact Or.inl h27 | exact Or.inr h33), h102]; rfl) | exact nI_bI1 (by rw [fw_gone hs (by first | exact Or.inl h27 | exact Or.inr h33), h107, Bool.or_true]; rfl) | exact nI_bI1 (by rw [fw_gone hs (by first | exact Or.inl h27 | exact Or.inr h33), h112, Bool.or_true]) | exact nI_bI0 (by rw [fw_gone hs (by first | exact Or.inl h27 | exact Or.inr h33), h102, h107, h112]; rfl)) (fm_0 hA (fl_gone hs (by first | exact Or.inl h27 | exact Or.inr h33)).2)
                        · refine j_iconst C (v := nI 1) dX7_follows_115 rfl ?_
                          refine j_goto C 120 dX7_follows_116 ?_ (by decide)
                          exact q_zretS C CM rfl (by decide) (by decide) dX7_follows_120 (by first | exact nI_bI1 (by rw [fw_gone hs (by first | exact Or.inl h27 | exact Or.inr h33), h102]; rfl) | exact nI_bI1 (by rw [fw_gone hs (by first | exact Or.inl h27 | exact Or.inr h33), h107, Bool.or_true]; rfl) | exact nI_bI1 (by rw [fw_gone hs (by first | exact Or.inl h27 | exact Or.inr h33), h112, Bool.or_true]) | exact nI_bI0 (by rw [fw_gone hs (by first | exact Or.inl h27 | exact Or.inr h33), h102, h107, h112]; rfl)) (fm_0 hA (fl_gone hs (by first | exact Or.inl h27 | exact Or.inr h33)).2)
                  exact q_st (K98) (by first | exact nI_bI1 (by rw [decide_eq_true ((oI_eq (b := some p) (fun w hw => Nat.lt_trans (mv_some hw hp).1 (by decide)) (fun w hw => by cases hw; omega)).mp h79), decide_eq_true ((oI_eq (nI_lt8 hv hp) (nI_lt8 ht hp)).mp h90)]; rfl) | exact nI_bI0 (by rw [decide_eq_false (p := v p = t p) (fun e => h90 ((oI_eq (nI_lt8 hv hp) (nI_lt8 ht hp)).mpr e)), Bool.and_false]) | exact nI_bI0 (by rw [decide_eq_false (p := (moO t v p) = some p) (fun e => h79 ((oI_eq (b := some p) (fun w hw => Nat.lt_trans (mv_some hw hp).1 (by decide)) (fun w hw => by cases hw; omega)).mpr e))]; rfl)) (gLe_c rfl (gLe_c rfl (gLe_c rfl (gLe_c rfl (gLe_c rfl (gLe_c rfl (gLe_c rfl (gLe_c rfl (gLe_c rfl (gLe_n (gLe_n (gLe_n gLe_0))))))))))))
            exact q_st (K73) (by first | exact nI_bI1 (by rw [decide_eq_true ((oI_eq (b := some p) (fun w hw => Nat.lt_trans (mv_some hw hp).1 (by decide)) (fun w hw => by cases hw; omega)).mp h54), decide_eq_true ((oI_eq (nI_lt8 hu hp) (nI_lt8 ht hp)).mp h65)]; rfl) | exact nI_bI0 (by rw [decide_eq_false (p := u p = t p) (fun e => h65 ((oI_eq (nI_lt8 hu hp) (nI_lt8 ht hp)).mpr e)), Bool.and_false]) | exact nI_bI0 (by rw [decide_eq_false (p := (moO t u p) = some p) (fun e => h54 ((oI_eq (b := some p) (fun w hw => Nat.lt_trans (mv_some hw hp).1 (by decide)) (fun w hw => by cases hw; omega)).mpr e))]; rfl)) (gLe_c rfl (gLe_c rfl (gLe_c rfl (gLe_c rfl (gLe_c rfl (gLe_c rfl (gLe_c rfl (gLe_c rfl (gLe_n (gLe_n (gLe_n (gLe_n gLe_0))))))))))))
          · refine j_iconst C (v := nI 1) dX7_follows_68 rfl ?_
            refine j_goto C 73 dX7_follows_69 ?_ (by decide)
            have K73 : Q G X 0 0 73 [some (.ref (gb G + 156)), some (.ref (gb G + a)), some (.ref (gb G + b)), some (.ref (gb G + c)), some (.int (nI p)), some (.int (oI (moO t u p))), some (.int (oI (moO t v p))), some (.int (bI (decide ((moO t u p) = (moO t v p))))), none, none, none, none] [.int (bI ((decide ((moO t u p) = some p) && decide (u p = t p))))] M := by
              skip
              refine j_istore C dX7_follows_73 (by decide) rfl ?_
              refine j_iload C dX7_follows_75 rfl ?_
              refine j_iload C dX7_follows_77 rfl ?_
              refine j_icmp_ne C 97 dX7_follows_79 (fun h79 => ?_) (fun h79 => ?_) (by decide)
              · refine j_iconst C (v := nI 0) dX7_follows_97 rfl ?_
                have K98 : Q G X 0 0 98 [some (.ref (gb G + 156)), some (.ref (gb G + a)), some (.ref (gb G + b)), some (.ref (gb G + c)), some (.int (nI p)), some (.int (oI (moO t u p))), some (.int (oI (moO t v p))), some (.int (bI (decide ((moO t u p) = (moO t v p))))), some (.int (bI (decide ((moO t u p) = some p) && decide (u p = t p)))), none, none, none] [.int (bI ((decide ((moO t v p) = some p) && decide (v p = t p))))] M := by
                  skip
                  refine j_istore C dX7_follows_98 (by decide) rfl ?_
                  refine j_iload C dX7_follows_100 rfl ?_
                  refine q_if_ne0 C 115 dX7_follows_102 (by decide) (fun h102 => ?_) (fun h102 => ?_)
                  · refine j_iconst C (v := nI 1) dX7_follows_115 rfl ?_
                    refine j_goto C 120 dX7_follows_116 ?_ (by decide)
                    exact q_zretS C CM rfl (by decide) (by decide) dX7_follows_120 (by first | exact nI_bI1 (by rw [fw_gone hs (by first | exact Or.inl h27 | exact Or.inr h33), h102]; rfl) | exact nI_bI1 (by rw [fw_gone hs (by first | exact Or.inl h27 | exact Or.inr h33), h107, Bool.or_true]; rfl) | exact nI_bI1 (by rw [fw_gone hs (by first | exact Or.inl h27 | exact Or.inr h33), h112, Bool.or_true]) | exact nI_bI0 (by rw [fw_gone hs (by first | exact Or.inl h27 | exact Or.inr h33), h102, h107, h112]; rfl)) (fm_0 hA (fl_gone hs (by first | exact Or.inl h27 | exact Or.inr h33)).2)
                  · refine j_iload C dX7_follows_105 rfl ?_
                    refine q_if_ne0 C 115 dX7_follows_107 (by decide) (fun h107 => ?_) (fun h107 => ?_)
                    · refine j_iconst C (v := nI 1) dX7_follows_115 rfl ?_
                      refine j_goto C 120 dX7_follows_116 ?_ (by decide)
                      exact q_zretS C CM rfl (by decide) (by decide) dX7_follows_120 (by first | exact nI_bI1 (by rw [fw_gone hs (by first | exact Or.inl h27 | exact Or.inr h33), h102]; rfl) | exact nI_bI1 (by rw [fw_gone hs (by first | exact Or.inl h27 | exact Or.inr h33), h107, Bool.or_true]; rfl) | exact nI_bI1 (by rw [fw_gone hs (by first | exact Or.inl h27 | exact Or.inr h33), h112, Bool.or_true]) | exact nI_bI0 (by rw [fw_gone hs (by first | exact Or.inl h27 | exact Or.inr h33), h102, h107, h112]; rfl)) (fm_0 hA (fl_gone hs (by first | exact Or.inl h27 | exact Or.inr h33)).2)
                    · refine j_iload C dX7_follows_110 rfl ?_
                      refine q_if_eq0 C 119 dX7_follows_112 (by decide) (fun h112 => ?_) (fun h112 => ?_)
                      · refine j_iconst C (v := nI 0) dX7_follows_119 rfl ?_
                        exact q_zretS C CM rfl (by decide) (by decide) dX7_follows_120 (by first | exact nI_bI1 (by rw [fw_gone hs (by first | exact Or.inl h27 | exact Or.inr h33), h102]; rfl) | exact nI_bI1 (by rw [fw_gone hs (by first | exact Or.inl h27 | exact Or.inr h33), h107, Bool.or_true]; rfl) | exact nI_bI1 (by rw [fw_gone hs (by first | exact Or.inl h27 | exact Or.inr h33), h112, Bool.or_true]) | exact nI_bI0 (by rw [fw_gone hs (by first | exact Or.inl h27 | exact Or.inr h33), h102, h107, h112]; rfl)) (fm_0 hA (fl_gone hs (by first | exact Or.inl h27 | exact Or.inr h33)).2)
                      · refine j_iconst C (v := nI 1) dX7_follows_115 rfl ?_
                        refine j_goto C 120 dX7_follows_116 ?_ (by decide)
                        exact q_zretS C CM rfl (by decide) (by decide) dX7_follows_120 (by first | exact nI_bI1 (by rw [fw_gone hs (by first | exact Or.inl h27 | exact Or.inr h33), h102]; rfl) | exact nI_bI1 (by rw [fw_gone hs (by first | exact Or.inl h27 | exact Or.inr h33), h107, Bool.or_true]; rfl) | exact nI_bI1 (by rw [fw_gone hs (by first | exact Or.inl h27 | exact Or.inr h33), h112, Bool.or_true]) | exact nI_bI0 (by rw [fw_gone hs (by first | exact Or.inl h27 | exact Or.inr h33), h102, h107, h112]; rfl)) (fm_0 hA (fl_gone hs (by first | exact Or.inl h27 | exact Or.inr h33)).2)
                exact q_st (K98) (by first | exact nI_bI1 (by rw [decide_eq_true ((oI_eq (b := some p) (fun w hw => Nat.lt_trans (mv_some hw hp).1 (by decide)) (fun w hw => by cases hw; omega)).mp h79), decide_eq_true ((oI_eq (nI_lt8 hv hp) (nI_lt8 ht hp)).mp h90)]; rfl) | exact nI_bI0 (by rw [decide_eq_false (p := v p = t p) (fun e => h90 ((oI_eq (nI_lt8 hv hp) (nI_lt8 ht hp)).mpr e)), Bool.and_false]) | exact nI_bI0 (by rw [decide_eq_false (p := (moO t v p) = some p) (fun e => h79 ((oI_eq (b := some p) (fun w hw => Nat.lt_trans (mv_some hw hp).1 (by decide)) (fun w hw => by cases hw; omega)).mpr e))]; rfl)) (gLe_c rfl (gLe_c rfl (gLe_c rfl (gLe_c rfl (gLe_c rfl (gLe_c rfl (gLe_c rfl (gLe_c rfl (gLe_c rfl (gLe_n (gLe_n (gLe_n gLe_0))))))))))))
              · refine j_aload_n C dX7_follows_82 rfl ?_
                refine j_iload C dX7_follows_83 rfl ?_
                refine q_iald C hc.1 hc.2 (by decide) (by omega) dX7_follows_85 ?_
                rw [hsv p hp]
                refine j_aload_n C dX7_follows_86 rfl ?_
                refine j_iload C dX7_follows_87 rfl ?_
                refine q_iald C ha.1 ha.2 (by decide) (by omega) dX7_follows_89 ?_
                rw [hr p hp]
                refine j_icmp_ne C 97 dX7_follows_90 (fun h90 => ?_) (fun h90 => ?_) (by decide)
                · refine j_iconst C (v := nI 0) dX7_follows_97 rfl ?_
                  have K98 : Q G X 0 0 98 [some (.ref (gb G + 156)), some (.ref (gb G + a)), some (.ref (gb G + b)), some (.ref (gb G + c)), some (.int (nI p)), some (.int (oI (moO t u p))), some (.int (oI (moO t v p))), some (.int (bI (decide ((moO t u p) = (moO t v p))))), some (.int (bI (decide ((moO t u p) = some p) && decide (u p = t p)))), none, none, none] [.int (bI ((decide ((moO t v p) = some p) && decide (v p = t p))))] M := by
                    skip
                    refine j_istore C dX7_follows_98 (by decide) rfl ?_
                    refine j_iload C dX7_follows_100 rfl ?_
                    refine q_if_ne0 C 115 dX7_follows_102 (by decide) (fun h102 => ?_) (fun h102 => ?_)
                    · refine j_iconst C (v := nI 1) dX7_follows_115 rfl ?_
                      refine j_goto C 120 dX7_follows_116 ?_ (by decide)
                      exact q_zretS C CM rfl (by decide) (by decide) dX7_follows_120 (by first | exact nI_bI1 (by rw [fw_gone hs (by first | exact Or.inl h27 | exact Or.inr h33), h102]; rfl) | exact nI_bI1 (by rw [fw_gone hs (by first | exact Or.inl h27 | exact Or.inr h33), h107, Bool.or_true]; rfl) | exact nI_bI1 (by rw [fw_gone hs (by first | exact Or.inl h27 | exact Or.inr h33), h112, Bool.or_true]) | exact nI_bI0 (by rw [fw_gone hs (by first | exact Or.inl h27 | exact Or.inr h33), h102, h107, h112]; rfl)) (fm_0 hA (fl_gone hs (by first | exact Or.inl h27 | exact Or.inr h33)).2)
                    · refine j_iload C dX7_follows_105 rfl ?_
                      refine q_if_ne0 C 115 dX7_follows_107 (by decide) (fun h107 => ?_) (fun h107 => ?_)
                      · refine j_iconst C (v := nI 1) dX7_follows_115 rfl ?_
                        refine j_goto C 120 dX7_follows_116 ?_ (by decide)
                        exact q_zretS C CM rfl (by decide) (by decide) dX7_follows_120 (by first | exact nI_bI1 (by rw [fw_gone hs (by first | exact Or.inl h27 | exact Or.inr h33), h102]; rfl) | exact nI_bI1 (by rw [fw_gone hs (by first | exact Or.inl h27 | exact Or.inr h33), h107, Bool.or_true]; rfl) | exact nI_bI1 (by rw [fw_gone hs (by first | exact Or.inl h27 | exact Or.inr h33), h112, Bool.or_true]) | exact nI_bI0 (by rw [fw_gone hs (by first | exact Or.inl h27 | exact Or.inr h33), h102, h107, h112]; rfl)) (fm_0 hA (fl_gone hs (by first | exact Or.inl h27 | exact Or.inr h33)).2)
                      · refine j_iload C dX7_follows_110 rfl ?_
                        refine q_if_eq0 C 119 dX7_follows_112 (by decide) (fun h112 => ?_) (fun h112 => ?_)
                        · refine j_iconst C (v := nI 0) dX7_follows_119 rfl ?_
                          exact q_zretS C CM rfl (by decide) (by decide) dX7_follows_120 (by first | exact nI_bI1 (by rw [fw_gone hs (by first | exact Or.inl h27 | exact Or.inr h33), h102]; rfl) | exact nI_bI1 (by rw [fw_gone hs (by first | exact Or.inl h27 | exact Or.inr h33), h107, Bool.or_true]; rfl) | exact nI_bI1 (by rw [fw_gone hs (by first | exact Or.inl h27 | exact Or.inr h33), h112, Bool.or_true]) | exact nI_bI0 (by rw [fw_gone hs (by first | exact Or.inl h27 | exact Or.inr h33), h102, h107, h112]; rfl)) (fm_0 hA (fl_gone hs (by first | exact Or.inl h27 | exact Or.inr h33)).2)
                        · refine j_iconst C (v := nI 1) dX7_follows_115 rfl ?_
                          refine j_goto C 120 dX7_follows_116 ?_ (by decide)
                          exact q_zretS C CM rfl (by decide) (by decide) dX7_follows_120 (by first | exact nI_bI1 (by rw [fw_gone hs (by first | exact Or.inl h27 | exact Or.inr h33), h102]; rfl) | exact nI_bI1 (by rw [fw_gone hs (by first | exact Or.inl h27 | exact Or.inr h33), h107, Bool.or_true]; rfl) | exact nI_bI1 (by rw [fw_gone hs (by first | exact Or.inl h27 | exact Or.inr h33), h112, Bool.or_true]) | exact nI_bI0 (by rw [fw_gone hs (by first | exact Or.inl h27 | exact Or.inr h33), h102, h107, h112]; rfl)) (fm_0 hA (fl_gone hs (by first | exact Or.inl h27 | exact Or.inr h33)).2)
                  exact q_st (K98) (by first | exact nI_bI1 (by rw [decide_eq_true ((oI_eq (b := some p) (fun w hw => Nat.lt_trans (mv_some hw hp).1 (by decide)) (fun w hw => by cases hw; omega)).mp h79), decide_eq_true ((oI_eq (nI_lt8 hv hp) (nI_lt8 ht hp)).mp h90)]; rfl) | exact nI_bI0 (by rw [decide_eq_false (p := v p = t p) (fun e => h90 ((oI_eq (nI_lt8 hv hp) (nI_lt8 ht hp)).mpr e)), Bool.and_false]) | exact nI_bI0 (by rw [decide_eq_false (p := (moO t v p) = some p) (fun e => h79 ((oI_eq (b := some p) (fun w hw => Nat.lt_trans (mv_some hw hp).1 (by decide)) (fun w hw => by cases hw; omega)).mpr e))]; rfl)) (gLe_c rfl (gLe_c rfl (gLe_c rfl (gLe_c rfl (gLe_c rfl (gLe_c rfl (gLe_c rfl (gLe_c rfl (gLe_c rfl (gLe_n (gLe_n (gLe_n gLe_0))))))))))))
                · refine j_iconst C (v := nI 1) dX7_follows_93 rfl ?_
                  refine j_goto C 98 dX7_follows_94 ?_ (by decide)
                  have K98 : Q G X 0 0 98 [some (.ref (gb G + 156)), some (.ref (gb G + a)), some (.ref (gb G + b)), some (.ref (gb G + c)), some (.int (nI p)), some (.int (oI (moO t u p))), some (.int (oI (moO t v p))), some (.int (bI (decide ((moO t u p) = (moO t v p))))), some (.int (bI (decide ((moO t u p) = some p) && decide (u p = t p)))), none, none, none] [.int (bI ((decide ((moO t v p) = some p) && decide (v p = t p))))] M := by
                    skip
                    refine j_istore C dX7_follows_98 (by decide) rfl ?_
                    refine j_iload C dX7_follows_100 rfl ?_
                    refine q_if_ne0 C 115 dX7_follows_102 (by decide) (fun h102 => ?_) (fun h102 => ?_)
                    · refine j_iconst C (v := nI 1) dX7_follows_115 rfl ?_
                      refine j_goto C 120 dX7_follows_116 ?_ (by decide)
                      exact q_zretS C CM rfl (by decide) (by decide) dX7_follows_120 (by first | exact nI_bI1 (by rw [fw_gone hs (by first | exact Or.inl h27 | exact Or.inr h33), h102]; rfl) | exact nI_bI1 (by rw [fw_gone hs (by first | exact Or.inl h27 | exact Or.inr h33), h107, Bool.or_true]; rfl) | exact nI_bI1 (by rw [fw_gone hs (by first | exact Or.inl h27 | exact Or.inr h33), h112, Bool.or_true]) | exact nI_bI0 (by rw [fw_gone hs (by first | exact Or.inl h27 | exact Or.inr h33), h102, h107, h112]; rfl)) (fm_0 hA (fl_gone hs (by first | exact Or.inl h27 | exact Or.inr h33)).2)
                    · refine j_iload C dX7_follows_105 rfl ?_
                      refine q_if_ne0 C 115 dX7_follows_107 (by decide) (fun h107 => ?_) (fun h107 => ?_)
                      · refine j_iconst C (v := nI 1) dX7_follows_115 rfl ?_
                        refine j_goto C 120 dX7_follows_116 ?_ (by decide)
                        exact q_zretS C CM rfl (by decide) (by decide) dX7_follows_120 (by first | exact nI_bI1 (by rw [fw_gone hs (by first | exact Or.inl h27 | exact Or.inr h33), h102]; rfl) | exact nI_bI1 (by rw [fw_gone hs (by first | exact Or.inl h27 | exact Or.inr h33), h107, Bool.or_true]; rfl) | exact nI_bI1 (by rw [fw_gone hs (by first | exact Or.inl h27 | exact Or.inr h33), h112, Bool.or_true]) | exact nI_bI0 (by rw [fw_gone hs (by first | exact Or.inl h27 | exact Or.inr h33), h102, h107, h112]; rfl)) (fm_0 hA (fl_gone hs (by first | exact Or.inl h27 | exact Or.inr h33)).2)
                      · refine j_iload C dX7_follows_110 rfl ?_
                        refine q_if_eq0 C 119 dX7_follows_112 (by decide) (fun h112 => ?_) (fun h112 => ?_)
                        · refine j_iconst C (v := nI 0) dX7_follows_119 rfl ?_
                          exact q_zretS C CM rfl (by decide) (by decide) dX7_follows_120 (by first | exact nI_bI1 (by rw [fw_gone hs (by first | exact Or.inl h27 | exact Or.inr h33), h102]; rfl) | exact nI_bI1 (by rw [fw_gone hs (by first | exact Or.inl h27 | exact Or.inr h33), h107, Bool.or_true]; rfl) | exact nI_bI1 (by rw [fw_gone hs (by first | exact Or.inl h27 | exact Or.inr h33), h112, Bool.or_true]) | exact nI_bI0 (by rw [fw_gone hs (by first | exact Or.inl h27 | exact Or.inr h33), h102, h107, h112]; rfl)) (fm_0 hA (fl_gone hs (by first | exact Or.inl h27 | exact Or.inr h33)).2)
                        · refine j_iconst C (v := nI 1) dX7_follows_115 rfl ?_
                          refine j_goto C 120 dX7_follows_116 ?_ (by decide)
                          exact q_zretS C CM rfl (by decide) (by decide) dX7_follows_120 (by first | exact nI_bI1 (by rw [fw_gone hs (by first | exact Or.inl h27 | exact Or.inr h33), h102]; rfl) | exact nI_bI1 (by rw [fw_gone hs (by first | exact Or.inl h27 | exact Or.inr h33), h107, Bool.or_true]; rfl) | exact nI_bI1 (by rw [fw_gone hs (by first | exact Or.inl h27 | exact Or.inr h33), h112, Bool.or_true]) | exact nI_bI0 (by rw [fw_gone hs (by first | exact Or.inl h27 | exact Or.inr h33), h102, h107, h112]; rfl)) (fm_0 hA (fl_gone hs (by first | exact Or.inl h27 | exact Or.inr h33)).2)
                  exact q_st (K98) (by first | exact nI_bI1 (by rw [decide_eq_true ((oI_eq (b := some p) (fun w hw => Nat.lt_trans (mv_some hw hp).1 (by decide)) (fun w hw => by cases hw; omega)).mp h79), decide_eq_true ((oI_eq (nI_lt8 hv hp) (nI_lt8 ht hp)).mp h90)]; rfl) | exact nI_bI0 (by rw [decide_eq_false (p := v p = t p) (fun e => h90 ((oI_eq (nI_lt8 hv hp) (nI_lt8 ht hp)).mpr e)), Bool.and_false]) | exact nI_bI0 (by rw [decide_eq_false (p := (moO t v p) = some p) (fun e => h79 ((oI_eq (b := some p) (fun w hw => Nat.lt_trans (mv_some hw hp).1 (by decide)) (fun w hw => by cases hw; omega)).mpr e))]; rfl)) (gLe_c rfl (gLe_c rfl (gLe_c rfl (gLe_c rfl (gLe_c rfl (gLe_c rfl (gLe_c rfl (gLe_c rfl (gLe_c rfl (gLe_n (gLe_n (gLe_n gLe_0))))))))))))
            exact q_st (K73) (by first | exact nI_bI1 (by rw [decide_eq_true ((oI_eq (b := some p) (fun w hw => Nat.lt_trans (mv_some hw hp).1 (by decide)) (fun w hw => by cases hw; omega)).mp h54), decide_eq_true ((oI_eq (nI_lt8 hu hp) (nI_lt8 ht hp)).mp h65)]; rfl) | exact nI_bI0 (by rw [decide_eq_false (p := u p = t p) (fun e => h65 ((oI_eq (nI_lt8 hu hp) (nI_lt8 ht hp)).mpr e)), Bool.and_false]) | exact nI_bI0 (by rw [decide_eq_false (p := (moO t u p) = some p) (fun e => h54 ((oI_eq (b := some p) (fun w hw => Nat.lt_trans (mv_some hw hp).1 (by decide)) (fun w hw => by cases hw; omega)).mpr e))]; rfl)) (gLe_c rfl (gLe_c rfl (gLe_c rfl (gLe_c rfl (gLe_c rfl (gLe_c rfl (gLe_c rfl (gLe_c rfl (gLe_n (gLe_n (gLe_n (gLe_n gLe_0))))))))))))
      exact q_st (K48) (by first | exact nI_bI1 (decide_eq_true ((oI_eq (fun w hw => Nat.lt_trans (mv_some hw hp).1 (by decide)) (fun w hw => Nat.lt_trans (mv_some hw hp).1 (by decide))).mp h40)) | exact nI_bI0 (decide_eq_false (fun e => h40 ((oI_eq (fun w hw => Nat.lt_trans (mv_some hw hp).1 (by decide)) (fun w hw => Nat.lt_trans (mv_some hw hp).1 (by decide))).mpr e)))) (gLe_c rfl (gLe_c rfl (gLe_c rfl (gLe_c rfl (gLe_c rfl (gLe_c rfl (gLe_c rfl (gLe_n (gLe_n (gLe_n (gLe_n (gLe_n gLe_0))))))))))))
  · refine j_iload C dX7_follows_30 rfl ?_
    refine j_iconst C (v := -1) dX7_follows_32 rfl ?_
    refine q_icmp_neN C 121 dX7_follows_33 (by decide) (fun w hw => Nat.lt_trans (mv_some hw hp).1 (by decide)) (fun v33 h33 => ?_) (fun h33 => ?_)
    · rw [h27, h33, show oI (some v27) = nI v27 from rfl, show oI (some v33) = nI v33 from rfl]
      have ha1 := mv_some h27 hp
      have ha2 := mv_some h33 hp
      have hb1 := ha1.1
      have hb2 := ha2.1
      refine j_iload C dX7_follows_121 rfl ?_
      refine j_iload C dX7_follows_123 rfl ?_
      refine j_iload C dX7_follows_125 rfl ?_
      refine q_callS C (sp_X7_joined G M (b := p) (o := v27) (t := v33) (by omega) (by omega) (by omega)) vX7_joined lk_X7_142 rfl rfl (Nat.le_of_ble_eq_true rfl) (by decide) dX7_follows_127 ?_
      refine j_istore C dX7_follows_130 (by decide) rfl ?_
      refine j_iconst C (v := nI 0) dX7_follows_132 rfl ?_
      refine j_istore C dX7_follows_133 (by decide) rfl ?_
      refine j_iload C dX7_follows_135 rfl ?_
      refine j_if_lt C 144 dX7_follows_137 (fun h137 => ?_) (fun h137 => ?_) (by decide)
      · refine j_iconst C (v := nI 0) dX7_follows_144 rfl ?_
        have K145 : Q G X 0 0 145 [some (.ref (gb G + 156)), some (.ref (gb G + a)), some (.ref (gb G + b)), some (.ref (gb G + c)), some (.int (nI p)), some (.int (nI v27)), some (.int (nI v33)), some (.int (jI (chgN p v27 v33))), some (.int (nI 0)), none, none, none] [.int (bI (((chgN p v27 v33).isSome && (mrT (gv t p) (gv u v27) (gv v v33) 0).isSome)))] M := by
          skip
          refine j_istore C dX7_follows_145 (by decide) rfl ?_
          refine j_iconst C (v := nI 0) dX7_follows_147 rfl ?_
          refine j_istore C dX7_follows_148 (by decide) rfl ?_
          have K150 : ∀ i, i ≤ 4 → ∀ x : Int32, (∀ m, mrT (gv t p) (gv u v27) (gv v v33) i = some m → x = nI m) → Q G X 0 0 150 [some (.ref (gb G + 156)), some (.ref (gb G + a)), some (.ref (gb G + b)), some (.ref (gb G + c)), some (.int (nI p)), some (.int (nI v27)), some (.int (nI v33)), some (.int (jI (chgN p v27 v33))), some (.int x), some (.int (bI ((chgN p v27 v33).isSome && (mrT (gv t p) (gv u v27) (gv v v33) i).isSome))), some (.int (nI i)), none] [] (M) := by
            refine g_up _ _ (fun i hi ih => ?_)
            intro x hx
            refine j_iload C dX7_follows_150 rfl ?_
            refine j_iconst C (v := nI 4) dX7_follows_152 rfl ?_
            refine q_icmp_ge C 221 dX7_follows_153 (by decide) (by omega) (by omega) (fun h153 => ?_) (fun h153 => ?_)
            · refine j_iload C dX7_follows_221 rfl ?_
              refine q_if_eq0 C 234 dX7_follows_223 (by decide) (fun h223 => ?_) (fun h223 => ?_)
              · refine j_iload C dX7_follows_234 rfl ?_
                exact q_zretS C CM rfl (by decide) (by decide) dX7_follows_236 (congrArg bI (by first | (rw [hfl.1, h223.2]; rfl) | (rw [h223, (fl_bad hs h27 h33 (gd_bad (show i = 4 by omega) h223)).1]; rfl))) (by first | (rw [hxm]; exact fm_a hA hy hfl.2) | exact fm_0 hA (fl_bad hs h27 h33 (gd_bad (show i = 4 by omega) h223)).2)
              · simp only [Bool.and_eq_true] at h223
                obtain ⟨y, hy0⟩ := Option.isSome_iff_exists.mp h223.1
                obtain ⟨m, hm0⟩ := Option.isSome_iff_exists.mp h223.2
                have hy : y < 8 := chg_lt hy0 hb1 hb2
                have hi4 : i = 4 := by omega
                rw [hy0, show jI (some y) = nI y from rfl]
                have hxm := hx m hm0
                rw [hi4, mrT_eq] at hm0
                have hfl := fl_some hs h27 h33 hy0 hm0
                refine j_aload_n C dX7_follows_226 rfl ?_
                refine j_iload C dX7_follows_227 rfl ?_
                refine j_iload C dX7_follows_229 rfl ?_
                refine q_callV C (sp_X7_comes G M hy x) vX7_comes lk_X7_146 rfl (by decide) rfl rfl (Nat.le_of_ble_eq_true rfl) (by decide) dX7_follows_231 ?_
                refine j_iload C dX7_follows_234 rfl ?_
                exact q_zretS C CM rfl (by decide) (by decide) dX7_follows_236 (congrArg bI (by first | (rw [hfl.1, h223.2]; rfl) | (rw [h223, (fl_bad hs h27 h33 (gd_bad (show i = 4 by omega) h223)).1]; rfl))) (by first | (rw [hxm]; exact fm_a hA hy hfl.2) | exact fm_0 hA (fl_bad hs h27 h33 (gd_bad (show i = 4 by omega) h223)).2)
            · refine j_aload_n C dX7_follows_156 rfl ?_
              refine j_iload C dX7_follows_157 rfl ?_
              refine q_iald C ha.1 ha.2 (by decide) (by omega) dX7_follows_159 ?_
              rw [hr p hp, oI_gv hs]
              refine j_iload C dX7_follows_160 rfl ?_
              refine q_callS C (sp_X7_line G M (gv_lt ht hp) h153) vX7_line lk_X7_128 rfl rfl (Nat.le_of_ble_eq_true rfl) (by decide) dX7_follows_162 ?_
              refine j_aload_n C dX7_follows_165 rfl ?_
              refine j_iload C dX7_follows_166 rfl ?_
              refine q_iald C hb.1 hb.2 (by decide) (by omega) dX7_follows_168 ?_
              rw [hsu v27 hb1, oI_gv ha1.2]
              refine j_iload C dX7_follows_169 rfl ?_
              refine q_callS C (sp_X7_line G M (gv_lt hu ha1.1) h153) vX7_line lk_X7_128 rfl rfl (Nat.le_of_ble_eq_true rfl) (by decide) dX7_follows_171 ?_
              refine j_aload_n C dX7_follows_174 rfl ?_
              refine j_iload C dX7_follows_175 rfl ?_
              refine q_iald C hc.1 hc.2 (by decide) (by omega) dX7_follows_177 ?_
              rw [hsv v33 hb2, oI_gv ha2.2]
              refine j_iload C dX7_follows_178 rfl ?_
              refine q_callS C (sp_X7_line G M (gv_lt hv ha2.1) h153) vX7_line lk_X7_128 rfl rfl (Nat.le_of_ble_eq_true rfl) (by decide) dX7_follows_180 ?_
              refine q_callS C (sp_X7_joined G M (dg_b _ _) (dg_b _ _) (dg_b _ _)) vX7_joined lk_X7_142 rfl rfl (Nat.le_of_ble_eq_true rfl) (by decide) dX7_follows_183 ?_
              refine j_istore C dX7_follows_186 (by decide) rfl ?_
              refine j_iload C dX7_follows_188 rfl ?_
              refine q_if_eq0 C 202 dX7_follows_190 (by decide) (fun h190 => ?_) (fun h190 => ?_)
              · refine j_iconst C (v := nI 0) dX7_follows_202 rfl ?_
                have K203 : Q G X 0 0 203 [some (.ref (gb G + 156)), some (.ref (gb G + a)), some (.ref (gb G + b)), some (.ref (gb G + c)), some (.int (nI p)), some (.int (nI v27)), some (.int (nI v33)), some (.int (jI (chgN p v27 v33))), some (.int x), none, some (.int (nI i)), some (.int (jI (chgN (dg (gv t p) (3 - i)) (dg (gv u v27) (3 - i)) (dg (gv v v33) (3 - i)))))] [.int (bI (((chgN p v27 v33).isSome && (mrT (gv t p) (gv u v27) (gv v v33) (i + 1)).isSome)))] M := by
                  skip
                  refine j_istore C dX7_follows_203 (by decide) rfl ?_
                  refine j_bipush C (v := nI 10) dX7_follows_205 rfl ?_
                  refine j_iload C dX7_follows_207 rfl ?_
                  refine j_imul C dX7_follows_209 ?_
                  refine j_iload C dX7_follows_210 rfl ?_
                  refine j_iadd C dX7_follows_212 ?_
                  refine j_istore C dX7_follows_213 (by decide) rfl ?_
                  refine q_iinc C dX7_follows_215 rfl (by decide) rfl ?_
                  refine j_goto C 150 dX7_follows_218 ?_ (by decide)
                  exact q_cast (ih (by omega) _ (mrT_acc hx)) (gLe_c rfl (gLe_c rfl (gLe_c rfl (gLe_c rfl (gLe_c rfl (gLe_c rfl (gLe_c rfl (gLe_c rfl (gLe_c rfl (gLe_c rfl (gLe_c rfl (gLe_n gLe_0)))))))))))) (rfl)
                exact q_st (K203) (by first | exact nI_bI0 (gd_no h190) | exact nI_bI0 (gd_n2 (jI_neg h195 (fun w hw => Nat.lt_trans (chg_lt hw (dg_lt _ _) (dg_lt _ _)) (by decide)))) | exact nI_bI1 (gd_ok h190 (jI_pos h195))) (gLe_c rfl (gLe_c rfl (gLe_c rfl (gLe_c rfl (gLe_c rfl (gLe_c rfl (gLe_c rfl (gLe_c rfl (gLe_c rfl (gLe_n (gLe_c rfl (gLe_c rfl gLe_0))))))))))))
              · refine j_iload C dX7_follows_193 rfl ?_
                refine j_if_lt C 202 dX7_follows_195 (fun h195 => ?_) (fun h195 => ?_) (by decide)
                · refine j_iconst C (v := nI 0) dX7_follows_202 rfl ?_
                  have K203 : Q G X 0 0 203 [some (.ref (gb G + 156)), some (.ref (gb G + a)), some (.ref (gb G + b)), some (.ref (gb G + c)), some (.int (nI p)), some (.int (nI v27)), some (.int (nI v33)), some (.int (jI (chgN p v27 v33))), some (.int x), none, some (.int (nI i)), some (.int (jI (chgN (dg (gv t p) (3 - i)) (dg (gv u v27) (3 - i)) (dg (gv v v33) (3 - i)))))] [.int (bI (((chgN p v27 v33).isSome && (mrT (gv t p) (gv u v27) (gv v v33) (i + 1)).isSome)))] M := by
                    skip
                    refine j_istore C dX7_follows_203 (by decide) rfl ?_
                    refine j_bipush C (v := nI 10) dX7_follows_205 rfl ?_
                    refine j_iload C dX7_follows_207 rfl ?_
                    refine j_imul C dX7_follows_209 ?_
                    refine j_iload C dX7_follows_210 rfl ?_
                    refine j_iadd C dX7_follows_212 ?_
                    refine j_istore C dX7_follows_213 (by decide) rfl ?_
                    refine q_iinc C dX7_follows_215 rfl (by decide) rfl ?_
                    refine j_goto C 150 dX7_follows_218 ?_ (by decide)
                    exact q_cast (ih (by omega) _ (mrT_acc hx)) (gLe_c rfl (gLe_c rfl (gLe_c rfl (gLe_c rfl (gLe_c rfl (gLe_c rfl (gLe_c rfl (gLe_c rfl (gLe_c rfl (gLe_c rfl (gLe_c rfl (gLe_n gLe_0)))))))))))) (rfl)
                  exact q_st (K203) (by first | exact nI_bI0 (gd_no h190) | exact nI_bI0 (gd_n2 (jI_neg h195 (fun w hw => Nat.lt_trans (chg_lt hw (dg_lt _ _) (dg_lt _ _)) (by decide)))) | exact nI_bI1 (gd_ok h190 (jI_pos h195))) (gLe_c rfl (gLe_c rfl (gLe_c rfl (gLe_c rfl (gLe_c rfl (gLe_c rfl (gLe_c rfl (gLe_c rfl (gLe_c rfl (gLe_n (gLe_c rfl (gLe_c rfl gLe_0))))))))))))
                · refine j_iconst C (v := nI 1) dX7_follows_198 rfl ?_
                  refine j_goto C 203 dX7_follows_199 ?_ (by decide)
                  have K203 : Q G X 0 0 203 [some (.ref (gb G + 156)), some (.ref (gb G + a)), some (.ref (gb G + b)), some (.ref (gb G + c)), some (.int (nI p)), some (.int (nI v27)), some (.int (nI v33)), some (.int (jI (chgN p v27 v33))), some (.int x), none, some (.int (nI i)), some (.int (jI (chgN (dg (gv t p) (3 - i)) (dg (gv u v27) (3 - i)) (dg (gv v v33) (3 - i)))))] [.int (bI (((chgN p v27 v33).isSome && (mrT (gv t p) (gv u v27) (gv v v33) (i + 1)).isSome)))] M := by
                    skip
                    refine j_istore C dX7_follows_203 (by decide) rfl ?_
                    refine j_bipush C (v := nI 10) dX7_follows_205 rfl ?_
                    refine j_iload C dX7_follows_207 rfl ?_
                    refine j_imul C dX7_follows_209 ?_
                    refine j_iload C dX7_follows_210 rfl ?_
                    refine j_iadd C dX7_follows_212 ?_
                    refine j_istore C dX7_follows_213 (by decide) rfl ?_
                    refine q_iinc C dX7_follows_215 rfl (by decide) rfl ?_
                    refine j_goto C 150 dX7_follows_218 ?_ (by decide)
                    exact q_cast (ih (by omega) _ (mrT_acc hx)) (gLe_c rfl (gLe_c rfl (gLe_c rfl (gLe_c rfl (gLe_c rfl (gLe_c rfl (gLe_c rfl (gLe_c rfl (gLe_c rfl (gLe_c rfl (gLe_c rfl (gLe_n gLe_0)))))))))))) (rfl)
                  exact q_st (K203) (by first | exact nI_bI0 (gd_no h190) | exact nI_bI0 (gd_n2 (jI_neg h195 (fun w hw => Nat.lt_trans (chg_lt hw (dg_lt _ _) (dg_lt _ _)) (by decide)))) | exact nI_bI1 (gd_ok h190 (jI_pos h195))) (gLe_c rfl (gLe_c rfl (gLe_c rfl (gLe_c rfl (gLe_c rfl (gLe_c rfl (gLe_c rfl (gLe_c rfl (gLe_c rfl (gLe_n (gLe_c rfl (gLe_c rfl gLe_0))))))))))))
          exact q_cast (K150 0 (by omega) (nI 0) (fun m hm => by cases hm; rfl)) (gLe_c rfl (gLe_c rfl (gLe_c rfl (gLe_c rfl (gLe_c rfl (gLe_c rfl (gLe_c rfl (gLe_c rfl (gLe_c rfl (gLe_c rfl (gLe_c rfl (gLe_n gLe_0)))))))))))) (rfl)
        exact q_st (K145) (by first | exact nI_bI0 (by rw [jI_neg h137 (chg_b (by omega) (by omega))]; rfl) | (obtain ⟨y, hy⟩ := jI_pos h137; exact nI_bI1 (by rw [hy]; rfl))) (gLe_c rfl (gLe_c rfl (gLe_c rfl (gLe_c rfl (gLe_c rfl (gLe_c rfl (gLe_c rfl (gLe_c rfl (gLe_c rfl (gLe_n (gLe_n (gLe_n gLe_0))))))))))))
      · refine j_iconst C (v := nI 1) dX7_follows_140 rfl ?_
        refine j_goto C 145 dX7_follows_141 ?_ (by decide)
        have K145 : Q G X 0 0 145 [some (.ref (gb G + 156)), some (.ref (gb G + a)), some (.ref (gb G + b)), some (.ref (gb G + c)), some (.int (nI p)), some (.int (nI v27)), some (.int (nI v33)), some (.int (jI (chgN p v27 v33))), some (.int (nI 0)), none, none, none] [.int (bI (((chgN p v27 v33).isSome && (mrT (gv t p) (gv u v27) (gv v v33) 0).isSome)))] M := by
          skip
          refine j_istore C dX7_follows_145 (by decide) rfl ?_
          refine j_iconst C (v := nI 0) dX7_follows_147 rfl ?_
          refine j_istore C dX7_follows_148 (by decide) rfl ?_
          have K150 : ∀ i, i ≤ 4 → ∀ x : Int32, (∀ m, mrT (gv t p) (gv u v27) (gv v v33) i = some m → x = nI m) → Q G X 0 0 150 [some (.ref (gb G + 156)), some (.ref (gb G + a)), some (.ref (gb G + b)), some (.ref (gb G + c)), some (.int (nI p)), some (.int (nI v27)), some (.int (nI v33)), some (.int (jI (chgN p v27 v33))), some (.int x), some (.int (bI ((chgN p v27 v33).isSome && (mrT (gv t p) (gv u v27) (gv v v33) i).isSome))), some (.int (nI i)), none] [] (M) := by
            refine g_up _ _ (fun i hi ih => ?_)
            intro x hx
            refine j_iload C dX7_follows_150 rfl ?_
            refine j_iconst C (v := nI 4) dX7_follows_152 rfl ?_
            refine q_icmp_ge C 221 dX7_follows_153 (by decide) (by omega) (by omega) (fun h153 => ?_) (fun h153 => ?_)
            · refine j_iload C dX7_follows_221 rfl ?_
              refine q_if_eq0 C 234 dX7_follows_223 (by decide) (fun h223 => ?_) (fun h223 => ?_)
              · refine j_iload C dX7_follows_234 rfl ?_
                exact q_zretS C CM rfl (by decide) (by decide) dX7_follows_236 (congrArg bI (by first | (rw [hfl.1, h223.2]; rfl) | (rw [h223, (fl_bad hs h27 h33 (gd_bad (show i = 4 by omega) h223)).1]; rfl))) (by first | (rw [hxm]; exact fm_a hA hy hfl.2) | exact fm_0 hA (fl_bad hs h27 h33 (gd_bad (show i = 4 by omega) h223)).2)
              · simp only [Bool.and_eq_true] at h223
                obtain ⟨y, hy0⟩ := Option.isSome_iff_exists.mp h223.1
                obtain ⟨m, hm0⟩ := Option.isSome_iff_exists.mp h223.2
                have hy : y < 8 := chg_lt hy0 hb1 hb2
                have hi4 : i = 4 := by omega
                rw [hy0, show jI (some y) = nI y from rfl]
                have hxm := hx m hm0
                rw [hi4, mrT_eq] at hm0
                have hfl := fl_some hs h27 h33 hy0 hm0
                refine j_aload_n C dX7_follows_226 rfl ?_
                refine j_iload C dX7_follows_227 rfl ?_
                refine j_iload C dX7_follows_229 rfl ?_
                refine q_callV C (sp_X7_comes G M hy x) vX7_comes lk_X7_146 rfl (by decide) rfl rfl (Nat.le_of_ble_eq_true rfl) (by decide) dX7_follows_231 ?_
                refine j_iload C dX7_follows_234 rfl ?_
                exact q_zretS C CM rfl (by decide) (by decide) dX7_follows_236 (congrArg bI (by first | (rw [hfl.1, h223.2]; rfl) | (rw [h223, (fl_bad hs h27 h33 (gd_bad (show i = 4 by omega) h223)).1]; rfl))) (by first | (rw [hxm]; exact fm_a hA hy hfl.2) | exact fm_0 hA (fl_bad hs h27 h33 (gd_bad (show i = 4 by omega) h223)).2)
            · refine j_aload_n C dX7_follows_156 rfl ?_
              refine j_iload C dX7_follows_157 rfl ?_
              refine q_iald C ha.1 ha.2 (by decide) (by omega) dX7_follows_159 ?_
              rw [hr p hp, oI_gv hs]
              refine j_iload C dX7_follows_160 rfl ?_
              refine q_callS C (sp_X7_line G M (gv_lt ht hp) h153) vX7_line lk_X7_128 rfl rfl (Nat.le_of_ble_eq_true rfl) (by decide) dX7_follows_162 ?_
              refine j_aload_n C dX7_follows_165 rfl ?_
              refine j_iload C dX7_follows_166 rfl ?_
              refine q_iald C hb.1 hb.2 (by decide) (by omega) dX7_follows_168 ?_
              rw [hsu v27 hb1, oI_gv ha1.2]
              refine j_iload C dX7_follows_169 rfl ?_
              refine q_callS C (sp_X7_line G M (gv_lt hu ha1.1) h153) vX7_line lk_X7_128 rfl rfl (Nat.le_of_ble_eq_true rfl) (by decide) dX7_follows_171 ?_
              refine j_aload_n C dX7_follows_174 rfl ?_
              refine j_iload C dX7_follows_175 rfl ?_
              refine q_iald C hc.1 hc.2 (by decide) (by omega) dX7_follows_177 ?_
              rw [hsv v33 hb2, oI_gv ha2.2]
              refine j_iload C dX7_follows_178 rfl ?_
              refine q_callS C (sp_X7_line G M (gv_lt hv ha2.1) h153) vX7_line lk_X7_128 rfl rfl (Nat.le_of_ble_eq_true rfl) (by decide) dX7_follows_180 ?_
              refine q_callS C (sp_X7_joined G M (dg_b _ _) (dg_b _ _) (dg_b _ _)) vX7_joined lk_X7_142 rfl rfl (Nat.le_of_ble_eq_true rfl) (by decide) dX7_follows_183 ?_
              refine j_istore C dX7_follows_186 (by decide) rfl ?_
              refine j_iload C dX7_follows_188 rfl ?_
              refine q_if_eq0 C 202 dX7_follows_190 (by decide) (fun h190 => ?_) (fun h190 => ?_)
              · refine j_iconst C (v := nI 0) dX7_follows_202 rfl ?_
                have K203 : Q G X 0 0 203 [some (.ref (gb G + 156)), some (.ref (gb G + a)), some (.ref (gb G + b)), some (.ref (gb G + c)), some (.int (nI p)), some (.int (nI v27)), some (.int (nI v33)), some (.int (jI (chgN p v27 v33))), some (.int x), none, some (.int (nI i)), some (.int (jI (chgN (dg (gv t p) (3 - i)) (dg (gv u v27) (3 - i)) (dg (gv v v33) (3 - i)))))] [.int (bI (((chgN p v27 v33).isSome && (mrT (gv t p) (gv u v27) (gv v v33) (i + 1)).isSome)))] M := by
                  skip
                  refine j_istore C dX7_follows_203 (by decide) rfl ?_
                  refine j_bipush C (v := nI 10) dX7_follows_205 rfl ?_
                  refine j_iload C dX7_follows_207 rfl ?_
                  refine j_imul C dX7_follows_209 ?_
                  refine j_iload C dX7_follows_210 rfl ?_
                  refine j_iadd C dX7_follows_212 ?_
                  refine j_istore C dX7_follows_213 (by decide) rfl ?_
                  refine q_iinc C dX7_follows_215 rfl (by decide) rfl ?_
                  refine j_goto C 150 dX7_follows_218 ?_ (by decide)
                  exact q_cast (ih (by omega) _ (mrT_acc hx)) (gLe_c rfl (gLe_c rfl (gLe_c rfl (gLe_c rfl (gLe_c rfl (gLe_c rfl (gLe_c rfl (gLe_c rfl (gLe_c rfl (gLe_c rfl (gLe_c rfl (gLe_n gLe_0)))))))))))) (rfl)
                exact q_st (K203) (by first | exact nI_bI0 (gd_no h190) | exact nI_bI0 (gd_n2 (jI_neg h195 (fun w hw => Nat.lt_trans (chg_lt hw (dg_lt _ _) (dg_lt _ _)) (by decide)))) | exact nI_bI1 (gd_ok h190 (jI_pos h195))) (gLe_c rfl (gLe_c rfl (gLe_c rfl (gLe_c rfl (gLe_c rfl (gLe_c rfl (gLe_c rfl (gLe_c rfl (gLe_c rfl (gLe_n (gLe_c rfl (gLe_c rfl gLe_0))))))))))))
              · refine j_iload C dX7_follows_193 rfl ?_
                refine j_if_lt C 202 dX7_follows_195 (fun h195 => ?_) (fun h195 => ?_) (by decide)
                · refine j_iconst C (v := nI 0) dX7_follows_202 rfl ?_
                  have K203 : Q G X 0 0 203 [some (.ref (gb G + 156)), some (.ref (gb G + a)), some (.ref (gb G + b)), some (.ref (gb G + c)), some (.int (nI p)), some (.int (nI v27)), some (.int (nI v33)), some (.int (jI (chgN p v27 v33))), some (.int x), none, some (.int (nI i)), some (.int (jI (chgN (dg (gv t p) (3 - i)) (dg (gv u v27) (3 - i)) (dg (gv v v33) (3 - i)))))] [.int (bI (((chgN p v27 v33).isSome && (mrT (gv t p) (gv u v27) (gv v v33) (i + 1)).isSome)))] M := by
                    skip
                    refine j_istore C dX7_follows_203 (by decide) rfl ?_
                    refine j_bipush C (v := nI 10) dX7_follows_205 rfl ?_
                    refine j_iload C dX7_follows_207 rfl ?_
                    refine j_imul C dX7_follows_209 ?_
                    refine j_iload C dX7_follows_210 rfl ?_
                    refine j_iadd C dX7_follows_212 ?_
                    refine j_istore C dX7_follows_213 (by decide) rfl ?_
                    refine q_iinc C dX7_follows_215 rfl (by decide) rfl ?_
                    refine j_goto C 150 dX7_follows_218 ?_ (by decide)
                    exact q_cast (ih (by omega) _ (mrT_acc hx)) (gLe_c rfl (gLe_c rfl (gLe_c rfl (gLe_c rfl (gLe_c rfl (gLe_c rfl (gLe_c rfl (gLe_c rfl (gLe_c rfl (gLe_c rfl (gLe_c rfl (gLe_n gLe_0)))))))))))) (rfl)
                  exact q_st (K203) (by first | exact nI_bI0 (gd_no h190) | exact nI_bI0 (gd_n2 (jI_neg h195 (fun w hw => Nat.lt_trans (chg_lt hw (dg_lt _ _) (dg_lt _ _)) (by decide)))) | exact nI_bI1 (gd_ok h190 (jI_pos h195))) (gLe_c rfl (gLe_c rfl (gLe_c rfl (gLe_c rfl (gLe_c rfl (gLe_c rfl (gLe_c rfl (gLe_c rfl (gLe_c rfl (gLe_n (gLe_c rfl (gLe_c rfl gLe_0))))))))))))
                · refine j_iconst C (v := nI 1) dX7_follows_198 rfl ?_
                  refine j_goto C 203 dX7_follows_199 ?_ (by decide)
                  have K203 : Q G X 0 0 203 [some (.ref (gb G + 156)), some (.ref (gb G + a)), some (.ref (gb G + b)), some (.ref (gb G + c)), some (.int (nI p)), some (.int (nI v27)), some (.int (nI v33)), some (.int (jI (chgN p v27 v33))), some (.int x), none, some (.int (nI i)), some (.int (jI (chgN (dg (gv t p) (3 - i)) (dg (gv u v27) (3 - i)) (dg (gv v v33) (3 - i)))))] [.int (bI (((chgN p v27 v33).isSome && (mrT (gv t p) (gv u v27) (gv v v33) (i + 1)).isSome)))] M := by
                    skip
                    refine j_istore C dX7_follows_203 (by decide) rfl ?_
                    refine j_bipush C (v := nI 10) dX7_follows_205 rfl ?_
                    refine j_iload C dX7_follows_207 rfl ?_
                    refine j_imul C dX7_follows_209 ?_
                    refine j_iload C dX7_follows_210 rfl ?_
                    refine j_iadd C dX7_follows_212 ?_
                    refine j_istore C dX7_follows_213 (by decide) rfl ?_
                    refine q_iinc C dX7_follows_215 rfl (by decide) rfl ?_
                    refine j_goto C 150 dX7_follows_218 ?_ (by decide)
                    exact q_cast (ih (by omega) _ (mrT_acc hx)) (gLe_c rfl (gLe_c rfl (gLe_c rfl (gLe_c rfl (gLe_c rfl (gLe_c rfl (gLe_c rfl (gLe_c rfl (gLe_c rfl (gLe_c rfl (gLe_c rfl (gLe_n gLe_0)))))))))))) (rfl)
                  exact q_st (K203) (by first | exact nI_bI0 (gd_no h190) | exact nI_bI0 (gd_n2 (jI_neg h195 (fun w hw => Nat.lt_trans (chg_lt hw (dg_lt _ _) (dg_lt _ _)) (by decide)))) | exact nI_bI1 (gd_ok h190 (jI_pos h195))) (gLe_c rfl (gLe_c rfl (gLe_c rfl (gLe_c rfl (gLe_c rfl (gLe_c rfl (gLe_c rfl (gLe_c rfl (gLe_c rfl (gLe_n (gLe_c rfl (gLe_c rfl gLe_0))))))))))))
          exact q_cast (K150 0 (by omega) (nI 0) (fun m hm => by cases hm; rfl)) (gLe_c rfl (gLe_c rfl (gLe_c rfl (gLe_c rfl (gLe_c rfl (gLe_c rfl (gLe_c rfl (gLe_c rfl (gLe_c rfl (gLe_c rfl (gLe_c rfl (gLe_n gLe_0)))))))))))) (rfl)
        exact q_st (K145) (by first | exact nI_bI0 (by rw [jI_neg h137 (chg_b (by omega) (by omega))]; rfl) | (obtain ⟨y, hy⟩ := jI_pos h137; exact nI_bI1 (by rw [hy]; rfl))) (gLe_c rfl (gLe_c rfl (gLe_c rfl (gLe_c rfl (gLe_c rfl (gLe_c rfl (gLe_c rfl (gLe_c rfl (gLe_c rfl (gLe_n (gLe_n (gLe_n gLe_0))))))))))))
    · refine j_iload C dX7_follows_36 rfl ?_
      refine j_iload C dX7_follows_38 rfl ?_
      refine j_icmp_ne C 47 dX7_follows_40 (fun h40 => ?_) (fun h40 => ?_) (by decide)
      · refine j_iconst C (v := nI 0) dX7_follows_47 rfl ?_
        have K48 : Q G X 0 0 48 [some (.ref (gb G + 156)), some (.ref (gb G + a)), some (.ref (gb G + b)), some (.ref (gb G + c)), some (.int (nI p)), some (.int (oI (moO t u p))), some (.int (oI (moO t v p))), none, none, none, none, none] [.int (bI (decide ((moO t u p) = (moO t v p))))] M := by
          skip
          refine j_istore C dX7_follows_48 (by decide) rfl ?_
          refine j_iload C dX7_follows_50 rfl ?_
          refine j_iload C dX7_follows_52 rfl ?_
          refine j_icmp_ne C 72 dX7_follows_54 (fun h54 => ?_) (fun h54 => ?_) (by decide)
          · refine j_iconst C (v := nI 0) dX7_follows_72 rfl ?_
            have K73 : Q G X 0 0 73 [some (.ref (gb G + 156)), some (.ref (gb G + a)), some (.ref (gb G + b)), some (.ref (gb G + c)), some (.int (nI p)), some (.int (oI (moO t u p))), some (.int (oI (moO t v p))), some (.int (bI (decide ((moO t u p) = (moO t v p))))), none, none, none, none] [.int (bI ((decide ((moO t u p) = some p) && decide (u p = t p))))] M := by
              skip
              refine j_istore C dX7_follows_73 (by decide) rfl ?_
              refine j_iload C dX7_follows_75 rfl ?_
              refine j_iload C dX7_follows_77 rfl ?_
              refine j_icmp_ne C 97 dX7_follows_79 (fun h79 => ?_) (fun h79 => ?_) (by decide)
              · refine j_iconst C (v := nI 0) dX7_follows_97 rfl ?_
                have K98 : Q G X 0 0 98 [some (.ref (gb G + 156)), some (.ref (gb G + a)), some (.ref (gb G + b)), some (.ref (gb G + c)), some (.int (nI p)), some (.int (oI (moO t u p))), some (.int (oI (moO t v p))), some (.int (bI (decide ((moO t u p) = (moO t v p))))), some (.int (bI (decide ((moO t u p) = some p) && decide (u p = t p)))), none, none, none] [.int (bI ((decide ((moO t v p) = some p) && decide (v p = t p))))] M := by
                  skip
                  refine j_istore C dX7_follows_98 (by decide) rfl ?_
                  refine j_iload C dX7_follows_100 rfl ?_
                  refine q_if_ne0 C 115 dX7_follows_102 (by decide) (fun h102 => ?_) (fun h102 => ?_)
                  · refine j_iconst C (v := nI 1) dX7_follows_115 rfl ?_
                    refine j_goto C 120 dX7_follows_116 ?_ (by decide)
                    exact q_zretS C CM rfl (by decide) (by decide) dX7_follows_120 (by first | exact nI_bI1 (by rw [fw_gone hs (by first | exact Or.inl h27 | exact Or.inr h33), h102]; rfl) | exact nI_bI1 (by rw [fw_gone hs (by first | exact Or.inl h27 | exact Or.inr h33), h107, Bool.or_true]; rfl) | exact nI_bI1 (by rw [fw_gone hs (by first | exact Or.inl h27 | exact Or.inr h33), h112, Bool.or_true]) | exact nI_bI0 (by rw [fw_gone hs (by first | exact Or.inl h27 | exact Or.inr h33), h102, h107, h112]; rfl)) (fm_0 hA (fl_gone hs (by first | exact Or.inl h27 | exact Or.inr h33)).2)
                  · refine j_iload C dX7_follows_105 rfl ?_
                    refine q_if_ne0 C 115 dX7_follows_107 (by decide) (fun h107 => ?_) (fun h107 => ?_)
                    · refine j_iconst C (v := nI 1) dX7_follows_115 rfl ?_
                      refine j_goto C 120 dX7_follows_116 ?_ (by decide)
                      exact q_zretS C CM rfl (by decide) (by decide) dX7_follows_120 (by first | exact nI_bI1 (by rw [fw_gone hs (by first | exact Or.inl h27 | exact Or.inr h33), h102]; rfl) | exact nI_bI1 (by rw [fw_gone hs (by first | exact Or.inl h27 | exact Or.inr h33), h107, Bool.or_true]; rfl) | exact nI_bI1 (by rw [fw_gone hs (by first | exact Or.inl h27 | exact Or.inr h33), h112, Bool.or_true]) | exact nI_bI0 (by rw [fw_gone hs (by first | exact Or.inl h27 | exact Or.inr h33), h102, h107, h112]; rfl)) (fm_0 hA (fl_gone hs (by first | exact Or.inl h27 | exact Or.inr h33)).2)
                    · refine j_iload C dX7_follows_110 rfl ?_
                      refine q_if_eq0 C 119 dX7_follows_112 (by decide) (fun h112 => ?_) (fun h112 => ?_)
                      · refine j_iconst C (v := nI 0) dX7_follows_119 rfl ?_
                        exact q_zretS C CM rfl (by decide) (by decide) dX7_follows_120 (by first | exact nI_bI1 (by rw [fw_gone hs (by first | exact Or.inl h27 | exact Or.inr h33), h102]; rfl) | exact nI_bI1 (by rw [fw_gone hs (by first | exact Or.inl h27 | exact Or.inr h33), h107, Bool.or_true]; rfl) | exact nI_bI1 (by rw [fw_gone hs (by first | exact Or.inl h27 | exact Or.inr h33), h112, Bool.or_true]) | exact nI_bI0 (by rw [fw_gone hs (by first | exact Or.inl h27 | exact Or.inr h33), h102, h107, h112]; rfl)) (fm_0 hA (fl_gone hs (by first | exact Or.inl h27 | exact Or.inr h33)).2)
                      · refine j_iconst C (v := nI 1) dX7_follows_115 rfl ?_
                        refine j_goto C 120 dX7_follows_116 ?_ (by decide)
                        exact q_zretS C CM rfl (by decide) (by decide) dX7_follows_120 (by first | exact nI_bI1 (by rw [fw_gone hs (by first | exact Or.inl h27 | exact Or.inr h33), h102]; rfl) | exact nI_bI1 (by rw [fw_gone hs (by first | exact Or.inl h27 | exact Or.inr h33), h107, Bool.or_true]; rfl) | exact nI_bI1 (by rw [fw_gone hs (by first | exact Or.inl h27 | exact Or.inr h33), h112, Bool.or_true]) | exact nI_bI0 (by rw [fw_gone hs (by first | exact Or.inl h27 | exact Or.inr h33), h102, h107, h112]; rfl)) (fm_0 hA (fl_gone hs (by first | exact Or.inl h27 | exact Or.inr h33)).2)
                exact q_st (K98) (by first | exact nI_bI1 (by rw [decide_eq_true ((oI_eq (b := some p) (fun w hw => Nat.lt_trans (mv_some hw hp).1 (by decide)) (fun w hw => by cases hw; omega)).mp h79), decide_eq_true ((oI_eq (nI_lt8 hv hp) (nI_lt8 ht hp)).mp h90)]; rfl) | exact nI_bI0 (by rw [decide_eq_false (p := v p = t p) (fun e => h90 ((oI_eq (nI_lt8 hv hp) (nI_lt8 ht hp)).mpr e)), Bool.and_false]) | exact nI_bI0 (by rw [decide_eq_false (p := (moO t v p) = some p) (fun e => h79 ((oI_eq (b := some p) (fun w hw => Nat.lt_trans (mv_some hw hp).1 (by decide)) (fun w hw => by cases hw; omega)).mpr e))]; rfl)) (gLe_c rfl (gLe_c rfl (gLe_c rfl (gLe_c rfl (gLe_c rfl (gLe_c rfl (gLe_c rfl (gLe_c rfl (gLe_c rfl (gLe_n (gLe_n (gLe_n gLe_0))))))))))))
              · refine j_aload_n C dX7_follows_82 rfl ?_
                refine j_iload C dX7_follows_83 rfl ?_
                refine q_iald C hc.1 hc.2 (by decide) (by omega) dX7_follows_85 ?_
                rw [hsv p hp]
                refine j_aload_n C dX7_follows_86 rfl ?_
                refine j_iload C dX7_follows_87 rfl ?_
                refine q_iald C ha.1 ha.2 (by decide) (by omega) dX7_follows_89 ?_
                rw [hr p hp]
                refine j_icmp_ne C 97 dX7_follows_90 (fun h90 => ?_) (fun h90 => ?_) (by decide)
                · refine j_iconst C (v := nI 0) dX7_follows_97 rfl ?_
                  have K98 : Q G X 0 0 98 [some (.ref (gb G + 156)), some (.ref (gb G + a)), some (.ref (gb G + b)), some (.ref (gb G + c)), some (.int (nI p)), some (.int (oI (moO t u p))), some (.int (oI (moO t v p))), some (.int (bI (decide ((moO t u p) = (moO t v p))))), some (.int (bI (decide ((moO t u p) = some p) && decide (u p = t p)))), none, none, none] [.int (bI ((decide ((moO t v p) = some p) && decide (v p = t p))))] M := by
                    skip
                    refine j_istore C dX7_follows_98 (by decide) rfl ?_
                    refine j_iload C dX7_follows_100 rfl ?_
                    refine q_if_ne0 C 115 dX7_follows_102 (by decide) (fun h102 => ?_) (fun h102 => ?_)
                    · refine j_iconst C (v := nI 1) dX7_follows_115 rfl ?_
                      refine j_goto C 120 dX7_follows_116 ?_ (by decide)
                      exact q_zretS C CM rfl (by decide) (by decide) dX7_follows_120 (by first | exact nI_bI1 (by rw [fw_gone hs (by first | exact Or.inl h27 | exact Or.inr h33), h102]; rfl) | exact nI_bI1 (by rw [fw_gone hs (by first | exact Or.inl h27 | exact Or.inr h33), h107, Bool.or_true]; rfl) | exact nI_bI1 (by rw [fw_gone hs (by first | exact Or.inl h27 | exact Or.inr h33), h112, Bool.or_true]) | exact nI_bI0 (by rw [fw_gone hs (by first | exact Or.inl h27 | exact Or.inr h33), h102, h107, h112]; rfl)) (fm_0 hA (fl_gone hs (by first | exact Or.inl h27 | exact Or.inr h33)).2)
                    · refine j_iload C dX7_follows_105 rfl ?_
                      refine q_if_ne0 C 115 dX7_follows_107 (by decide) (fun h107 => ?_) (fun h107 => ?_)
                      · refine j_iconst C (v := nI 1) dX7_follows_115 rfl ?_
                        refine j_goto C 120 dX7_follows_116 ?_ (by decide)
                        exact q_zretS C CM rfl (by decide) (by decide) dX7_follows_120 (by first | exact nI_bI1 (by rw [fw_gone hs (by first | exact Or.inl h27 | exact Or.inr h33), h102]; rfl) | exact nI_bI1 (by rw [fw_gone hs (by first | exact Or.inl h27 | exact Or.inr h33), h107, Bool.or_true]; rfl) | exact nI_bI1 (by rw [fw_gone hs (by first | exact Or.inl h27 | exact Or.inr h33), h112, Bool.or_true]) | exact nI_bI0 (by rw [fw_gone hs (by first | exact Or.inl h27 | exact Or.inr h33), h102, h107, h112]; rfl)) (fm_0 hA (fl_gone hs (by first | exact Or.inl h27 | exact Or.inr h33)).2)
                      · refine j_iload C dX7_follows_110 rfl ?_
                        refine q_if_eq0 C 119 dX7_follows_112 (by decide) (fun h112 => ?_) (fun h112 => ?_)
                        · refine j_iconst C (v := nI 0) dX7_follows_119 rfl ?_
                          exact q_zretS C CM rfl (by decide) (by decide) dX7_follows_120 (by first | exact nI_bI1 (by rw [fw_gone hs (by first | exact Or.inl h27 | exact Or.inr h33), h102]; rfl) | exact nI_bI1 (by rw [fw_gone hs (by first | exact Or.inl h27 | exact Or.inr h33), h107, Bool.or_true]; rfl) | exact nI_bI1 (by rw [fw_gone hs (by first | exact Or.inl h27 | exact Or.inr h33), h112, Bool.or_true]) | exact nI_bI0 (by rw [fw_gone hs (by first | exact Or.inl h27 | exact Or.inr h33), h102, h107, h112]; rfl)) (fm_0 hA (fl_gone hs (by first | exact Or.inl h27 | exact Or.inr h33)).2)
                        · refine j_iconst C (v := nI 1) dX7_follows_115 rfl ?_
                          refine j_goto C 120 dX7_follows_116 ?_ (by decide)
                          exact q_zretS C CM rfl (by decide) (by decide) dX7_follows_120 (by first | exact nI_bI1 (by rw [fw_gone hs (by first | exact Or.inl h27 | exact Or.inr h33), h102]; rfl) | exact nI_bI1 (by rw [fw_gone hs (by first | exact Or.inl h27 | exact Or.inr h33), h107, Bool.or_true]; rfl) | exact nI_bI1 (by rw [fw_gone hs (by first | exact Or.inl h27 | exact Or.inr h33), h112, Bool.or_true]) | exact nI_bI0 (by rw [fw_gone hs (by first | exact Or.inl h27 | exact Or.inr h33), h102, h107, h112]; rfl)) (fm_0 hA (fl_gone hs (by first | exact Or.inl h27 | exact Or.inr h33)).2)
                  exact q_st (K98) (by first | exact nI_bI1 (by rw [decide_eq_true ((oI_eq (b := some p) (fun w hw => Nat.lt_trans (mv_some hw hp).1 (by decide)) (fun w hw => by cases hw; omega)).mp h79), decide_eq_true ((oI_eq (nI_lt8 hv hp) (nI_lt8 ht hp)).mp h90)]; rfl) | exact nI_bI0 (by rw [decide_eq_false (p := v p = t p) (fun e => h90 ((oI_eq (nI_lt8 hv hp) (nI_lt8 ht hp)).mpr e)), Bool.and_false]) | exact nI_bI0 (by rw [decide_eq_false (p := (moO t v p) = some p) (fun e => h79 ((oI_eq (b := some p) (fun w hw => Nat.lt_trans (mv_some hw hp).1 (by decide)) (fun w hw => by cases hw; omega)).mpr e))]; rfl)) (gLe_c rfl (gLe_c rfl (gLe_c rfl (gLe_c rfl (gLe_c rfl (gLe_c rfl (gLe_c rfl (gLe_c rfl (gLe_c rfl (gLe_n (gLe_n (gLe_n gLe_0))))))))))))
                · refine j_iconst C (v := nI 1) dX7_follows_93 rfl ?_
                  refine j_goto C 98 dX7_follows_94 ?_ (by decide)
                  have K98 : Q G X 0 0 98 [some (.ref (gb G + 156)), some (.ref (gb G + a)), some (.ref (gb G + b)), some (.ref (gb G + c)), some (.int (nI p)), some (.int (oI (moO t u p))), some (.int (oI (moO t v p))), some (.int (bI (decide ((moO t u p) = (moO t v p))))), some (.int (bI (decide ((moO t u p) = some p) && decide (u p = t p)))), none, none, none] [.int (bI ((decide ((moO t v p) = some p) && decide (v p = t p))))] M := by
                    skip
                    refine j_istore C dX7_follows_98 (by decide) rfl ?_
                    refine j_iload C dX7_follows_100 rfl ?_
                    refine q_if_ne0 C 115 dX7_follows_102 (by decide) (fun h102 => ?_) (fun h102 => ?_)
                    · refine j_iconst C (v := nI 1) dX7_follows_115 rfl ?_
                      refine j_goto C 120 dX7_follows_116 ?_ (by decide)
                      exact q_zretS C CM rfl (by decide) (by decide) dX7_follows_120 (by first | exact nI_bI1 (by rw [fw_gone hs (by first | exact Or.inl h27 | exact Or.inr h33), h102]; rfl) | exact nI_bI1 (by rw [fw_gone hs (by first | exact Or.inl h27 | exact Or.inr h33), h107, Bool.or_true]; rfl) | exact nI_bI1 (by rw [fw_gone hs (by first | exact Or.inl h27 | exact Or.inr h33), h112, Bool.or_true]) | exact nI_bI0 (by rw [fw_gone hs (by first | exact Or.inl h27 | exact Or.inr h33), h102, h107, h112]; rfl)) (fm_0 hA (fl_gone hs (by first | exact Or.inl h27 | exact Or.inr h33)).2)
                    · refine j_iload C dX7_follows_105 rfl ?_
                      refine q_if_ne0 C 115 dX7_follows_107 (by decide) (fun h107 => ?_) (fun h107 => ?_)
                      · refine j_iconst C (v := nI 1) dX7_follows_115 rfl ?_
                        refine j_goto C 120 dX7_follows_116 ?_ (by decide)
                        exact q_zretS C CM rfl (by decide) (by decide) dX7_follows_120 (by first | exact nI_bI1 (by rw [fw_gone hs (by first | exact Or.inl h27 | exact Or.inr h33), h102]; rfl) | exact nI_bI1 (by rw [fw_gone hs (by first | exact Or.inl h27 | exact Or.inr h33), h107, Bool.or_true]; rfl) | exact nI_bI1 (by rw [fw_gone hs (by first | exact Or.inl h27 | exact Or.inr h33), h112, Bool.or_true]) | exact nI_bI0 (by rw [fw_gone hs (by first | exact Or.inl h27 | exact Or.inr h33), h102, h107, h112]; rfl)) (fm_0 hA (fl_gone hs (by first | exact Or.inl h27 | exact Or.inr h33)).2)
                      · refine j_iload C dX7_follows_110 rfl ?_
                        refine q_if_eq0 C 119 dX7_follows_112 (by decide) (fun h112 => ?_) (fun h112 => ?_)
                        · refine j_iconst C (v := nI 0) dX7_follows_119 rfl ?_
                          exact q_zretS C CM rfl (by decide) (by decide) dX7_follows_120 (by first | exact nI_bI1 (by rw [fw_gone hs (by first | exact Or.inl h27 | exact Or.inr h33), h102]; rfl) | exact nI_bI1 (by rw [fw_gone hs (by first | exact Or.inl h27 | exact Or.inr h33), h107, Bool.or_true]; rfl) | exact nI_bI1 (by rw [fw_gone hs (by first | exact Or.inl h27 | exact Or.inr h33), h112, Bool.or_true]) | exact nI_bI0 (by rw [fw_gone hs (by first | exact Or.inl h27 | exact Or.inr h33), h102, h107, h112]; rfl)) (fm_0 hA (fl_gone hs (by first | exact Or.inl h27 | exact Or.inr h33)).2)
                        · refine j_iconst C (v := nI 1) dX7_follows_115 rfl ?_
                          refine j_goto C 120 dX7_follows_116 ?_ (by decide)
                          exact q_zretS C CM rfl (by decide) (by decide) dX7_follows_120 (by first | exact nI_bI1 (by rw [fw_gone hs (by first | exact Or.inl h27 | exact Or.inr h33), h102]; rfl) | exact nI_bI1 (by rw [fw_gone hs (by first | exact Or.inl h27 | exact Or.inr h33), h107, Bool.or_true]; rfl) | exact nI_bI1 (by rw [fw_gone hs (by first | exact Or.inl h27 | exact Or.inr h33), h112, Bool.or_true]) | exact nI_bI0 (by rw [fw_gone hs (by first | exact Or.inl h27 | exact Or.inr h33), h102, h107, h112]; rfl)) (fm_0 hA (fl_gone hs (by first | exact Or.inl h27 | exact Or.inr h33)).2)
                  exact q_st (K98) (by first | exact nI_bI1 (by rw [decide_eq_true ((oI_eq (b := some p) (fun w hw => Nat.lt_trans (mv_some hw hp).1 (by decide)) (fun w hw => by cases hw; omega)).mp h79), decide_eq_true ((oI_eq (nI_lt8 hv hp) (nI_lt8 ht hp)).mp h90)]; rfl) | exact nI_bI0 (by rw [decide_eq_false (p := v p = t p) (fun e => h90 ((oI_eq (nI_lt8 hv hp) (nI_lt8 ht hp)).mpr e)), Bool.and_false]) | exact nI_bI0 (by rw [decide_eq_false (p := (moO t v p) = some p) (fun e => h79 ((oI_eq (b := some p) (fun w hw => Nat.lt_trans (mv_some hw hp).1 (by decide)) (fun w hw => by cases hw; omega)).mpr e))]; rfl)) (gLe_c rfl (gLe_c rfl (gLe_c rfl (gLe_c rfl (gLe_c rfl (gLe_c rfl (gLe_c rfl (gLe_c rfl (gLe_c rfl (gLe_n (gLe_n (gLe_n gLe_0))))))))))))
            exact q_st (K73) (by first | exact nI_bI1 (by rw [decide_eq_true ((oI_eq (b := some p) (fun w hw => Nat.lt_trans (mv_some hw hp).1 (by decide)) (fun w hw => by cases hw; omega)).mp h54), decide_eq_true ((oI_eq (nI_lt8 hu hp) (nI_lt8 ht hp)).mp h65)]; rfl) | exact nI_bI0 (by rw [decide_eq_false (p := u p = t p) (fun e => h65 ((oI_eq (nI_lt8 hu hp) (nI_lt8 ht hp)).mpr e)), Bool.and_false]) | exact nI_bI0 (by rw [decide_eq_false (p := (moO t u p) = some p) (fun e => h54 ((oI_eq (b := some p) (fun w hw => Nat.lt_trans (mv_some hw hp).1 (by decide)) (fun w hw => by cases hw; omega)).mpr e))]; rfl)) (gLe_c rfl (gLe_c rfl (gLe_c rfl (gLe_c rfl (gLe_c rfl (gLe_c rfl (gLe_c rfl (gLe_c rfl (gLe_n (gLe_n (gLe_n (gLe_n gLe_0))))))))))))
          · refine j_aload_n C dX7_follows_57 rfl ?_
            refine j_iload C dX7_follows_58 rfl ?_
            refine q_iald C hb.1 hb.2 (by decide) (by omega) dX7_follows_60 ?_
            rw [hsu p hp]
            refine j_aload_n C dX7_follows_61 rfl ?_
            refine j_iload C dX7_follows_62 rfl ?_
            refine q_iald C ha.1 ha.2 (by decide) (by omega) dX7_follows_64 ?_
            rw [hr p hp]
            refine j_icmp_ne C 72 dX7_follows_65 (fun h65 => ?_) (fun h65 => ?_) (by decide)
            · refine j_iconst C (v := nI 0) dX7_follows_72 rfl ?_
              have K73 : Q G X 0 0 73 [some (.ref (gb G + 156)), some (.ref (gb G + a)), some (.ref (gb G + b)), some (.ref (gb G + c)), some (.int (nI p)), some (.int (oI (moO t u p))), some (.int (oI (moO t v p))), some (.int (bI (decide ((moO t u p) = (moO t v p))))), none, none, none, none] [.int (bI ((decide ((moO t u p) = some p) && decide (u p = t p))))] M := by
                skip
                refine j_istore C dX7_follows_73 (by decide) rfl ?_
                refine j_iload C dX7_follows_75 rfl ?_
                refine j_iload C dX7_follows_77 rfl ?_
                refine j_icmp_ne C 97 dX7_follows_79 (fun h79 => ?_) (fun h79 => ?_) (by decide)
                · refine j_iconst C (v := nI 0) dX7_follows_97 rfl ?_
                  have K98 : Q G X 0 0 98 [some (.ref (gb G + 156)), some (.ref (gb G + a)), some (.ref (gb G + b)), some (.ref (gb G + c)), some (.int (nI p)), some (.int (oI (moO t u p))), some (.int (oI (moO t v p))), some (.int (bI (decide ((moO t u p) = (moO t v p))))), some (.int (bI (decide ((moO t u p) = some p) && decide (u p = t p)))), none, none, none] [.int (bI ((decide ((moO t v p) = some p) && decide (v p = t p))))] M := by
                    skip
                    refine j_istore C dX7_follows_98 (by decide) rfl ?_
                    refine j_iload C dX7_follows_100 rfl ?_
                    refine q_if_ne0 C 115 dX7_follows_102 (by decide) (fun h102 => ?_) (fun h102 => ?_)
                    · refine j_iconst C (v := nI 1) dX7_follows_115 rfl ?_
                      refine j_goto C 120 dX7_follows_116 ?_ (by decide)
                      exact q_zretS C CM rfl (by decide) (by decide) dX7_follows_120 (by first | exact nI_bI1 (by rw [fw_gone hs (by first | exact Or.inl h27 | exact Or.inr h33), h102]; rfl) | exact nI_bI1 (by rw [fw_gone hs (by first | exact Or.inl h27 | exact Or.inr h33), h107, Bool.or_true]; rfl) | exact nI_bI1 (by rw [fw_gone hs (by first | exact Or.inl h27 | exact Or.inr h33), h112, Bool.or_true]) | exact nI_bI0 (by rw [fw_gone hs (by first | exact Or.inl h27 | exact Or.inr h33), h102, h107, h112]; rfl)) (fm_0 hA (fl_gone hs (by first | exact Or.inl h27 | exact Or.inr h33)).2)
                    · refine j_iload C dX7_follows_105 rfl ?_
                      refine q_if_ne0 C 115 dX7_follows_107 (by decide) (fun h107 => ?_) (fun h107 => ?_)
                      · refine j_iconst C (v := nI 1) dX7_follows_115 rfl ?_
                        refine j_goto C 120 dX7_follows_116 ?_ (by decide)
                        exact q_zretS C CM rfl (by decide) (by decide) dX7_follows_120 (by first | exact nI_bI1 (by rw [fw_gone hs (by first | exact Or.inl h27 | exact Or.inr h33), h102]; rfl) | exact nI_bI1 (by rw [fw_gone hs (by first | exact Or.inl h27 | exact Or.inr h33), h107, Bool.or_true]; rfl) | exact nI_bI1 (by rw [fw_gone hs (by first | exact Or.inl h27 | exact Or.inr h33), h112, Bool.or_true]) | exact nI_bI0 (by rw [fw_gone hs (by first | exact Or.inl h27 | exact Or.inr h33), h102, h107, h112]; rfl)) (fm_0 hA (fl_gone hs (by first | exact Or.inl h27 | exact Or.inr h33)).2)
                      · refine j_iload C dX7_follows_110 rfl ?_
                        refine q_if_eq0 C 119 dX7_follows_112 (by decide) (fun h112 => ?_) (fun h112 => ?_)
                        · refine j_iconst C (v := nI 0) dX7_follows_119 rfl ?_
                          exact q_zretS C CM rfl (by decide) (by decide) dX7_follows_120 (by first | exact nI_bI1 (by rw [fw_gone hs (by first | exact Or.inl h27 | exact Or.inr h33), h102]; rfl) | exact nI_bI1 (by rw [fw_gone hs (by first | exact Or.inl h27 | exact Or.inr h33), h107, Bool.or_true]; rfl) | exact nI_bI1 (by rw [fw_gone hs (by first | exact Or.inl h27 | exact Or.inr h33), h112, Bool.or_true]) | exact nI_bI0 (by rw [fw_gone hs (by first | exact Or.inl h27 | exact Or.inr h33), h102, h107, h112]; rfl)) (fm_0 hA (fl_gone hs (by first | exact Or.inl h27 | exact Or.inr h33)).2)
                        · refine j_iconst C (v := nI 1) dX7_follows_115 rfl ?_
                          refine j_goto C 120 dX7_follows_116 ?_ (by decide)
                          exact q_zretS C CM rfl (by decide) (by decide) dX7_follows_120 (by first | exact nI_bI1 (by rw [fw_gone hs (by first | exact Or.inl h27 | exact Or.inr h33), h102]; rfl) | exact nI_bI1 (by rw [fw_gone hs (by first | exact Or.inl h27 | exact Or.inr h33), h107, Bool.or_true]; rfl) | exact nI_bI1 (by rw [fw_gone hs (by first | exact Or.inl h27 | exact Or.inr h33), h112, Bool.or_true]) | exact nI_bI0 (by rw [fw_gone hs (by first | exact Or.inl h27 | exact Or.inr h33), h102, h107, h112]; rfl)) (fm_0 hA (fl_gone hs (by first | exact Or.inl h27 | exact Or.inr h33)).2)
                  exact q_st (K98) (by first | exact nI_bI1 (by rw [decide_eq_true ((oI_eq (b := some p) (fun w hw => Nat.lt_trans (mv_some hw hp).1 (by decide)) (fun w hw => by cases hw; omega)).mp h79), decide_eq_true ((oI_eq (nI_lt8 hv hp) (nI_lt8 ht hp)).mp h90)]; rfl) | exact nI_bI0 (by rw [decide_eq_false (p := v p = t p) (fun e => h90 ((oI_eq (nI_lt8 hv hp) (nI_lt8 ht hp)).mpr e)), Bool.and_false]) | exact nI_bI0 (by rw [decide_eq_false (p := (moO t v p) = some p) (fun e => h79 ((oI_eq (b := some p) (fun w hw => Nat.lt_trans (mv_some hw hp).1 (by decide)) (fun w hw => by cases hw; omega)).mpr e))]; rfl)) (gLe_c rfl (gLe_c rfl (gLe_c rfl (gLe_c rfl (gLe_c rfl (gLe_c rfl (gLe_c rfl (gLe_c rfl (gLe_c rfl (gLe_n (gLe_n (gLe_n gLe_0))))))))))))
                · refine j_aload_n C dX7_follows_82 rfl ?_
                  refine j_iload C dX7_follows_83 rfl ?_
                  refine q_iald C hc.1 hc.2 (by decide) (by omega) dX7_follows_85 ?_
                  rw [hsv p hp]
                  refine j_aload_n C dX7_follows_86 rfl ?_
                  refine j_iload C dX7_follows_87 rfl ?_
                  refine q_iald C ha.1 ha.2 (by decide) (by omega) dX7_follows_89 ?_
                  rw [hr p hp]
                  refine j_icmp_ne C 97 dX7_follows_90 (fun h90 => ?_) (fun h90 => ?_) (by decide)
                  · refine j_iconst C (v := nI 0) dX7_follows_97 rfl ?_
                    have K98 : Q G X 0 0 98 [some (.ref (gb G + 156)), some (.ref (gb G + a)), some (.ref (gb G + b)), some (.ref (gb G + c)), some (.int (nI p)), some (.int (oI (moO t u p))), some (.int (oI (moO t v p))), some (.int (bI (decide ((moO t u p) = (moO t v p))))), some (.int (bI (decide ((moO t u p) = some p) && decide (u p = t p)))), none, none, none] [.int (bI ((decide ((moO t v p) = some p) && decide (v p = t p))))] M := by
                      skip
                      refine j_istore C dX7_follows_98 (by decide) rfl ?_
                      refine j_iload C dX7_follows_100 rfl ?_
                      refine q_if_ne0 C 115 dX7_follows_102 (by decide) (fun h102 => ?_) (fun h102 => ?_)
                      · refine j_iconst C (v := nI 1) dX7_follows_115 rfl ?_
                        refine j_goto C 120 dX7_follows_116 ?_ (by decide)
                        exact q_zretS C CM rfl (by decide) (by decide) dX7_follows_120 (by first | exact nI_bI1 (by rw [fw_gone hs (by first | exact Or.inl h27 | exact Or.inr h33), h102]; rfl) | exact nI_bI1 (by rw [fw_gone hs (by first | exact Or.inl h27 | exact Or.inr h33), h107, Bool.or_true]; rfl) | exact nI_bI1 (by rw [fw_gone hs (by first | exact Or.inl h27 | exact Or.inr h33), h112, Bool.or_true]) | exact nI_bI0 (by rw [fw_gone hs (by first | exact Or.inl h27 | exact Or.inr h33), h102, h107, h112]; rfl)) (fm_0 hA (fl_gone hs (by first | exact Or.inl h27 | exact Or.inr h33)).2)
                      · refine j_iload C dX7_follows_105 rfl ?_
                        refine q_if_ne0 C 115 dX7_follows_107 (by decide) (fun h107 => ?_) (fun h107 => ?_)
                        · refine j_iconst C (v := nI 1) dX7_follows_115 rfl ?_
                          refine j_goto C 120 dX7_follows_116 ?_ (by decide)
                          exact q_zretS C CM rfl (by decide) (by decide) dX7_follows_120 (by first | exact nI_bI1 (by rw [fw_gone hs (by first | exact Or.inl h27 | exact Or.inr h33), h102]; rfl) | exact nI_bI1 (by rw [fw_gone hs (by first | exact Or.inl h27 | exact Or.inr h33), h107, Bool.or_true]; rfl) | exact nI_bI1 (by rw [fw_gone hs (by first | exact Or.inl h27 | exact Or.inr h33), h112, Bool.or_true]) | exact nI_bI0 (by rw [fw_gone hs (by first | exact Or.inl h27 | exact Or.inr h33), h102, h107, h112]; rfl)) (fm_0 hA (fl_gone hs (by first | exact Or.inl h27 | exact Or.inr h33)).2)
                        · refine j_iload C dX7_follows_110 rfl ?_
                          refine q_if_eq0 C 119 dX7_follows_112 (by decide) (fun h112 => ?_) (fun h112 => ?_)
                          · refine j_iconst C (v := nI 0) dX7_follows_119 rfl ?_
                            exact q_zretS C CM rfl (by decide) (by decide) dX7_follows_120 (by first | exact nI_bI1 (by rw [fw_gone hs (by first | exact Or.inl h27 | exact Or.inr h33), h102]; rfl) | exact nI_bI1 (by rw [fw_gone hs (by first | exact Or.inl h27 | exact Or.inr h33), h107, Bool.or_true]; rfl) | exact nI_bI1 (by rw [fw_gone hs (by first | exact Or.inl h27 | exact Or.inr h33), h112, Bool.or_true]) | exact nI_bI0 (by rw [fw_gone hs (by first | exact Or.inl h27 | exact Or.inr h33), h102, h107, h112]; rfl)) (fm_0 hA (fl_gone hs (by first | exact Or.inl h27 | exact Or.inr h33)).2)
                          · refine j_iconst C (v := nI 1) dX7_follows_115 rfl ?_
                            refine j_goto C 120 dX7_follows_116 ?_ (by decide)
                            exact q_zretS C CM rfl (by decide) (by decide) dX7_follows_120 (by first | exact nI_bI1 (by rw [fw_gone hs (by first | exact Or.inl h27 | exact Or.inr h33), h102]; rfl) | exact nI_bI1 (by rw [fw_gone hs (by first | exact Or.inl h27 | exact Or.inr h33), h107, Bool.or_true]; rfl) | exact nI_bI1 (by rw [fw_gone hs (by first | exact Or.inl h27 | exact Or.inr h33), h112, Bool.or_true]) | exact nI_bI0 (by rw [fw_gone hs (by first | exact Or.inl h27 | exact Or.inr h33), h102, h107, h112]; rfl)) (fm_0 hA (fl_gone hs (by first | exact Or.inl h27 | exact Or.inr h33)).2)
                    exact q_st (K98) (by first | exact nI_bI1 (by rw [decide_eq_true ((oI_eq (b := some p) (fun w hw => Nat.lt_trans (mv_some hw hp).1 (by decide)) (fun w hw => by cases hw; omega)).mp h79), decide_eq_true ((oI_eq (nI_lt8 hv hp) (nI_lt8 ht hp)).mp h90)]; rfl) | exact nI_bI0 (by rw [decide_eq_false (p := v p = t p) (fun e => h90 ((oI_eq (nI_lt8 hv hp) (nI_lt8 ht hp)).mpr e)), Bool.and_false]) | exact nI_bI0 (by rw [decide_eq_false (p := (moO t v p) = some p) (fun e => h79 ((oI_eq (b := some p) (fun w hw => Nat.lt_trans (mv_some hw hp).1 (by decide)) (fun w hw => by cases hw; omega)).mpr e))]; rfl)) (gLe_c rfl (gLe_c rfl (gLe_c rfl (gLe_c rfl (gLe_c rfl (gLe_c rfl (gLe_c rfl (gLe_c rfl (gLe_c rfl (gLe_n (gLe_n (gLe_n gLe_0))))))))))))
                  · refine j_iconst C (v := nI 1) dX7_follows_93 rfl ?_
                    refine j_goto C 98 dX7_follows_94 ?_ (by decide)
                    have K98 : Q G X 0 0 98 [some (.ref (gb G + 156)), some (.ref (gb G + a)), some (.ref (gb G + b)), some (.ref (gb G + c)), some (.int (nI p)), some (.int (oI (moO t u p))), some (.int (oI (moO t v p))), some (.int (bI (decide ((moO t u p) = (moO t v p))))), some (.int (bI (decide ((moO t u p) = some p) && decide (u p = t p)))), none, none, none] [.int (bI ((decide ((moO t v p) = some p) && decide (v p = t p))))] M := by
                      skip
                      refine j_istore C dX7_follows_98 (by decide) rfl ?_
                      refine j_iload C dX7_follows_100 rfl ?_
                      refine q_if_ne0 C 115 dX7_follows_102 (by decide) (fun h102 => ?_) (fun h102 => ?_)
                      · refine j_iconst C (v := nI 1) dX7_follows_115 rfl ?_
                        refine j_goto C 120 dX7_follows_116 ?_ (by decide)
                        exact q_zretS C CM rfl (by decide) (by decide) dX7_follows_120 (by first | exact nI_bI1 (by rw [fw_gone hs (by first | exact Or.inl h27 | exact Or.inr h33), h102]; rfl) | exact nI_bI1 (by rw [fw_gone hs (by first | exact Or.inl h27 | exact Or.inr h33), h107, Bool.or_true]; rfl) | exact nI_bI1 (by rw [fw_gone hs (by first | exact Or.inl h27 | exact Or.inr h33), h112, Bool.or_true]) | exact nI_bI0 (by rw [fw_gone hs (by first | exact Or.inl h27 | exact Or.inr h33), h102, h107, h112]; rfl)) (fm_0 hA (fl_gone hs (by first | exact Or.inl h27 | exact Or.inr h33)).2)
                      · refine j_iload C dX7_follows_105 rfl ?_
                        refine q_if_ne0 C 115 dX7_follows_107 (by decide) (fun h107 => ?_) (fun h107 => ?_)
                        · refine j_iconst C (v := nI 1) dX7_follows_115 rfl ?_
                          refine j_goto C 120 dX7_follows_116 ?_ (by decide)
                          exact q_zretS C CM rfl (by decide) (by decide) dX7_follows_120 (by first | exact nI_bI1 (by rw [fw_gone hs (by first | exact Or.inl h27 | exact Or.inr h33), h102]; rfl) | exact nI_bI1 (by rw [fw_gone hs (by first | exact Or.inl h27 | exact Or.inr h33), h107, Bool.or_true]; rfl) | exact nI_bI1 (by rw [fw_gone hs (by first | exact Or.inl h27 | exact Or.inr h33), h112, Bool.or_true]) | exact nI_bI0 (by rw [fw_gone hs (by first | exact Or.inl h27 | exact Or.inr h33), h102, h107, h112]; rfl)) (fm_0 hA (fl_gone hs (by first | exact Or.inl h27 | exact Or.inr h33)).2)
                        · refine j_iload C dX7_follows_110 rfl ?_
                          refine q_if_eq0 C 119 dX7_follows_112 (by decide) (fun h112 => ?_) (fun h112 => ?_)
                          · refine j_iconst C (v := nI 0) dX7_follows_119 rfl ?_
                            exact q_zretS C CM rfl (by decide) (by decide) dX7_follows_120 (by first | exact nI_bI1 (by rw [fw_gone hs (by first | exact Or.inl h27 | exact Or.inr h33), h102]; rfl) | exact nI_bI1 (by rw [fw_gone hs (by first | exact Or.inl h27 | exact Or.inr h33), h107, Bool.or_true]; rfl) | exact nI_bI1 (by rw [fw_gone hs (by first | exact Or.inl h27 | exact Or.inr h33), h112, Bool.or_true]) | exact nI_bI0 (by rw [fw_gone hs (by first | exact Or.inl h27 | exact Or.inr h33), h102, h107, h112]; rfl)) (fm_0 hA (fl_gone hs (by first | exact Or.inl h27 | exact Or.inr h33)).2)
                          · refine j_iconst C (v := nI 1) dX7_follows_115 rfl ?_
                            refine j_goto C 120 dX7_follows_116 ?_ (by decide)
                            exact q_zretS C CM rfl (by decide) (by decide) dX7_follows_120 (by first | exact nI_bI1 (by rw [fw_gone hs (by first | exact Or.inl h27 | exact Or.inr h33), h102]; rfl) | exact nI_bI1 (by rw [fw_gone hs (by first | exact Or.inl h27 | exact Or.inr h33), h107, Bool.or_true]; rfl) | exact nI_bI1 (by rw [fw_gone hs (by first | exact Or.inl h27 | exact Or.inr h33), h112, Bool.or_true]) | exact nI_bI0 (by rw [fw_gone hs (by first | exact Or.inl h27 | exact Or.inr h33), h102, h107, h112]; rfl)) (fm_0 hA (fl_gone hs (by first | exact Or.inl h27 | exact Or.inr h33)).2)
                    exact q_st (K98) (by first | exact nI_bI1 (by rw [decide_eq_true ((oI_eq (b := some p) (fun w hw => Nat.lt_trans (mv_some hw hp).1 (by decide)) (fun w hw => by cases hw; omega)).mp h79), decide_eq_true ((oI_eq (nI_lt8 hv hp) (nI_lt8 ht hp)).mp h90)]; rfl) | exact nI_bI0 (by rw [decide_eq_false (p := v p = t p) (fun e => h90 ((oI_eq (nI_lt8 hv hp) (nI_lt8 ht hp)).mpr e)), Bool.and_false]) | exact nI_bI0 (by rw [decide_eq_false (p := (moO t v p) = some p) (fun e => h79 ((oI_eq (b := some p) (fun w hw => Nat.lt_trans (mv_some hw hp).1 (by decide)) (fun w hw => by cases hw; omega)).mpr e))]; rfl)) (gLe_c rfl (gLe_c rfl (gLe_c rfl (gLe_c rfl (gLe_c rfl (gLe_c rfl (gLe_c rfl (gLe_c rfl (gLe_c rfl (gLe_n (gLe_n (gLe_n gLe_0))))))))))))
              exact q_st (K73) (by first | exact nI_bI1 (by rw [decide_eq_true ((oI_eq (b := some p) (fun w hw => Nat.lt_trans (mv_some hw hp).1 (by decide)) (fun w hw => by cases hw; omega)).mp h54), decide_eq_true ((oI_eq (nI_lt8 hu hp) (nI_lt8 ht hp)).mp h65)]; rfl) | exact nI_bI0 (by rw [decide_eq_false (p := u p = t p) (fun e => h65 ((oI_eq (nI_lt8 hu hp) (nI_lt8 ht hp)).mpr e)), Bool.and_false]) | exact nI_bI0 (by rw [decide_eq_false (p := (moO t u p) = some p) (fun e => h54 ((oI_eq (b := some p) (fun w hw => Nat.lt_trans (mv_some hw hp).1 (by decide)) (fun w hw => by cases hw; omega)).mpr e))]; rfl)) (gLe_c rfl (gLe_c rfl (gLe_c rfl (gLe_c rfl (gLe_c rfl (gLe_c rfl (gLe_c rfl (gLe_c rfl (gLe_n (gLe_n (gLe_n (gLe_n gLe_0))))))))))))
            · refine j_iconst C (v := nI 1) dX7_follows_68 rfl ?_
              refine j_goto C 73 dX7_follows_69 ?_ (by decide)
              have K73 : Q G X 0 0 73 [some (.ref (gb G + 156)), some (.ref (gb G + a)), some (.ref (gb G + b)), some (.ref (gb G + c)), some (.int (nI p)), some (.int (oI (moO t u p))), some (.int (oI (moO t v p))), some (.int (bI (decide ((moO t u p) = (moO t v p))))), none, none, none, none] [.int (bI ((decide ((moO t u p) = some p) && decide (u p = t p))))] M := by
                skip
                refine j_istore C dX7_follows_73 (by decide) rfl ?_
                refine j_iload C dX7_follows_75 rfl ?_
                refine j_iload C dX7_follows_77 rfl ?_
                refine j_icmp_ne C 97 dX7_follows_79 (fun h79 => ?_) (fun h79 => ?_) (by decide)
                · refine j_iconst C (v := nI 0) dX7_follows_97 rfl ?_
                  have K98 : Q G X 0 0 98 [some (.ref (gb G + 156)), some (.ref (gb G + a)), some (.ref (gb G + b)), some (.ref (gb G + c)), some (.int (nI p)), some (.int (oI (moO t u p))), some (.int (oI (moO t v p))), some (.int (bI (decide ((moO t u p) = (moO t v p))))), some (.int (bI (decide ((moO t u p) = some p) && decide (u p = t p)))), none, none, none] [.int (bI ((decide ((moO t v p) = some p) && decide (v p = t p))))] M := by
                    skip
                    refine j_istore C dX7_follows_98 (by decide) rfl ?_
                    refine j_iload C dX7_follows_100 rfl ?_
                    refine q_if_ne0 C 115 dX7_follows_102 (by decide) (fun h102 => ?_) (fun h102 => ?_)
                    · refine j_iconst C (v := nI 1) dX7_follows_115 rfl ?_
                      refine j_goto C 120 dX7_follows_116 ?_ (by decide)
                      exact q_zretS C CM rfl (by decide) (by decide) dX7_follows_120 (by first | exact nI_bI1 (by rw [fw_gone hs (by first | exact Or.inl h27 | exact Or.inr h33), h102]; rfl) | exact nI_bI1 (by rw [fw_gone hs (by first | exact Or.inl h27 | exact Or.inr h33), h107, Bool.or_true]; rfl) | exact nI_bI1 (by rw [fw_gone hs (by first | exact Or.inl h27 | exact Or.inr h33), h112, Bool.or_true]) | exact nI_bI0 (by rw [fw_gone hs (by first | exact Or.inl h27 | exact Or.inr h33), h102, h107, h112]; rfl)) (fm_0 hA (fl_gone hs (by first | exact Or.inl h27 | exact Or.inr h33)).2)
                    · refine j_iload C dX7_follows_105 rfl ?_
                      refine q_if_ne0 C 115 dX7_follows_107 (by decide) (fun h107 => ?_) (fun h107 => ?_)
                      · refine j_iconst C (v := nI 1) dX7_follows_115 rfl ?_
                        refine j_goto C 120 dX7_follows_116 ?_ (by decide)
                        exact q_zretS C CM rfl (by decide) (by decide) dX7_follows_120 (by first | exact nI_bI1 (by rw [fw_gone hs (by first | exact Or.inl h27 | exact Or.inr h33), h102]; rfl) | exact nI_bI1 (by rw [fw_gone hs (by first | exact Or.inl h27 | exact Or.inr h33), h107, Bool.or_true]; rfl) | exact nI_bI1 (by rw [fw_gone hs (by first | exact Or.inl h27 | exact Or.inr h33), h112, Bool.or_true]) | exact nI_bI0 (by rw [fw_gone hs (by first | exact Or.inl h27 | exact Or.inr h33), h102, h107, h112]; rfl)) (fm_0 hA (fl_gone hs (by first | exact Or.inl h27 | exact Or.inr h33)).2)
                      · refine j_iload C dX7_follows_110 rfl ?_
                        refine q_if_eq0 C 119 dX7_follows_112 (by decide) (fun h112 => ?_) (fun h112 => ?_)
                        · refine j_iconst C (v := nI 0) dX7_follows_119 rfl ?_
                          exact q_zretS C CM rfl (by decide) (by decide) dX7_follows_120 (by first | exact nI_bI1 (by rw [fw_gone hs (by first | exact Or.inl h27 | exact Or.inr h33), h102]; rfl) | exact nI_bI1 (by rw [fw_gone hs (by first | exact Or.inl h27 | exact Or.inr h33), h107, Bool.or_true]; rfl) | exact nI_bI1 (by rw [fw_gone hs (by first | exact Or.inl h27 | exact Or.inr h33), h112, Bool.or_true]) | exact nI_bI0 (by rw [fw_gone hs (by first | exact Or.inl h27 | exact Or.inr h33), h102, h107, h112]; rfl)) (fm_0 hA (fl_gone hs (by first | exact Or.inl h27 | exact Or.inr h33)).2)
                        · refine j_iconst C (v := nI 1) dX7_follows_115 rfl ?_
                          refine j_goto C 120 dX7_follows_116 ?_ (by decide)
                          exact q_zretS C CM rfl (by decide) (by decide) dX7_follows_120 (by first | exact nI_bI1 (by rw [fw_gone hs (by first | exact Or.inl h27 | exact Or.inr h33), h102]; rfl) | exact nI_bI1 (by rw [fw_gone hs (by first | exact Or.inl h27 | exact Or.inr h33), h107, Bool.or_true]; rfl) | exact nI_bI1 (by rw [fw_gone hs (by first | exact Or.inl h27 | exact Or.inr h33), h112, Bool.or_true]) | exact nI_bI0 (by rw [fw_gone hs (by first | exact Or.inl h27 | exact Or.inr h33), h102, h107, h112]; rfl)) (fm_0 hA (fl_gone hs (by first | exact Or.inl h27 | exact Or.inr h33)).2)
                  exact q_st (K98) (by first | exact nI_bI1 (by rw [decide_eq_true ((oI_eq (b := some p) (fun w hw => Nat.lt_trans (mv_some hw hp).1 (by decide)) (fun w hw => by cases hw; omega)).mp h79), decide_eq_true ((oI_eq (nI_lt8 hv hp) (nI_lt8 ht hp)).mp h90)]; rfl) | exact nI_bI0 (by rw [decide_eq_false (p := v p = t p) (fun e => h90 ((oI_eq (nI_lt8 hv hp) (nI_lt8 ht hp)).mpr e)), Bool.and_false]) | exact nI_bI0 (by rw [decide_eq_false (p := (moO t v p) = some p) (fun e => h79 ((oI_eq (b := some p) (fun w hw => Nat.lt_trans (mv_some hw hp).1 (by decide)) (fun w hw => by cases hw; omega)).mpr e))]; rfl)) (gLe_c rfl (gLe_c rfl (gLe_c rfl (gLe_c rfl (gLe_c rfl (gLe_c rfl (gLe_c rfl (gLe_c rfl (gLe_c rfl (gLe_n (gLe_n (gLe_n gLe_0))))))))))))
                · refine j_aload_n C dX7_follows_82 rfl ?_
                  refine j_iload C dX7_follows_83 rfl ?_
                  refine q_iald C hc.1 hc.2 (by decide) (by omega) dX7_follows_85 ?_
                  rw [hsv p hp]
                  refine j_aload_n C dX7_follows_86 rfl ?_
                  refine j_iload C dX7_follows_87 rfl ?_
                  refine q_iald C ha.1 ha.2 (by decide) (by omega) dX7_follows_89 ?_
                  rw [hr p hp]
                  refine j_icmp_ne C 97 dX7_follows_90 (fun h90 => ?_) (fun h90 => ?_) (by decide)
                  · refine j_iconst C (v := nI 0) dX7_follows_97 rfl ?_
                    have K98 : Q G X 0 0 98 [some (.ref (gb G + 156)), some (.ref (gb G + a)), some (.ref (gb G + b)), some (.ref (gb G + c)), some (.int (nI p)), some (.int (oI (moO t u p))), some (.int (oI (moO t v p))), some (.int (bI (decide ((moO t u p) = (moO t v p))))), some (.int (bI (decide ((moO t u p) = some p) && decide (u p = t p)))), none, none, none] [.int (bI ((decide ((moO t v p) = some p) && decide (v p = t p))))] M := by
                      skip
                      refine j_istore C dX7_follows_98 (by decide) rfl ?_
                      refine j_iload C dX7_follows_100 rfl ?_
                      refine q_if_ne0 C 115 dX7_follows_102 (by decide) (fun h102 => ?_) (fun h102 => ?_)
                      · refine j_iconst C (v := nI 1) dX7_follows_115 rfl ?_
                        refine j_goto C 120 dX7_follows_116 ?_ (by decide)
                        exact q_zretS C CM rfl (by decide) (by decide) dX7_follows_120 (by first | exact nI_bI1 (by rw [fw_gone hs (by first | exact Or.inl h27 | exact Or.inr h33), h102]; rfl) | exact nI_bI1 (by rw [fw_gone hs (by first | exact Or.inl h27 | exact Or.inr h33), h107, Bool.or_true]; rfl) | exact nI_bI1 (by rw [fw_gone hs (by first | exact Or.inl h27 | exact Or.inr h33), h112, Bool.or_true]) | exact nI_bI0 (by rw [fw_gone hs (by first | exact Or.inl h27 | exact Or.inr h33), h102, h107, h112]; rfl)) (fm_0 hA (fl_gone hs (by first | exact Or.inl h27 | exact Or.inr h33)).2)
                      · refine j_iload C dX7_follows_105 rfl ?_
                        refine q_if_ne0 C 115 dX7_follows_107 (by decide) (fun h107 => ?_) (fun h107 => ?_)
                        · refine j_iconst C (v := nI 1) dX7_follows_115 rfl ?_
                          refine j_goto C 120 dX7_follows_116 ?_ (by decide)
                          exact q_zretS C CM rfl (by decide) (by decide) dX7_follows_120 (by first | exact nI_bI1 (by rw [fw_gone hs (by first | exact Or.inl h27 | exact Or.inr h33), h102]; rfl) | exact nI_bI1 (by rw [fw_gone hs (by first | exact Or.inl h27 | exact Or.inr h33), h107, Bool.or_true]; rfl) | exact nI_bI1 (by rw [fw_gone hs (by first | exact Or.inl h27 | exact Or.inr h33), h112, Bool.or_true]) | exact nI_bI0 (by rw [fw_gone hs (by first | exact Or.inl h27 | exact Or.inr h33), h102, h107, h112]; rfl)) (fm_0 hA (fl_gone hs (by first | exact Or.inl h27 | exact Or.inr h33)).2)
                        · refine j_iload C dX7_follows_110 rfl ?_
                          refine q_if_eq0 C 119 dX7_follows_112 (by decide) (fun h112 => ?_) (fun h112 => ?_)
                          · refine j_iconst C (v := nI 0) dX7_follows_119 rfl ?_
                            exact q_zretS C CM rfl (by decide) (by decide) dX7_follows_120 (by first | exact nI_bI1 (by rw [fw_gone hs (by first | exact Or.inl h27 | exact Or.inr h33), h102]; rfl) | exact nI_bI1 (by rw [fw_gone hs (by first | exact Or.inl h27 | exact Or.inr h33), h107, Bool.or_true]; rfl) | exact nI_bI1 (by rw [fw_gone hs (by first | exact Or.inl h27 | exact Or.inr h33), h112, Bool.or_true]) | exact nI_bI0 (by rw [fw_gone hs (by first | exact Or.inl h27 | exact Or.inr h33), h102, h107, h112]; rfl)) (fm_0 hA (fl_gone hs (by first | exact Or.inl h27 | exact Or.inr h33)).2)
                          · refine j_iconst C (v := nI 1) dX7_follows_115 rfl ?_
                            refine j_goto C 120 dX7_follows_116 ?_ (by decide)
                            exact q_zretS C CM rfl (by decide) (by decide) dX7_follows_120 (by first | exact nI_bI1 (by rw [fw_gone hs (by first | exact Or.inl h27 | exact Or.inr h33), h102]; rfl) | exact nI_bI1 (by rw [fw_gone hs (by first | exact Or.inl h27 | exact Or.inr h33), h107, Bool.or_true]; rfl) | exact nI_bI1 (by rw [fw_gone hs (by first | exact Or.inl h27 | exact Or.inr h33), h112, Bool.or_true]) | exact nI_bI0 (by rw [fw_gone hs (by first | exact Or.inl h27 | exact Or.inr h33), h102, h107, h112]; rfl)) (fm_0 hA (fl_gone hs (by first | exact Or.inl h27 | exact Or.inr h33)).2)
                    exact q_st (K98) (by first | exact nI_bI1 (by rw [decide_eq_true ((oI_eq (b := some p) (fun w hw => Nat.lt_trans (mv_some hw hp).1 (by decide)) (fun w hw => by cases hw; omega)).mp h79), decide_eq_true ((oI_eq (nI_lt8 hv hp) (nI_lt8 ht hp)).mp h90)]; rfl) | exact nI_bI0 (by rw [decide_eq_false (p := v p = t p) (fun e => h90 ((oI_eq (nI_lt8 hv hp) (nI_lt8 ht hp)).mpr e)), Bool.and_false]) | exact nI_bI0 (by rw [decide_eq_false (p := (moO t v p) = some p) (fun e => h79 ((oI_eq (b := some p) (fun w hw => Nat.lt_trans (mv_some hw hp).1 (by decide)) (fun w hw => by cases hw; omega)).mpr e))]; rfl)) (gLe_c rfl (gLe_c rfl (gLe_c rfl (gLe_c rfl (gLe_c rfl (gLe_c rfl (gLe_c rfl (gLe_c rfl (gLe_c rfl (gLe_n (gLe_n (gLe_n gLe_0))))))))))))
                  · refine j_iconst C (v := nI 1) dX7_follows_93 rfl ?_
                    refine j_goto C 98 dX7_follows_94 ?_ (by decide)
                    have K98 : Q G X 0 0 98 [some (.ref (gb G + 156)), some (.ref (gb G + a)), some (.ref (gb G + b)), some (.ref (gb G + c)), some (.int (nI p)), some (.int (oI (moO t u p))), some (.int (oI (moO t v p))), some (.int (bI (decide ((moO t u p) = (moO t v p))))), some (.int (bI (decide ((moO t u p) = some p) && decide (u p = t p)))), none, none, none] [.int (bI ((decide ((moO t v p) = some p) && decide (v p = t p))))] M := by
                      skip
                      refine j_istore C dX7_follows_98 (by decide) rfl ?_
                      refine j_iload C dX7_follows_100 rfl ?_
                      refine q_if_ne0 C 115 dX7_follows_102 (by decide) (fun h102 => ?_) (fun h102 => ?_)
                      · refine j_iconst C (v := nI 1) dX7_follows_115 rfl ?_
                        refine j_goto C 120 dX7_follows_116 ?_ (by decide)
                        exact q_zretS C CM rfl (by decide) (by decide) dX7_follows_120 (by first | exact nI_bI1 (by rw [fw_gone hs (by first | exact Or.inl h27 | exact Or.inr h33), h102]; rfl) | exact nI_bI1 (by rw [fw_gone hs (by first | exact Or.inl h27 | exact Or.inr h33), h107, Bool.or_true]; rfl) | exact nI_bI1 (by rw [fw_gone hs (by first | exact Or.inl h27 | exact Or.inr h33), h112, Bool.or_true]) | exact nI_bI0 (by rw [fw_gone hs (by first | exact Or.inl h27 | exact Or.inr h33), h102, h107, h112]; rfl)) (fm_0 hA (fl_gone hs (by first | exact Or.inl h27 | exact Or.inr h33)).2)
                      · refine j_iload C dX7_follows_105 rfl ?_
                        refine q_if_ne0 C 115 dX7_follows_107 (by decide) (fun h107 => ?_) (fun h107 => ?_)
                        · refine j_iconst C (v := nI 1) dX7_follows_115 rfl ?_
                          refine j_goto C 120 dX7_follows_116 ?_ (by decide)
                          exact q_zretS C CM rfl (by decide) (by decide) dX7_follows_120 (by first | exact nI_bI1 (by rw [fw_gone hs (by first | exact Or.inl h27 | exact Or.inr h33), h102]; rfl) | exact nI_bI1 (by rw [fw_gone hs (by first | exact Or.inl h27 | exact Or.inr h33), h107, Bool.or_true]; rfl) | exact nI_bI1 (by rw [fw_gone hs (by first | exact Or.inl h27 | exact Or.inr h33), h112, Bool.or_true]) | exact nI_bI0 (by rw [fw_gone hs (by first | exact Or.inl h27 | exact Or.inr h33), h102, h107, h112]; rfl)) (fm_0 hA (fl_gone hs (by first | exact Or.inl h27 | exact Or.inr h33)).2)
                        · refine j_iload C dX7_follows_110 rfl ?_
                          refine q_if_eq0 C 119 dX7_follows_112 (by decide) (fun h112 => ?_) (fun h112 => ?_)
                          · refine j_iconst C (v := nI 0) dX7_follows_119 rfl ?_
                            exact q_zretS C CM rfl (by decide) (by decide) dX7_follows_120 (by first | exact nI_bI1 (by rw [fw_gone hs (by first | exact Or.inl h27 | exact Or.inr h33), h102]; rfl) | exact nI_bI1 (by rw [fw_gone hs (by first | exact Or.inl h27 | exact Or.inr h33), h107, Bool.or_true]; rfl) | exact nI_bI1 (by rw [fw_gone hs (by first | exact Or.inl h27 | exact Or.inr h33), h112, Bool.or_true]) | exact nI_bI0 (by rw [fw_gone hs (by first | exact Or.inl h27 | exact Or.inr h33), h102, h107, h112]; rfl)) (fm_0 hA (fl_gone hs (by first | exact Or.inl h27 | exact Or.inr h33)).2)
                          · refine j_iconst C (v := nI 1) dX7_follows_115 rfl ?_
                            refine j_goto C 120 dX7_follows_116 ?_ (by decide)
                            exact q_zretS C CM rfl (by decide) (by decide) dX7_follows_120 (by first | exact nI_bI1 (by rw [fw_gone hs (by first | exact Or.inl h27 | exact Or.inr h33), h102]; rfl) | exact nI_bI1 (by rw [fw_gone hs (by first | exact Or.inl h27 | exact Or.inr h33), h107, Bool.or_true]; rfl) | exact nI_bI1 (by rw [fw_gone hs (by first | exact Or.inl h27 | exact Or.inr h33), h112, Bool.or_true]) | exact nI_bI0 (by rw [fw_gone hs (by first | exact Or.inl h27 | exact Or.inr h33), h102, h107, h112]; rfl)) (fm_0 hA (fl_gone hs (by first | exact Or.inl h27 | exact Or.inr h33)).2)
                    exact q_st (K98) (by first | exact nI_bI1 (by rw [decide_eq_true ((oI_eq (b := some p) (fun w hw => Nat.lt_trans (mv_some hw hp).1 (by decide)) (fun w hw => by cases hw; omega)).mp h79), decide_eq_true ((oI_eq (nI_lt8 hv hp) (nI_lt8 ht hp)).mp h90)]; rfl) | exact nI_bI0 (by rw [decide_eq_false (p := v p = t p) (fun e => h90 ((oI_eq (nI_lt8 hv hp) (nI_lt8 ht hp)).mpr e)), Bool.and_false]) | exact nI_bI0 (by rw [decide_eq_false (p := (moO t v p) = some p) (fun e => h79 ((oI_eq (b := some p) (fun w hw => Nat.lt_trans (mv_some hw hp).1 (by decide)) (fun w hw => by cases hw; omega)).mpr e))]; rfl)) (gLe_c rfl (gLe_c rfl (gLe_c rfl (gLe_c rfl (gLe_c rfl (gLe_c rfl (gLe_c rfl (gLe_c rfl (gLe_c rfl (gLe_n (gLe_n (gLe_n gLe_0))))))))))))
              exact q_st (K73) (by first | exact nI_bI1 (by rw [decide_eq_true ((oI_eq (b := some p) (fun w hw => Nat.lt_trans (mv_some hw hp).1 (by decide)) (fun w hw => by cases hw; omega)).mp h54), decide_eq_true ((oI_eq (nI_lt8 hu hp) (nI_lt8 ht hp)).mp h65)]; rfl) | exact nI_bI0 (by rw [decide_eq_false (p := u p = t p) (fun e => h65 ((oI_eq (nI_lt8 hu hp) (nI_lt8 ht hp)).mpr e)), Bool.and_false]) | exact nI_bI0 (by rw [decide_eq_false (p := (moO t u p) = some p) (fun e => h54 ((oI_eq (b := some p) (fun w hw => Nat.lt_trans (mv_some hw hp).1 (by decide)) (fun w hw => by cases hw; omega)).mpr e))]; rfl)) (gLe_c rfl (gLe_c rfl (gLe_c rfl (gLe_c rfl (gLe_c rfl (gLe_c rfl (gLe_c rfl (gLe_c rfl (gLe_n (gLe_n (gLe_n (gLe_n gLe_0))))))))))))
        exact q_st (K48) (by first | exact nI_bI1 (decide_eq_true ((oI_eq (fun w hw => Nat.lt_trans (mv_some hw hp).1 (by decide)) (fun w hw => Nat.lt_trans (mv_some hw hp).1 (by decide))).mp h40)) | exact nI_bI0 (decide_eq_false (fun e => h40 ((oI_eq (fun w hw => Nat.lt_trans (mv_some hw hp).1 (by decide)) (fun w hw => Nat.lt_trans (mv_some hw hp).1 (by decide))).mpr e)))) (gLe_c rfl (gLe_c rfl (gLe_c rfl (gLe_c rfl (gLe_c rfl (gLe_c rfl (gLe_c rfl (gLe_n (gLe_n (gLe_n (gLe_n (gLe_n gLe_0))))))))))))
      · refine j_iconst C (v := nI 1) dX7_follows_43 rfl ?_
        refine j_goto C 48 dX7_follows_44 ?_ (by decide)
        have K48 : Q G X 0 0 48 [some (.ref (gb G + 156)), some (.ref (gb G + a)), some (.ref (gb G + b)), some (.ref (gb G + c)), some (.int (nI p)), some (.int (oI (moO t u p))), some (.int (oI (moO t v p))), none, none, none, none, none] [.int (bI (decide ((moO t u p) = (moO t v p))))] M := by
          skip
          refine j_istore C dX7_follows_48 (by decide) rfl ?_
          refine j_iload C dX7_follows_50 rfl ?_
          refine j_iload C dX7_follows_52 rfl ?_
          refine j_icmp_ne C 72 dX7_follows_54 (fun h54 => ?_) (fun h54 => ?_) (by decide)
          · refine j_iconst C (v := nI 0) dX7_follows_72 rfl ?_
            have K73 : Q G X 0 0 73 [some (.ref (gb G + 156)), some (.ref (gb G + a)), some (.ref (gb G + b)), some (.ref (gb G + c)), some (.int (nI p)), some (.int (oI (moO t u p))), some (.int (oI (moO t v p))), some (.int (bI (decide ((moO t u p) = (moO t v p))))), none, none, none, none] [.int (bI ((decide ((moO t u p) = some p) && decide (u p = t p))))] M := by
              skip
              refine j_istore C dX7_follows_73 (by decide) rfl ?_
              refine j_iload C dX7_follows_75 rfl ?_
              refine j_iload C dX7_follows_77 rfl ?_
              refine j_icmp_ne C 97 dX7_follows_79 (fun h79 => ?_) (fun h79 => ?_) (by decide)
              · refine j_iconst C (v := nI 0) dX7_follows_97 rfl ?_
                have K98 : Q G X 0 0 98 [some (.ref (gb G + 156)), some (.ref (gb G + a)), some (.ref (gb G + b)), some (.ref (gb G + c)), some (.int (nI p)), some (.int (oI (moO t u p))), some (.int (oI (moO t v p))), some (.int (bI (decide ((moO t u p) = (moO t v p))))), some (.int (bI (decide ((moO t u p) = some p) && decide (u p = t p)))), none, none, none] [.int (bI ((decide ((moO t v p) = some p) && decide (v p = t p))))] M := by
                  skip
                  refine j_istore C dX7_follows_98 (by decide) rfl ?_
                  refine j_iload C dX7_follows_100 rfl ?_
                  refine q_if_ne0 C 115 dX7_follows_102 (by decide) (fun h102 => ?_) (fun h102 => ?_)
                  · refine j_iconst C (v := nI 1) dX7_follows_115 rfl ?_
                    refine j_goto C 120 dX7_follows_116 ?_ (by decide)
                    exact q_zretS C CM rfl (by decide) (by decide) dX7_follows_120 (by first | exact nI_bI1 (by rw [fw_gone hs (by first | exact Or.inl h27 | exact Or.inr h33), h102]; rfl) | exact nI_bI1 (by rw [fw_gone hs (by first | exact Or.inl h27 | exact Or.inr h33), h107, Bool.or_true]; rfl) | exact nI_bI1 (by rw [fw_gone hs (by first | exact Or.inl h27 | exact Or.inr h33), h112, Bool.or_true]) | exact nI_bI0 (by rw [fw_gone hs (by first | exact Or.inl h27 | exact Or.inr h33), h102, h107, h112]; rfl)) (fm_0 hA (fl_gone hs (by first | exact Or.inl h27 | exact Or.inr h33)).2)
                  · refine j_iload C dX7_follows_105 rfl ?_
                    refine q_if_ne0 C 115 dX7_follows_107 (by decide) (fun h107 => ?_) (fun h107 => ?_)
                    · refine j_iconst C (v := nI 1) dX7_follows_115 rfl ?_
                      refine j_goto C 120 dX7_follows_116 ?_ (by decide)
                      exact q_zretS C CM rfl (by decide) (by decide) dX7_follows_120 (by first | exact nI_bI1 (by rw [fw_gone hs (by first | exact Or.inl h27 | exact Or.inr h33), h102]; rfl) | exact nI_bI1 (by rw [fw_gone hs (by first | exact Or.inl h27 | exact Or.inr h33), h107, Bool.or_true]; rfl) | exact nI_bI1 (by rw [fw_gone hs (by first | exact Or.inl h27 | exact Or.inr h33), h112, Bool.or_true]) | exact nI_bI0 (by rw [fw_gone hs (by first | exact Or.inl h27 | exact Or.inr h33), h102, h107, h112]; rfl)) (fm_0 hA (fl_gone hs (by first | exact Or.inl h27 | exact Or.inr h33)).2)
                    · refine j_iload C dX7_follows_110 rfl ?_
                      refine q_if_eq0 C 119 dX7_follows_112 (by decide) (fun h112 => ?_) (fun h112 => ?_)
                      · refine j_iconst C (v := nI 0) dX7_follows_119 rfl ?_
                        exact q_zretS C CM rfl (by decide) (by decide) dX7_follows_120 (by first | exact nI_bI1 (by rw [fw_gone hs (by first | exact Or.inl h27 | exact Or.inr h33), h102]; rfl) | exact nI_bI1 (by rw [fw_gone hs (by first | exact Or.inl h27 | exact Or.inr h33), h107, Bool.or_true]; rfl) | exact nI_bI1 (by rw [fw_gone hs (by first | exact Or.inl h27 | exact Or.inr h33), h112, Bool.or_true]) | exact nI_bI0 (by rw [fw_gone hs (by first | exact Or.inl h27 | exact Or.inr h33), h102, h107, h112]; rfl)) (fm_0 hA (fl_gone hs (by first | exact Or.inl h27 | exact Or.inr h33)).2)
                      · refine j_iconst C (v := nI 1) dX7_follows_115 rfl ?_
                        refine j_goto C 120 dX7_follows_116 ?_ (by decide)
                        exact q_zretS C CM rfl (by decide) (by decide) dX7_follows_120 (by first | exact nI_bI1 (by rw [fw_gone hs (by first | exact Or.inl h27 | exact Or.inr h33), h102]; rfl) | exact nI_bI1 (by rw [fw_gone hs (by first | exact Or.inl h27 | exact Or.inr h33), h107, Bool.or_true]; rfl) | exact nI_bI1 (by rw [fw_gone hs (by first | exact Or.inl h27 | exact Or.inr h33), h112, Bool.or_true]) | exact nI_bI0 (by rw [fw_gone hs (by first | exact Or.inl h27 | exact Or.inr h33), h102, h107, h112]; rfl)) (fm_0 hA (fl_gone hs (by first | exact Or.inl h27 | exact Or.inr h33)).2)
                exact q_st (K98) (by first | exact nI_bI1 (by rw [decide_eq_true ((oI_eq (b := some p) (fun w hw => Nat.lt_trans (mv_some hw hp).1 (by decide)) (fun w hw => by cases hw; omega)).mp h79), decide_eq_true ((oI_eq (nI_lt8 hv hp) (nI_lt8 ht hp)).mp h90)]; rfl) | exact nI_bI0 (by rw [decide_eq_false (p := v p = t p) (fun e => h90 ((oI_eq (nI_lt8 hv hp) (nI_lt8 ht hp)).mpr e)), Bool.and_false]) | exact nI_bI0 (by rw [decide_eq_false (p := (moO t v p) = some p) (fun e => h79 ((oI_eq (b := some p) (fun w hw => Nat.lt_trans (mv_some hw hp).1 (by decide)) (fun w hw => by cases hw; omega)).mpr e))]; rfl)) (gLe_c rfl (gLe_c rfl (gLe_c rfl (gLe_c rfl (gLe_c rfl (gLe_c rfl (gLe_c rfl (gLe_c rfl (gLe_c rfl (gLe_n (gLe_n (gLe_n gLe_0))))))))))))
              · refine j_aload_n C dX7_follows_82 rfl ?_
                refine j_iload C dX7_follows_83 rfl ?_
                refine q_iald C hc.1 hc.2 (by decide) (by omega) dX7_follows_85 ?_
                rw [hsv p hp]
                refine j_aload_n C dX7_follows_86 rfl ?_
                refine j_iload C dX7_follows_87 rfl ?_
                refine q_iald C ha.1 ha.2 (by decide) (by omega) dX7_follows_89 ?_
                rw [hr p hp]
                refine j_icmp_ne C 97 dX7_follows_90 (fun h90 => ?_) (fun h90 => ?_) (by decide)
                · refine j_iconst C (v := nI 0) dX7_follows_97 rfl ?_
                  have K98 : Q G X 0 0 98 [some (.ref (gb G + 156)), some (.ref (gb G + a)), some (.ref (gb G + b)), some (.ref (gb G + c)), some (.int (nI p)), some (.int (oI (moO t u p))), some (.int (oI (moO t v p))), some (.int (bI (decide ((moO t u p) = (moO t v p))))), some (.int (bI (decide ((moO t u p) = some p) && decide (u p = t p)))), none, none, none] [.int (bI ((decide ((moO t v p) = some p) && decide (v p = t p))))] M := by
                    skip
                    refine j_istore C dX7_follows_98 (by decide) rfl ?_
                    refine j_iload C dX7_follows_100 rfl ?_
                    refine q_if_ne0 C 115 dX7_follows_102 (by decide) (fun h102 => ?_) (fun h102 => ?_)
                    · refine j_iconst C (v := nI 1) dX7_follows_115 rfl ?_
                      refine j_goto C 120 dX7_follows_116 ?_ (by decide)
                      exact q_zretS C CM rfl (by decide) (by decide) dX7_follows_120 (by first | exact nI_bI1 (by rw [fw_gone hs (by first | exact Or.inl h27 | exact Or.inr h33), h102]; rfl) | exact nI_bI1 (by rw [fw_gone hs (by first | exact Or.inl h27 | exact Or.inr h33), h107, Bool.or_true]; rfl) | exact nI_bI1 (by rw [fw_gone hs (by first | exact Or.inl h27 | exact Or.inr h33), h112, Bool.or_true]) | exact nI_bI0 (by rw [fw_gone hs (by first | exact Or.inl h27 | exact Or.inr h33), h102, h107, h112]; rfl)) (fm_0 hA (fl_gone hs (by first | exact Or.inl h27 | exact Or.inr h33)).2)
                    · refine j_iload C dX7_follows_105 rfl ?_
                      refine q_if_ne0 C 115 dX7_follows_107 (by decide) (fun h107 => ?_) (fun h107 => ?_)
                      · refine j_iconst C (v := nI 1) dX7_follows_115 rfl ?_
                        refine j_goto C 120 dX7_follows_116 ?_ (by decide)
                        exact q_zretS C CM rfl (by decide) (by decide) dX7_follows_120 (by first | exact nI_bI1 (by rw [fw_gone hs (by first | exact Or.inl h27 | exact Or.inr h33), h102]; rfl) | exact nI_bI1 (by rw [fw_gone hs (by first | exact Or.inl h27 | exact Or.inr h33), h107, Bool.or_true]; rfl) | exact nI_bI1 (by rw [fw_gone hs (by first | exact Or.inl h27 | exact Or.inr h33), h112, Bool.or_true]) | exact nI_bI0 (by rw [fw_gone hs (by first | exact Or.inl h27 | exact Or.inr h33), h102, h107, h112]; rfl)) (fm_0 hA (fl_gone hs (by first | exact Or.inl h27 | exact Or.inr h33)).2)
                      · refine j_iload C dX7_follows_110 rfl ?_
                        refine q_if_eq0 C 119 dX7_follows_112 (by decide) (fun h112 => ?_) (fun h112 => ?_)
                        · refine j_iconst C (v := nI 0) dX7_follows_119 rfl ?_
                          exact q_zretS C CM rfl (by decide) (by decide) dX7_follows_120 (by first | exact nI_bI1 (by rw [fw_gone hs (by first | exact Or.inl h27 | exact Or.inr h33), h102]; rfl) | exact nI_bI1 (by rw [fw_gone hs (by first | exact Or.inl h27 | exact Or.inr h33), h107, Bool.or_true]; rfl) | exact nI_bI1 (by rw [fw_gone hs (by first | exact Or.inl h27 | exact Or.inr h33), h112, Bool.or_true]) | exact nI_bI0 (by rw [fw_gone hs (by first | exact Or.inl h27 | exact Or.inr h33), h102, h107, h112]; rfl)) (fm_0 hA (fl_gone hs (by first | exact Or.inl h27 | exact Or.inr h33)).2)
                        · refine j_iconst C (v := nI 1) dX7_follows_115 rfl ?_
                          refine j_goto C 120 dX7_follows_116 ?_ (by decide)
                          exact q_zretS C CM rfl (by decide) (by decide) dX7_follows_120 (by first | exact nI_bI1 (by rw [fw_gone hs (by first | exact Or.inl h27 | exact Or.inr h33), h102]; rfl) | exact nI_bI1 (by rw [fw_gone hs (by first | exact Or.inl h27 | exact Or.inr h33), h107, Bool.or_true]; rfl) | exact nI_bI1 (by rw [fw_gone hs (by first | exact Or.inl h27 | exact Or.inr h33), h112, Bool.or_true]) | exact nI_bI0 (by rw [fw_gone hs (by first | exact Or.inl h27 | exact Or.inr h33), h102, h107, h112]; rfl)) (fm_0 hA (fl_gone hs (by first | exact Or.inl h27 | exact Or.inr h33)).2)
                  exact q_st (K98) (by first | exact nI_bI1 (by rw [decide_eq_true ((oI_eq (b := some p) (fun w hw => Nat.lt_trans (mv_some hw hp).1 (by decide)) (fun w hw => by cases hw; omega)).mp h79), decide_eq_true ((oI_eq (nI_lt8 hv hp) (nI_lt8 ht hp)).mp h90)]; rfl) | exact nI_bI0 (by rw [decide_eq_false (p := v p = t p) (fun e => h90 ((oI_eq (nI_lt8 hv hp) (nI_lt8 ht hp)).mpr e)), Bool.and_false]) | exact nI_bI0 (by rw [decide_eq_false (p := (moO t v p) = some p) (fun e => h79 ((oI_eq (b := some p) (fun w hw => Nat.lt_trans (mv_some hw hp).1 (by decide)) (fun w hw => by cases hw; omega)).mpr e))]; rfl)) (gLe_c rfl (gLe_c rfl (gLe_c rfl (gLe_c rfl (gLe_c rfl (gLe_c rfl (gLe_c rfl (gLe_c rfl (gLe_c rfl (gLe_n (gLe_n (gLe_n gLe_0))))))))))))
                · refine j_iconst C (v := nI 1) dX7_follows_93 rfl ?_
                  refine j_goto C 98 dX7_follows_94 ?_ (by decide)
                  have K98 : Q G X 0 0 98 [some (.ref (gb G + 156)), some (.ref (gb G + a)), some (.ref (gb G + b)), some (.ref (gb G + c)), some (.int (nI p)), some (.int (oI (moO t u p))), some (.int (oI (moO t v p))), some (.int (bI (decide ((moO t u p) = (moO t v p))))), some (.int (bI (decide ((moO t u p) = some p) && decide (u p = t p)))), none, none, none] [.int (bI ((decide ((moO t v p) = some p) && decide (v p = t p))))] M := by
                    skip
                    refine j_istore C dX7_follows_98 (by decide) rfl ?_
                    refine j_iload C dX7_follows_100 rfl ?_
                    refine q_if_ne0 C 115 dX7_follows_102 (by decide) (fun h102 => ?_) (fun h102 => ?_)
                    · refine j_iconst C (v := nI 1) dX7_follows_115 rfl ?_
                      refine j_goto C 120 dX7_follows_116 ?_ (by decide)
                      exact q_zretS C CM rfl (by decide) (by decide) dX7_follows_120 (by first | exact nI_bI1 (by rw [fw_gone hs (by first | exact Or.inl h27 | exact Or.inr h33), h102]; rfl) | exact nI_bI1 (by rw [fw_gone hs (by first | exact Or.inl h27 | exact Or.inr h33), h107, Bool.or_true]; rfl) | exact nI_bI1 (by rw [fw_gone hs (by first | exact Or.inl h27 | exact Or.inr h33), h112, Bool.or_true]) | exact nI_bI0 (by rw [fw_gone hs (by first | exact Or.inl h27 | exact Or.inr h33), h102, h107, h112]; rfl)) (fm_0 hA (fl_gone hs (by first | exact Or.inl h27 | exact Or.inr h33)).2)
                    · refine j_iload C dX7_follows_105 rfl ?_
                      refine q_if_ne0 C 115 dX7_follows_107 (by decide) (fun h107 => ?_) (fun h107 => ?_)
                      · refine j_iconst C (v := nI 1) dX7_follows_115 rfl ?_
                        refine j_goto C 120 dX7_follows_116 ?_ (by decide)
                        exact q_zretS C CM rfl (by decide) (by decide) dX7_follows_120 (by first | exact nI_bI1 (by rw [fw_gone hs (by first | exact Or.inl h27 | exact Or.inr h33), h102]; rfl) | exact nI_bI1 (by rw [fw_gone hs (by first | exact Or.inl h27 | exact Or.inr h33), h107, Bool.or_true]; rfl) | exact nI_bI1 (by rw [fw_gone hs (by first | exact Or.inl h27 | exact Or.inr h33), h112, Bool.or_true]) | exact nI_bI0 (by rw [fw_gone hs (by first | exact Or.inl h27 | exact Or.inr h33), h102, h107, h112]; rfl)) (fm_0 hA (fl_gone hs (by first | exact Or.inl h27 | exact Or.inr h33)).2)
                      · refine j_iload C dX7_follows_110 rfl ?_
                        refine q_if_eq0 C 119 dX7_follows_112 (by decide) (fun h112 => ?_) (fun h112 => ?_)
                        · refine j_iconst C (v := nI 0) dX7_follows_119 rfl ?_
                          exact q_zretS C CM rfl (by decide) (by decide) dX7_follows_120 (by first | exact nI_bI1 (by rw [fw_gone hs (by first | exact Or.inl h27 | exact Or.inr h33), h102]; rfl) | exact nI_bI1 (by rw [fw_gone hs (by first | exact Or.inl h27 | exact Or.inr h33), h107, Bool.or_true]; rfl) | exact nI_bI1 (by rw [fw_gone hs (by first | exact Or.inl h27 | exact Or.inr h33), h112, Bool.or_true]) | exact nI_bI0 (by rw [fw_gone hs (by first | exact Or.inl h27 | exact Or.inr h33), h102, h107, h112]; rfl)) (fm_0 hA (fl_gone hs (by first | exact Or.inl h27 | exact Or.inr h33)).2)
                        · refine j_iconst C (v := nI 1) dX7_follows_115 rfl ?_
                          refine j_goto C 120 dX7_follows_116 ?_ (by decide)
                          exact q_zretS C CM rfl (by decide) (by decide) dX7_follows_120 (by first | exact nI_bI1 (by rw [fw_gone hs (by first | exact Or.inl h27 | exact Or.inr h33), h102]; rfl) | exact nI_bI1 (by rw [fw_gone hs (by first | exact Or.inl h27 | exact Or.inr h33), h107, Bool.or_true]; rfl) | exact nI_bI1 (by rw [fw_gone hs (by first | exact Or.inl h27 | exact Or.inr h33), h112, Bool.or_true]) | exact nI_bI0 (by rw [fw_gone hs (by first | exact Or.inl h27 | exact Or.inr h33), h102, h107, h112]; rfl)) (fm_0 hA (fl_gone hs (by first | exact Or.inl h27 | exact Or.inr h33)).2)
                  exact q_st (K98) (by first | exact nI_bI1 (by rw [decide_eq_true ((oI_eq (b := some p) (fun w hw => Nat.lt_trans (mv_some hw hp).1 (by decide)) (fun w hw => by cases hw; omega)).mp h79), decide_eq_true ((oI_eq (nI_lt8 hv hp) (nI_lt8 ht hp)).mp h90)]; rfl) | exact nI_bI0 (by rw [decide_eq_false (p := v p = t p) (fun e => h90 ((oI_eq (nI_lt8 hv hp) (nI_lt8 ht hp)).mpr e)), Bool.and_false]) | exact nI_bI0 (by rw [decide_eq_false (p := (moO t v p) = some p) (fun e => h79 ((oI_eq (b := some p) (fun w hw => Nat.lt_trans (mv_some hw hp).1 (by decide)) (fun w hw => by cases hw; omega)).mpr e))]; rfl)) (gLe_c rfl (gLe_c rfl (gLe_c rfl (gLe_c rfl (gLe_c rfl (gLe_c rfl (gLe_c rfl (gLe_c rfl (gLe_c rfl (gLe_n (gLe_n (gLe_n gLe_0))))))))))))
            exact q_st (K73) (by first | exact nI_bI1 (by rw [decide_eq_true ((oI_eq (b := some p) (fun w hw => Nat.lt_trans (mv_some hw hp).1 (by decide)) (fun w hw => by cases hw; omega)).mp h54), decide_eq_true ((oI_eq (nI_lt8 hu hp) (nI_lt8 ht hp)).mp h65)]; rfl) | exact nI_bI0 (by rw [decide_eq_false (p := u p = t p) (fun e => h65 ((oI_eq (nI_lt8 hu hp) (nI_lt8 ht hp)).mpr e)), Bool.and_false]) | exact nI_bI0 (by rw [decide_eq_false (p := (moO t u p) = some p) (fun e => h54 ((oI_eq (b := some p) (fun w hw => Nat.lt_trans (mv_some hw hp).1 (by decide)) (fun w hw => by cases hw; omega)).mpr e))]; rfl)) (gLe_c rfl (gLe_c rfl (gLe_c rfl (gLe_c rfl (gLe_c rfl (gLe_c rfl (gLe_c rfl (gLe_c rfl (gLe_n (gLe_n (gLe_n (gLe_n gLe_0))))))))))))
          · refine j_aload_n C dX7_follows_57 rfl ?_
            refine j_iload C dX7_follows_58 rfl ?_
            refine q_iald C hb.1 hb.2 (by decide) (by omega) dX7_follows_60 ?_
            rw [hsu p hp]
            refine j_aload_n C dX7_follows_61 rfl ?_
            refine j_iload C dX7_follows_62 rfl ?_
            refine q_iald C ha.1 ha.2 (by decide) (by omega) dX7_follows_64 ?_
            rw [hr p hp]
            refine j_icmp_ne C 72 dX7_follows_65 (fun h65 => ?_) (fun h65 => ?_) (by decide)
            · refine j_iconst C (v := nI 0) dX7_follows_72 rfl ?_
              have K73 : Q G X 0 0 73 [some (.ref (gb G + 156)), some (.ref (gb G + a)), some (.ref (gb G + b)), some (.ref (gb G + c)), some (.int (nI p)), some (.int (oI (moO t u p))), some (.int (oI (moO t v p))), some (.int (bI (decide ((moO t u p) = (moO t v p))))), none, none, none, none] [.int (bI ((decide ((moO t u p) = some p) && decide (u p = t p))))] M := by
                skip
                refine j_istore C dX7_follows_73 (by decide) rfl ?_
                refine j_iload C dX7_follows_75 rfl ?_
                refine j_iload C dX7_follows_77 rfl ?_
                refine j_icmp_ne C 97 dX7_follows_79 (fun h79 => ?_) (fun h79 => ?_) (by decide)
                · refine j_iconst C (v := nI 0) dX7_follows_97 rfl ?_
                  have K98 : Q G X 0 0 98 [some (.ref (gb G + 156)), some (.ref (gb G + a)), some (.ref (gb G + b)), some (.ref (gb G + c)), some (.int (nI p)), some (.int (oI (moO t u p))), some (.int (oI (moO t v p))), some (.int (bI (decide ((moO t u p) = (moO t v p))))), some (.int (bI (decide ((moO t u p) = some p) && decide (u p = t p)))), none, none, none] [.int (bI ((decide ((moO t v p) = some p) && decide (v p = t p))))] M := by
                    skip
                    refine j_istore C dX7_follows_98 (by decide) rfl ?_
                    refine j_iload C dX7_follows_100 rfl ?_
                    refine q_if_ne0 C 115 dX7_follows_102 (by decide) (fun h102 => ?_) (fun h102 => ?_)
                    · refine j_iconst C (v := nI 1) dX7_follows_115 rfl ?_
                      refine j_goto C 120 dX7_follows_116 ?_ (by decide)
                      exact q_zretS C CM rfl (by decide) (by decide) dX7_follows_120 (by first | exact nI_bI1 (by rw [fw_gone hs (by first | exact Or.inl h27 | exact Or.inr h33), h102]; rfl) | exact nI_bI1 (by rw [fw_gone hs (by first | exact Or.inl h27 | exact Or.inr h33), h107, Bool.or_true]; rfl) | exact nI_bI1 (by rw [fw_gone hs (by first | exact Or.inl h27 | exact Or.inr h33), h112, Bool.or_true]) | exact nI_bI0 (by rw [fw_gone hs (by first | exact Or.inl h27 | exact Or.inr h33), h102, h107, h112]; rfl)) (fm_0 hA (fl_gone hs (by first | exact Or.inl h27 | exact Or.inr h33)).2)
                    · refine j_iload C dX7_follows_105 rfl ?_
                      refine q_if_ne0 C 115 dX7_follows_107 (by decide) (fun h107 => ?_) (fun h107 => ?_)
                      · refine j_iconst C (v := nI 1) dX7_follows_115 rfl ?_
                        refine j_goto C 120 dX7_follows_116 ?_ (by decide)
                        exact q_zretS C CM rfl (by decide) (by decide) dX7_follows_120 (by first | exact nI_bI1 (by rw [fw_gone hs (by first | exact Or.inl h27 | exact Or.inr h33), h102]; rfl) | exact nI_bI1 (by rw [fw_gone hs (by first | exact Or.inl h27 | exact Or.inr h33), h107, Bool.or_true]; rfl) | exact nI_bI1 (by rw [fw_gone hs (by first | exact Or.inl h27 | exact Or.inr h33), h112, Bool.or_true]) | exact nI_bI0 (by rw [fw_gone hs (by first | exact Or.inl h27 | exact Or.inr h33), h102, h107, h112]; rfl)) (fm_0 hA (fl_gone hs (by first | exact Or.inl h27 | exact Or.inr h33)).2)
                      · refine j_iload C dX7_follows_110 rfl ?_
                        refine q_if_eq0 C 119 dX7_follows_112 (by decide) (fun h112 => ?_) (fun h112 => ?_)
                        · refine j_iconst C (v := nI 0) dX7_follows_119 rfl ?_
                          exact q_zretS C CM rfl (by decide) (by decide) dX7_follows_120 (by first | exact nI_bI1 (by rw [fw_gone hs (by first | exact Or.inl h27 | exact Or.inr h33), h102]; rfl) | exact nI_bI1 (by rw [fw_gone hs (by first | exact Or.inl h27 | exact Or.inr h33), h107, Bool.or_true]; rfl) | exact nI_bI1 (by rw [fw_gone hs (by first | exact Or.inl h27 | exact Or.inr h33), h112, Bool.or_true]) | exact nI_bI0 (by rw [fw_gone hs (by first | exact Or.inl h27 | exact Or.inr h33), h102, h107, h112]; rfl)) (fm_0 hA (fl_gone hs (by first | exact Or.inl h27 | exact Or.inr h33)).2)
                        · refine j_iconst C (v := nI 1) dX7_follows_115 rfl ?_
                          refine j_goto C 120 dX7_follows_116 ?_ (by decide)
                          exact q_zretS C CM rfl (by decide) (by decide) dX7_follows_120 (by first | exact nI_bI1 (by rw [fw_gone hs (by first | exact Or.inl h27 | exact Or.inr h33), h102]; rfl) | exact nI_bI1 (by rw [fw_gone hs (by first | exact Or.inl h27 | exact Or.inr h33), h107, Bool.or_true]; rfl) | exact nI_bI1 (by rw [fw_gone hs (by first | exact Or.inl h27 | exact Or.inr h33), h112, Bool.or_true]) | exact nI_bI0 (by rw [fw_gone hs (by first | exact Or.inl h27 | exact Or.inr h33), h102, h107, h112]; rfl)) (fm_0 hA (fl_gone hs (by first | exact Or.inl h27 | exact Or.inr h33)).2)
                  exact q_st (K98) (by first | exact nI_bI1 (by rw [decide_eq_true ((oI_eq (b := some p) (fun w hw => Nat.lt_trans (mv_some hw hp).1 (by decide)) (fun w hw => by cases hw; omega)).mp h79), decide_eq_true ((oI_eq (nI_lt8 hv hp) (nI_lt8 ht hp)).mp h90)]; rfl) | exact nI_bI0 (by rw [decide_eq_false (p := v p = t p) (fun e => h90 ((oI_eq (nI_lt8 hv hp) (nI_lt8 ht hp)).mpr e)), Bool.and_false]) | exact nI_bI0 (by rw [decide_eq_false (p := (moO t v p) = some p) (fun e => h79 ((oI_eq (b := some p) (fun w hw => Nat.lt_trans (mv_some hw hp).1 (by decide)) (fun w hw => by cases hw; omega)).mpr e))]; rfl)) (gLe_c rfl (gLe_c rfl (gLe_c rfl (gLe_c rfl (gLe_c rfl (gLe_c rfl (gLe_c rfl (gLe_c rfl (gLe_c rfl (gLe_n (gLe_n (gLe_n gLe_0))))))))))))
                · refine j_aload_n C dX7_follows_82 rfl ?_
                  refine j_iload C dX7_follows_83 rfl ?_
                  refine q_iald C hc.1 hc.2 (by decide) (by omega) dX7_follows_85 ?_
                  rw [hsv p hp]
                  refine j_aload_n C dX7_follows_86 rfl ?_
                  refine j_iload C dX7_follows_87 rfl ?_
                  refine q_iald C ha.1 ha.2 (by decide) (by omega) dX7_follows_89 ?_
                  rw [hr p hp]
                  refine j_icmp_ne C 97 dX7_follows_90 (fun h90 => ?_) (fun h90 => ?_) (by decide)
                  · refine j_iconst C (v := nI 0) dX7_follows_97 rfl ?_
                    have K98 : Q G X 0 0 98 [some (.ref (gb G + 156)), some (.ref (gb G + a)), some (.ref (gb G + b)), some (.ref (gb G + c)), some (.int (nI p)), some (.int (oI (moO t u p))), some (.int (oI (moO t v p))), some (.int (bI (decide ((moO t u p) = (moO t v p))))), some (.int (bI (decide ((moO t u p) = some p) && decide (u p = t p)))), none, none, none] [.int (bI ((decide ((moO t v p) = some p) && decide (v p = t p))))] M := by
                      skip
                      refine j_istore C dX7_follows_98 (by decide) rfl ?_
                      refine j_iload C dX7_follows_100 rfl ?_
                      refine q_if_ne0 C 115 dX7_follows_102 (by decide) (fun h102 => ?_) (fun h102 => ?_)
                      · refine j_iconst C (v := nI 1) dX7_follows_115 rfl ?_
                        refine j_goto C 120 dX7_follows_116 ?_ (by decide)
                        exact q_zretS C CM rfl (by decide) (by decide) dX7_follows_120 (by first | exact nI_bI1 (by rw [fw_gone hs (by first | exact Or.inl h27 | exact Or.inr h33), h102]; rfl) | exact nI_bI1 (by rw [fw_gone hs (by first | exact Or.inl h27 | exact Or.inr h33), h107, Bool.or_true]; rfl) | exact nI_bI1 (by rw [fw_gone hs (by first | exact Or.inl h27 | exact Or.inr h33), h112, Bool.or_true]) | exact nI_bI0 (by rw [fw_gone hs (by first | exact Or.inl h27 | exact Or.inr h33), h102, h107, h112]; rfl)) (fm_0 hA (fl_gone hs (by first | exact Or.inl h27 | exact Or.inr h33)).2)
                      · refine j_iload C dX7_follows_105 rfl ?_
                        refine q_if_ne0 C 115 dX7_follows_107 (by decide) (fun h107 => ?_) (fun h107 => ?_)
                        · refine j_iconst C (v := nI 1) dX7_follows_115 rfl ?_
                          refine j_goto C 120 dX7_follows_116 ?_ (by decide)
                          exact q_zretS C CM rfl (by decide) (by decide) dX7_follows_120 (by first | exact nI_bI1 (by rw [fw_gone hs (by first | exact Or.inl h27 | exact Or.inr h33), h102]; rfl) | exact nI_bI1 (by rw [fw_gone hs (by first | exact Or.inl h27 | exact Or.inr h33), h107, Bool.or_true]; rfl) | exact nI_bI1 (by rw [fw_gone hs (by first | exact Or.inl h27 | exact Or.inr h33), h112, Bool.or_true]) | exact nI_bI0 (by rw [fw_gone hs (by first | exact Or.inl h27 | exact Or.inr h33), h102, h107, h112]; rfl)) (fm_0 hA (fl_gone hs (by first | exact Or.inl h27 | exact Or.inr h33)).2)
                        · refine j_iload C dX7_follows_110 rfl ?_
                          refine q_if_eq0 C 119 dX7_follows_112 (by decide) (fun h112 => ?_) (fun h112 => ?_)
                          · refine j_iconst C (v := nI 0) dX7_follows_119 rfl ?_
                            exact q_zretS C CM rfl (by decide) (by decide) dX7_follows_120 (by first | exact nI_bI1 (by rw [fw_gone hs (by first | exact Or.inl h27 | exact Or.inr h33), h102]; rfl) | exact nI_bI1 (by rw [fw_gone hs (by first | exact Or.inl h27 | exact Or.inr h33), h107, Bool.or_true]; rfl) | exact nI_bI1 (by rw [fw_gone hs (by first | exact Or.inl h27 | exact Or.inr h33), h112, Bool.or_true]) | exact nI_bI0 (by rw [fw_gone hs (by first | exact Or.inl h27 | exact Or.inr h33), h102, h107, h112]; rfl)) (fm_0 hA (fl_gone hs (by first | exact Or.inl h27 | exact Or.inr h33)).2)
                          · refine j_iconst C (v := nI 1) dX7_follows_115 rfl ?_
                            refine j_goto C 120 dX7_follows_116 ?_ (by decide)
                            exact q_zretS C CM rfl (by decide) (by decide) dX7_follows_120 (by first | exact nI_bI1 (by rw [fw_gone hs (by first | exact Or.inl h27 | exact Or.inr h33), h102]; rfl) | exact nI_bI1 (by rw [fw_gone hs (by first | exact Or.inl h27 | exact Or.inr h33), h107, Bool.or_true]; rfl) | exact nI_bI1 (by rw [fw_gone hs (by first | exact Or.inl h27 | exact Or.inr h33), h112, Bool.or_true]) | exact nI_bI0 (by rw [fw_gone hs (by first | exact Or.inl h27 | exact Or.inr h33), h102, h107, h112]; rfl)) (fm_0 hA (fl_gone hs (by first | exact Or.inl h27 | exact Or.inr h33)).2)
                    exact q_st (K98) (by first | exact nI_bI1 (by rw [decide_eq_true ((oI_eq (b := some p) (fun w hw => Nat.lt_trans (mv_some hw hp).1 (by decide)) (fun w hw => by cases hw; omega)).mp h79), decide_eq_true ((oI_eq (nI_lt8 hv hp) (nI_lt8 ht hp)).mp h90)]; rfl) | exact nI_bI0 (by rw [decide_eq_false (p := v p = t p) (fun e => h90 ((oI_eq (nI_lt8 hv hp) (nI_lt8 ht hp)).mpr e)), Bool.and_false]) | exact nI_bI0 (by rw [decide_eq_false (p := (moO t v p) = some p) (fun e => h79 ((oI_eq (b := some p) (fun w hw => Nat.lt_trans (mv_some hw hp).1 (by decide)) (fun w hw => by cases hw; omega)).mpr e))]; rfl)) (gLe_c rfl (gLe_c rfl (gLe_c rfl (gLe_c rfl (gLe_c rfl (gLe_c rfl (gLe_c rfl (gLe_c rfl (gLe_c rfl (gLe_n (gLe_n (gLe_n gLe_0))))))))))))
                  · refine j_iconst C (v := nI 1) dX7_follows_93 rfl ?_
                    refine j_goto C 98 dX7_follows_94 ?_ (by decide)
                    have K98 : Q G X 0 0 98 [some (.ref (gb G + 156)), some (.ref (gb G + a)), some (.ref (gb G + b)), some (.ref (gb G + c)), some (.int (nI p)), some (.int (oI (moO t u p))), some (.int (oI (moO t v p))), some (.int (bI (decide ((moO t u p) = (moO t v p))))), some (.int (bI (decide ((moO t u p) = some p) && decide (u p = t p)))), none, none, none] [.int (bI ((decide ((moO t v p) = some p) && decide (v p = t p))))] M := by
                      skip
                      refine j_istore C dX7_follows_98 (by decide) rfl ?_
                      refine j_iload C dX7_follows_100 rfl ?_
                      refine q_if_ne0 C 115 dX7_follows_102 (by decide) (fun h102 => ?_) (fun h102 => ?_)
                      · refine j_iconst C (v := nI 1) dX7_follows_115 rfl ?_
                        refine j_goto C 120 dX7_follows_116 ?_ (by decide)
                        exact q_zretS C CM rfl (by decide) (by decide) dX7_follows_120 (by first | exact nI_bI1 (by rw [fw_gone hs (by first | exact Or.inl h27 | exact Or.inr h33), h102]; rfl) | exact nI_bI1 (by rw [fw_gone hs (by first | exact Or.inl h27 | exact Or.inr h33), h107, Bool.or_true]; rfl) | exact nI_bI1 (by rw [fw_gone hs (by first | exact Or.inl h27 | exact Or.inr h33), h112, Bool.or_true]) | exact nI_bI0 (by rw [fw_gone hs (by first | exact Or.inl h27 | exact Or.inr h33), h102, h107, h112]; rfl)) (fm_0 hA (fl_gone hs (by first | exact Or.inl h27 | exact Or.inr h33)).2)
                      · refine j_iload C dX7_follows_105 rfl ?_
                        refine q_if_ne0 C 115 dX7_follows_107 (by decide) (fun h107 => ?_) (fun h107 => ?_)
                        · refine j_iconst C (v := nI 1) dX7_follows_115 rfl ?_
                          refine j_goto C 120 dX7_follows_116 ?_ (by decide)
                          exact q_zretS C CM rfl (by decide) (by decide) dX7_follows_120 (by first | exact nI_bI1 (by rw [fw_gone hs (by first | exact Or.inl h27 | exact Or.inr h33), h102]; rfl) | exact nI_bI1 (by rw [fw_gone hs (by first | exact Or.inl h27 | exact Or.inr h33), h107, Bool.or_true]; rfl) | exact nI_bI1 (by rw [fw_gone hs (by first | exact Or.inl h27 | exact Or.inr h33), h112, Bool.or_true]) | exact nI_bI0 (by rw [fw_gone hs (by first | exact Or.inl h27 | exact Or.inr h33), h102, h107, h112]; rfl)) (fm_0 hA (fl_gone hs (by first | exact Or.inl h27 | exact Or.inr h33)).2)
                        · refine j_iload C dX7_follows_110 rfl ?_
                          refine q_if_eq0 C 119 dX7_follows_112 (by decide) (fun h112 => ?_) (fun h112 => ?_)
                          · refine j_iconst C (v := nI 0) dX7_follows_119 rfl ?_
                            exact q_zretS C CM rfl (by decide) (by decide) dX7_follows_120 (by first | exact nI_bI1 (by rw [fw_gone hs (by first | exact Or.inl h27 | exact Or.inr h33), h102]; rfl) | exact nI_bI1 (by rw [fw_gone hs (by first | exact Or.inl h27 | exact Or.inr h33), h107, Bool.or_true]; rfl) | exact nI_bI1 (by rw [fw_gone hs (by first | exact Or.inl h27 | exact Or.inr h33), h112, Bool.or_true]) | exact nI_bI0 (by rw [fw_gone hs (by first | exact Or.inl h27 | exact Or.inr h33), h102, h107, h112]; rfl)) (fm_0 hA (fl_gone hs (by first | exact Or.inl h27 | exact Or.inr h33)).2)
                          · refine j_iconst C (v := nI 1) dX7_follows_115 rfl ?_
                            refine j_goto C 120 dX7_follows_116 ?_ (by decide)
                            exact q_zretS C CM rfl (by decide) (by decide) dX7_follows_120 (by first | exact nI_bI1 (by rw [fw_gone hs (by first | exact Or.inl h27 | exact Or.inr h33), h102]; rfl) | exact nI_bI1 (by rw [fw_gone hs (by first | exact Or.inl h27 | exact Or.inr h33), h107, Bool.or_true]; rfl) | exact nI_bI1 (by rw [fw_gone hs (by first | exact Or.inl h27 | exact Or.inr h33), h112, Bool.or_true]) | exact nI_bI0 (by rw [fw_gone hs (by first | exact Or.inl h27 | exact Or.inr h33), h102, h107, h112]; rfl)) (fm_0 hA (fl_gone hs (by first | exact Or.inl h27 | exact Or.inr h33)).2)
                    exact q_st (K98) (by first | exact nI_bI1 (by rw [decide_eq_true ((oI_eq (b := some p) (fun w hw => Nat.lt_trans (mv_some hw hp).1 (by decide)) (fun w hw => by cases hw; omega)).mp h79), decide_eq_true ((oI_eq (nI_lt8 hv hp) (nI_lt8 ht hp)).mp h90)]; rfl) | exact nI_bI0 (by rw [decide_eq_false (p := v p = t p) (fun e => h90 ((oI_eq (nI_lt8 hv hp) (nI_lt8 ht hp)).mpr e)), Bool.and_false]) | exact nI_bI0 (by rw [decide_eq_false (p := (moO t v p) = some p) (fun e => h79 ((oI_eq (b := some p) (fun w hw => Nat.lt_trans (mv_some hw hp).1 (by decide)) (fun w hw => by cases hw; omega)).mpr e))]; rfl)) (gLe_c rfl (gLe_c rfl (gLe_c rfl (gLe_c rfl (gLe_c rfl (gLe_c rfl (gLe_c rfl (gLe_c rfl (gLe_c rfl (gLe_n (gLe_n (gLe_n gLe_0))))))))))))
              exact q_st (K73) (by first | exact nI_bI1 (by rw [decide_eq_true ((oI_eq (b := some p) (fun w hw => Nat.lt_trans (mv_some hw hp).1 (by decide)) (fun w hw => by cases hw; omega)).mp h54), decide_eq_true ((oI_eq (nI_lt8 hu hp) (nI_lt8 ht hp)).mp h65)]; rfl) | exact nI_bI0 (by rw [decide_eq_false (p := u p = t p) (fun e => h65 ((oI_eq (nI_lt8 hu hp) (nI_lt8 ht hp)).mpr e)), Bool.and_false]) | exact nI_bI0 (by rw [decide_eq_false (p := (moO t u p) = some p) (fun e => h54 ((oI_eq (b := some p) (fun w hw => Nat.lt_trans (mv_some hw hp).1 (by decide)) (fun w hw => by cases hw; omega)).mpr e))]; rfl)) (gLe_c rfl (gLe_c rfl (gLe_c rfl (gLe_c rfl (gLe_c rfl (gLe_c rfl (gLe_c rfl (gLe_c rfl (gLe_n (gLe_n (gLe_n (gLe_n gLe_0))))))))))))
            · refine j_iconst C (v := nI 1) dX7_follows_68 rfl ?_
              refine j_goto C 73 dX7_follows_69 ?_ (by decide)
              have K73 : Q G X 0 0 73 [some (.ref (gb G + 156)), some (.ref (gb G + a)), some (.ref (gb G + b)), some (.ref (gb G + c)), some (.int (nI p)), some (.int (oI (moO t u p))), some (.int (oI (moO t v p))), some (.int (bI (decide ((moO t u p) = (moO t v p))))), none, none, none, none] [.int (bI ((decide ((moO t u p) = some p) && decide (u p = t p))))] M := by
                skip
                refine j_istore C dX7_follows_73 (by decide) rfl ?_
                refine j_iload C dX7_follows_75 rfl ?_
                refine j_iload C dX7_follows_77 rfl ?_
                refine j_icmp_ne C 97 dX7_follows_79 (fun h79 => ?_) (fun h79 => ?_) (by decide)
                · refine j_iconst C (v := nI 0) dX7_follows_97 rfl ?_
                  have K98 : Q G X 0 0 98 [some (.ref (gb G + 156)), some (.ref (gb G + a)), some (.ref (gb G + b)), some (.ref (gb G + c)), some (.int (nI p)), some (.int (oI (moO t u p))), some (.int (oI (moO t v p))), some (.int (bI (decide ((moO t u p) = (moO t v p))))), some (.int (bI (decide ((moO t u p) = some p) && decide (u p = t p)))), none, none, none] [.int (bI ((decide ((moO t v p) = some p) && decide (v p = t p))))] M := by
                    skip
                    refine j_istore C dX7_follows_98 (by decide) rfl ?_
                    refine j_iload C dX7_follows_100 rfl ?_
                    refine q_if_ne0 C 115 dX7_follows_102 (by decide) (fun h102 => ?_) (fun h102 => ?_)
                    · refine j_iconst C (v := nI 1) dX7_follows_115 rfl ?_
                      refine j_goto C 120 dX7_follows_116 ?_ (by decide)
                      exact q_zretS C CM rfl (by decide) (by decide) dX7_follows_120 (by first | exact nI_bI1 (by rw [fw_gone hs (by first | exact Or.inl h27 | exact Or.inr h33), h102]; rfl) | exact nI_bI1 (by rw [fw_gone hs (by first | exact Or.inl h27 | exact Or.inr h33), h107, Bool.or_true]; rfl) | exact nI_bI1 (by rw [fw_gone hs (by first | exact Or.inl h27 | exact Or.inr h33), h112, Bool.or_true]) | exact nI_bI0 (by rw [fw_gone hs (by first | exact Or.inl h27 | exact Or.inr h33), h102, h107, h112]; rfl)) (fm_0 hA (fl_gone hs (by first | exact Or.inl h27 | exact Or.inr h33)).2)
                    · refine j_iload C dX7_follows_105 rfl ?_
                      refine q_if_ne0 C 115 dX7_follows_107 (by decide) (fun h107 => ?_) (fun h107 => ?_)
                      · refine j_iconst C (v := nI 1) dX7_follows_115 rfl ?_
                        refine j_goto C 120 dX7_follows_116 ?_ (by decide)
                        exact q_zretS C CM rfl (by decide) (by decide) dX7_follows_120 (by first | exact nI_bI1 (by rw [fw_gone hs (by first | exact Or.inl h27 | exact Or.inr h33), h102]; rfl) | exact nI_bI1 (by rw [fw_gone hs (by first | exact Or.inl h27 | exact Or.inr h33), h107, Bool.or_true]; rfl) | exact nI_bI1 (by rw [fw_gone hs (by first | exact Or.inl h27 | exact Or.inr h33), h112, Bool.or_true]) | exact nI_bI0 (by rw [fw_gone hs (by first | exact Or.inl h27 | exact Or.inr h33), h102, h107, h112]; rfl)) (fm_0 hA (fl_gone hs (by first | exact Or.inl h27 | exact Or.inr h33)).2)
                      · refine j_iload C dX7_follows_110 rfl ?_
                        refine q_if_eq0 C 119 dX7_follows_112 (by decide) (fun h112 => ?_) (fun h112 => ?_)
                        · refine j_iconst C (v := nI 0) dX7_follows_119 rfl ?_
                          exact q_zretS C CM rfl (by decide) (by decide) dX7_follows_120 (by first | exact nI_bI1 (by rw [fw_gone hs (by first | exact Or.inl h27 | exact Or.inr h33), h102]; rfl) | exact nI_bI1 (by rw [fw_gone hs (by first | exact Or.inl h27 | exact Or.inr h33), h107, Bool.or_true]; rfl) | exact nI_bI1 (by rw [fw_gone hs (by first | exact Or.inl h27 | exact Or.inr h33), h112, Bool.or_true]) | exact nI_bI0 (by rw [fw_gone hs (by first | exact Or.inl h27 | exact Or.inr h33), h102, h107, h112]; rfl)) (fm_0 hA (fl_gone hs (by first | exact Or.inl h27 | exact Or.inr h33)).2)
                        · refine j_iconst C (v := nI 1) dX7_follows_115 rfl ?_
                          refine j_goto C 120 dX7_follows_116 ?_ (by decide)
                          exact q_zretS C CM rfl (by decide) (by decide) dX7_follows_120 (by first | exact nI_bI1 (by rw [fw_gone hs (by first | exact Or.inl h27 | exact Or.inr h33), h102]; rfl) | exact nI_bI1 (by rw [fw_gone hs (by first | exact Or.inl h27 | exact Or.inr h33), h107, Bool.or_true]; rfl) | exact nI_bI1 (by rw [fw_gone hs (by first | exact Or.inl h27 | exact Or.inr h33), h112, Bool.or_true]) | exact nI_bI0 (by rw [fw_gone hs (by first | exact Or.inl h27 | exact Or.inr h33), h102, h107, h112]; rfl)) (fm_0 hA (fl_gone hs (by first | exact Or.inl h27 | exact Or.inr h33)).2)
                  exact q_st (K98) (by first | exact nI_bI1 (by rw [decide_eq_true ((oI_eq (b := some p) (fun w hw => Nat.lt_trans (mv_some hw hp).1 (by decide)) (fun w hw => by cases hw; omega)).mp h79), decide_eq_true ((oI_eq (nI_lt8 hv hp) (nI_lt8 ht hp)).mp h90)]; rfl) | exact nI_bI0 (by rw [decide_eq_false (p := v p = t p) (fun e => h90 ((oI_eq (nI_lt8 hv hp) (nI_lt8 ht hp)).mpr e)), Bool.and_false]) | exact nI_bI0 (by rw [decide_eq_false (p := (moO t v p) = some p) (fun e => h79 ((oI_eq (b := some p) (fun w hw => Nat.lt_trans (mv_some hw hp).1 (by decide)) (fun w hw => by cases hw; omega)).mpr e))]; rfl)) (gLe_c rfl (gLe_c rfl (gLe_c rfl (gLe_c rfl (gLe_c rfl (gLe_c rfl (gLe_c rfl (gLe_c rfl (gLe_c rfl (gLe_n (gLe_n (gLe_n gLe_0))))))))))))
                · refine j_aload_n C dX7_follows_82 rfl ?_
                  refine j_iload C dX7_follows_83 rfl ?_
                  refine q_iald C hc.1 hc.2 (by decide) (by omega) dX7_follows_85 ?_
                  rw [hsv p hp]
                  refine j_aload_n C dX7_follows_86 rfl ?_
                  refine j_iload C dX7_follows_87 rfl ?_
                  refine q_iald C ha.1 ha.2 (by decide) (by omega) dX7_follows_89 ?_
                  rw [hr p hp]
                  refine j_icmp_ne C 97 dX7_follows_90 (fun h90 => ?_) (fun h90 => ?_) (by decide)
                  · refine j_iconst C (v := nI 0) dX7_follows_97 rfl ?_
                    have K98 : Q G X 0 0 98 [some (.ref (gb G + 156)), some (.ref (gb G + a)), some (.ref (gb G + b)), some (.ref (gb G + c)), some (.int (nI p)), some (.int (oI (moO t u p))), some (.int (oI (moO t v p))), some (.int (bI (decide ((moO t u p) = (moO t v p))))), some (.int (bI (decide ((moO t u p) = some p) && decide (u p = t p)))), none, none, none] [.int (bI ((decide ((moO t v p) = some p) && decide (v p = t p))))] M := by
                      skip
                      refine j_istore C dX7_follows_98 (by decide) rfl ?_
                      refine j_iload C dX7_follows_100 rfl ?_
                      refine q_if_ne0 C 115 dX7_follows_102 (by decide) (fun h102 => ?_) (fun h102 => ?_)
                      · refine j_iconst C (v := nI 1) dX7_follows_115 rfl ?_
                        refine j_goto C 120 dX7_follows_116 ?_ (by decide)
                        exact q_zretS C CM rfl (by decide) (by decide) dX7_follows_120 (by first | exact nI_bI1 (by rw [fw_gone hs (by first | exact Or.inl h27 | exact Or.inr h33), h102]; rfl) | exact nI_bI1 (by rw [fw_gone hs (by first | exact Or.inl h27 | exact Or.inr h33), h107, Bool.or_true]; rfl) | exact nI_bI1 (by rw [fw_gone hs (by first | exact Or.inl h27 | exact Or.inr h33), h112, Bool.or_true]) | exact nI_bI0 (by rw [fw_gone hs (by first | exact Or.inl h27 | exact Or.inr h33), h102, h107, h112]; rfl)) (fm_0 hA (fl_gone hs (by first | exact Or.inl h27 | exact Or.inr h33)).2)
                      · refine j_iload C dX7_follows_105 rfl ?_
                        refine q_if_ne0 C 115 dX7_follows_107 (by decide) (fun h107 => ?_) (fun h107 => ?_)
                        · refine j_iconst C (v := nI 1) dX7_follows_115 rfl ?_
                          refine j_goto C 120 dX7_follows_116 ?_ (by decide)
                          exact q_zretS C CM rfl (by decide) (by decide) dX7_follows_120 (by first | exact nI_bI1 (by rw [fw_gone hs (by first | exact Or.inl h27 | exact Or.inr h33), h102]; rfl) | exact nI_bI1 (by rw [fw_gone hs (by first | exact Or.inl h27 | exact Or.inr h33), h107, Bool.or_true]; rfl) | exact nI_bI1 (by rw [fw_gone hs (by first | exact Or.inl h27 | exact Or.inr h33), h112, Bool.or_true]) | exact nI_bI0 (by rw [fw_gone hs (by first | exact Or.inl h27 | exact Or.inr h33), h102, h107, h112]; rfl)) (fm_0 hA (fl_gone hs (by first | exact Or.inl h27 | exact Or.inr h33)).2)
                        · refine j_iload C dX7_follows_110 rfl ?_
                          refine q_if_eq0 C 119 dX7_follows_112 (by decide) (fun h112 => ?_) (fun h112 => ?_)
                          · refine j_iconst C (v := nI 0) dX7_follows_119 rfl ?_
                            exact q_zretS C CM rfl (by decide) (by decide) dX7_follows_120 (by first | exact nI_bI1 (by rw [fw_gone hs (by first | exact Or.inl h27 | exact Or.inr h33), h102]; rfl) | exact nI_bI1 (by rw [fw_gone hs (by first | exact Or.inl h27 | exact Or.inr h33), h107, Bool.or_true]; rfl) | exact nI_bI1 (by rw [fw_gone hs (by first | exact Or.inl h27 | exact Or.inr h33), h112, Bool.or_true]) | exact nI_bI0 (by rw [fw_gone hs (by first | exact Or.inl h27 | exact Or.inr h33), h102, h107, h112]; rfl)) (fm_0 hA (fl_gone hs (by first | exact Or.inl h27 | exact Or.inr h33)).2)
                          · refine j_iconst C (v := nI 1) dX7_follows_115 rfl ?_
                            refine j_goto C 120 dX7_follows_116 ?_ (by decide)
                            exact q_zretS C CM rfl (by decide) (by decide) dX7_follows_120 (by first | exact nI_bI1 (by rw [fw_gone hs (by first | exact Or.inl h27 | exact Or.inr h33), h102]; rfl) | exact nI_bI1 (by rw [fw_gone hs (by first | exact Or.inl h27 | exact Or.inr h33), h107, Bool.or_true]; rfl) | exact nI_bI1 (by rw [fw_gone hs (by first | exact Or.inl h27 | exact Or.inr h33), h112, Bool.or_true]) | exact nI_bI0 (by rw [fw_gone hs (by first | exact Or.inl h27 | exact Or.inr h33), h102, h107, h112]; rfl)) (fm_0 hA (fl_gone hs (by first | exact Or.inl h27 | exact Or.inr h33)).2)
                    exact q_st (K98) (by first | exact nI_bI1 (by rw [decide_eq_true ((oI_eq (b := some p) (fun w hw => Nat.lt_trans (mv_some hw hp).1 (by decide)) (fun w hw => by cases hw; omega)).mp h79), decide_eq_true ((oI_eq (nI_lt8 hv hp) (nI_lt8 ht hp)).mp h90)]; rfl) | exact nI_bI0 (by rw [decide_eq_false (p := v p = t p) (fun e => h90 ((oI_eq (nI_lt8 hv hp) (nI_lt8 ht hp)).mpr e)), Bool.and_false]) | exact nI_bI0 (by rw [decide_eq_false (p := (moO t v p) = some p) (fun e => h79 ((oI_eq (b := some p) (fun w hw => Nat.lt_trans (mv_some hw hp).1 (by decide)) (fun w hw => by cases hw; omega)).mpr e))]; rfl)) (gLe_c rfl (gLe_c rfl (gLe_c rfl (gLe_c rfl (gLe_c rfl (gLe_c rfl (gLe_c rfl (gLe_c rfl (gLe_c rfl (gLe_n (gLe_n (gLe_n gLe_0))))))))))))
                  · refine j_iconst C (v := nI 1) dX7_follows_93 rfl ?_
                    refine j_goto C 98 dX7_follows_94 ?_ (by decide)
                    have K98 : Q G X 0 0 98 [some (.ref (gb G + 156)), some (.ref (gb G + a)), some (.ref (gb G + b)), some (.ref (gb G + c)), some (.int (nI p)), some (.int (oI (moO t u p))), some (.int (oI (moO t v p))), some (.int (bI (decide ((moO t u p) = (moO t v p))))), some (.int (bI (decide ((moO t u p) = some p) && decide (u p = t p)))), none, none, none] [.int (bI ((decide ((moO t v p) = some p) && decide (v p = t p))))] M := by
                      skip
                      refine j_istore C dX7_follows_98 (by decide) rfl ?_
                      refine j_iload C dX7_follows_100 rfl ?_
                      refine q_if_ne0 C 115 dX7_follows_102 (by decide) (fun h102 => ?_) (fun h102 => ?_)
                      · refine j_iconst C (v := nI 1) dX7_follows_115 rfl ?_
                        refine j_goto C 120 dX7_follows_116 ?_ (by decide)
                        exact q_zretS C CM rfl (by decide) (by decide) dX7_follows_120 (by first | exact nI_bI1 (by rw [fw_gone hs (by first | exact Or.inl h27 | exact Or.inr h33), h102]; rfl) | exact nI_bI1 (by rw [fw_gone hs (by first | exact Or.inl h27 | exact Or.inr h33), h107, Bool.or_true]; rfl) | exact nI_bI1 (by rw [fw_gone hs (by first | exact Or.inl h27 | exact Or.inr h33), h112, Bool.or_true]) | exact nI_bI0 (by rw [fw_gone hs (by first | exact Or.inl h27 | exact Or.inr h33), h102, h107, h112]; rfl)) (fm_0 hA (fl_gone hs (by first | exact Or.inl h27 | exact Or.inr h33)).2)
                      · refine j_iload C dX7_follows_105 rfl ?_
                        refine q_if_ne0 C 115 dX7_follows_107 (by decide) (fun h107 => ?_) (fun h107 => ?_)
                        · refine j_iconst C (v := nI 1) dX7_follows_115 rfl ?_
                          refine j_goto C 120 dX7_follows_116 ?_ (by decide)
                          exact q_zretS C CM rfl (by decide) (by decide) dX7_follows_120 (by first | exact nI_bI1 (by rw [fw_gone hs (by first | exact Or.inl h27 | exact Or.inr h33), h102]; rfl) | exact nI_bI1 (by rw [fw_gone hs (by first | exact Or.inl h27 | exact Or.inr h33), h107, Bool.or_true]; rfl) | exact nI_bI1 (by rw [fw_gone hs (by first | exact Or.inl h27 | exact Or.inr h33), h112, Bool.or_true]) | exact nI_bI0 (by rw [fw_gone hs (by first | exact Or.inl h27 | exact Or.inr h33), h102, h107, h112]; rfl)) (fm_0 hA (fl_gone hs (by first | exact Or.inl h27 | exact Or.inr h33)).2)
                        · refine j_iload C dX7_follows_110 rfl ?_
                          refine q_if_eq0 C 119 dX7_follows_112 (by decide) (fun h112 => ?_) (fun h112 => ?_)
                          · refine j_iconst C (v := nI 0) dX7_follows_119 rfl ?_
                            exact q_zretS C CM rfl (by decide) (by decide) dX7_follows_120 (by first | exact nI_bI1 (by rw [fw_gone hs (by first | exact Or.inl h27 | exact Or.inr h33), h102]; rfl) | exact nI_bI1 (by rw [fw_gone hs (by first | exact Or.inl h27 | exact Or.inr h33), h107, Bool.or_true]; rfl) | exact nI_bI1 (by rw [fw_gone hs (by first | exact Or.inl h27 | exact Or.inr h33), h112, Bool.or_true]) | exact nI_bI0 (by rw [fw_gone hs (by first | exact Or.inl h27 | exact Or.inr h33), h102, h107, h112]; rfl)) (fm_0 hA (fl_gone hs (by first | exact Or.inl h27 | exact Or.inr h33)).2)
                          · refine j_iconst C (v := nI 1) dX7_follows_115 rfl ?_
                            refine j_goto C 120 dX7_follows_116 ?_ (by decide)
                            exact q_zretS C CM rfl (by decide) (by decide) dX7_follows_120 (by first | exact nI_bI1 (by rw [fw_gone hs (by first | exact Or.inl h27 | exact Or.inr h33), h102]; rfl) | exact nI_bI1 (by rw [fw_gone hs (by first | exact Or.inl h27 | exact Or.inr h33), h107, Bool.or_true]; rfl) | exact nI_bI1 (by rw [fw_gone hs (by first | exact Or.inl h27 | exact Or.inr h33), h112, Bool.or_true]) | exact nI_bI0 (by rw [fw_gone hs (by first | exact Or.inl h27 | exact Or.inr h33), h102, h107, h112]; rfl)) (fm_0 hA (fl_gone hs (by first | exact Or.inl h27 | exact Or.inr h33)).2)
                    exact q_st (K98) (by first | exact nI_bI1 (by rw [decide_eq_true ((oI_eq (b := some p) (fun w hw => Nat.lt_trans (mv_some hw hp).1 (by decide)) (fun w hw => by cases hw; omega)).mp h79), decide_eq_true ((oI_eq (nI_lt8 hv hp) (nI_lt8 ht hp)).mp h90)]; rfl) | exact nI_bI0 (by rw [decide_eq_false (p := v p = t p) (fun e => h90 ((oI_eq (nI_lt8 hv hp) (nI_lt8 ht hp)).mpr e)), Bool.and_false]) | exact nI_bI0 (by rw [decide_eq_false (p := (moO t v p) = some p) (fun e => h79 ((oI_eq (b := some p) (fun w hw => Nat.lt_trans (mv_some hw hp).1 (by decide)) (fun w hw => by cases hw; omega)).mpr e))]; rfl)) (gLe_c rfl (gLe_c rfl (gLe_c rfl (gLe_c rfl (gLe_c rfl (gLe_c rfl (gLe_c rfl (gLe_c rfl (gLe_c rfl (gLe_n (gLe_n (gLe_n gLe_0))))))))))))
              exact q_st (K73) (by first | exact nI_bI1 (by rw [decide_eq_true ((oI_eq (b := some p) (fun w hw => Nat.lt_trans (mv_some hw hp).1 (by decide)) (fun w hw => by cases hw; omega)).mp h54), decide_eq_true ((oI_eq (nI_lt8 hu hp) (nI_lt8 ht hp)).mp h65)]; rfl) | exact nI_bI0 (by rw [decide_eq_false (p := u p = t p) (fun e => h65 ((oI_eq (nI_lt8 hu hp) (nI_lt8 ht hp)).mpr e)), Bool.and_false]) | exact nI_bI0 (by rw [decide_eq_false (p := (moO t u p) = some p) (fun e => h54 ((oI_eq (b := some p) (fun w hw => Nat.lt_trans (mv_some hw hp).1 (by decide)) (fun w hw => by cases hw; omega)).mpr e))]; rfl)) (gLe_c rfl (gLe_c rfl (gLe_c rfl (gLe_c rfl (gLe_c rfl (gLe_c rfl (gLe_c rfl (gLe_c rfl (gLe_n (gLe_n (gLe_n (gLe_n gLe_0))))))))))))
        exact q_st (K48) (by first | exact nI_bI1 (decide_eq_true ((oI_eq (fun w hw => Nat.lt_trans (mv_some hw hp).1 (by decide)) (fun w hw => Nat.lt_trans (mv_some hw hp).1 (by decide))).mp h40)) | exact nI_bI0 (decide_eq_false (fun e => h40 ((oI_eq (fun w hw => Nat.lt_trans (mv_some hw hp).1 (by decide)) (fun w hw => Nat.lt_trans (mv_some hw hp).1 (by decide))).mpr e)))) (gLe_c rfl (gLe_c rfl (gLe_c rfl (gLe_c rfl (gLe_c rfl (gLe_c rfl (gLe_c rfl (gLe_n (gLe_n (gLe_n (gLe_n (gLe_n gLe_0))))))))))))
