/-- a new commit of the model -/
def madM (M : gMem) (n a : Nat) (x y : Int32) : gMem := sF (sI (sI (sI M (158 + n) (cpF (M.1 a) (M.1 (158 + n)) 8)) 218 (upd (M.1 218) n x)) 219 (upd (M.1 219) n y)) 156 3 (nI (n + 1))
/-- only commits differ -/
def gKc (M M' : gMem) : Prop := (∀ o, 220 ≤ o → M'.1 o = M.1 o) ∧ (∀ j, j ≠ 3 → M'.2.2.1 156 j = M.2.2.1 156 j) ∧ gMod M M'
theorem kc_refl (M : gMem) : gKc M M := ⟨fun _ _ => rfl, fun _ _ => rfl, mod_refl M⟩
theorem mad_kc (M : gMem) {n a : Nat} (x y : Int32) (h : n < 60) : gKc M (madM M n a x y) := by
  refine ⟨fun o ho => ?_, fun j hj => sF_ne _ _ (fun w => hj w.2), mod_trans (mod_trans (mod_trans (mod_sI M _ (by omega)) (mod_sI _ _ (by omega))) (mod_sI _ _ (by omega))) (mod_sF _ _ _)⟩
  show (sI (sI (sI M (158 + n) (cpF (M.1 a) (M.1 (158 + n)) 8)) 218 (upd (M.1 218) n x)) 219 (upd (M.1 219) n y)).1 o = M.1 o
  rw [sI_n _ _ (by omega), sI_n _ _ (by omega), sI_n _ _ (by omega)]
theorem mad_rk {A : gSt0} {M : gMem} {a f : Nat} {s : Option Nat} {t : Nat → Option Nat} (hR : gRk A M) (hr : gRo M a t) (h6 : aN A < 60) : gRk (addA A t f s) (madM M (aN A) a (nI f) (oI s)) := by
  refine ⟨sF_at _ _ _ _, fun c hc => ?_, fun c hc p hp => ?_⟩
  · have hc : c < aN A + 1 := hc
    show (sI (sI (sI M (158 + aN A) (cpF (M.1 a) (M.1 (158 + aN A)) 8)) 218 (upd (M.1 218) (aN A) (nI f))) 219 (upd (M.1 219) (aN A) (oI s))).1 218 c = oI (uO (aF A) (aN A) (some f) c) ∧ (sI (sI (sI M (158 + aN A) (cpF (M.1 a) (M.1 (158 + aN A)) 8)) 218 (upd (M.1 218) (aN A) (nI f))) 219 (upd (M.1 219) (aN A) (oI s))).1 219 c = oI (uO (aS A) (aN A) s c)
    rw [sI_n _ _ (show (218 : Nat) ≠ 219 by decide), sI_s, sI_s]
    by_cases e : c = aN A
    · rw [e, upd_s, upd_s, uO_s, uO_s]; exact ⟨rfl, rfl⟩
    · rw [upd_n _ _ e, upd_n _ _ e, uO_n _ _ e, uO_n _ _ e]; exact hR.2.1 c (by omega)
  · have hc : c < aN A + 1 := hc
    show (sI (sI (sI M (158 + aN A) (cpF (M.1 a) (M.1 (158 + aN A)) 8)) 218 (upd (M.1 218) (aN A) (nI f))) 219 (upd (M.1 219) (aN A) (oI s))).1 (158 + c) p = oI ((if c = aN A then cutT t else aT A c) p)
    rw [sI_n _ _ (by omega), sI_n _ _ (by omega)]
    by_cases e : c = aN A
    · rw [if_pos e, e, sI_s, cpF_lt hp, hr p hp]
      unfold cutT
      rw [if_pos hp]
    · rw [if_neg e, sI_n _ _ (by omega)]
      exact hR.2.2 c (by omega) p hp
theorem rl_kc {A : gSt0} {M M' : gMem} (h : gRl A M) (k : gKc M M') : gRl A M' := by
  refine ⟨fun b hb => by rw [k.1 220 (by decide)]; exact h.1 b hb, by rw [k.2.1 5 (by decide)]; exact h.2.1, fun p hp => ?_⟩
  rw [k.1 221 (by decide)]
  exact h.2.2 p hp
theorem mk_old {A : gSt0} {t : Nat → Option Nat} {f c : Nat} {s : Option Nat} (h : firstN (sameB A t f s) (aN A) = some c) : mkO A t f s = some c ∧ mkA A t f s = A := by
  unfold mkO mkA
  rw [h]
  exact ⟨rfl, rfl⟩
theorem mk_full {A : gSt0} {t : Nat → Option Nat} {f : Nat} {s : Option Nat} (h : firstN (sameB A t f s) (aN A) = none) (h6 : aN A = 60) : mkO A t f s = none ∧ mkA A t f s = A := by
  unfold mkO mkA
  rw [h]
  exact ⟨if_pos h6, if_pos h6⟩
theorem mk_new {A : gSt0} {t : Nat → Option Nat} {f : Nat} {s : Option Nat} (h : firstN (sameB A t f s) (aN A) = none) (h6 : ¬ aN A = 60) : mkO A t f s = some (aN A) ∧ mkA A t f s = addA A t f s := by
  unfold mkO mkA
  rw [h]
  exact ⟨if_neg h6, if_neg h6⟩
/-- the commit that is made has the tree -/
theorem mk_tree {A : gSt0} {t : Nat → Option Nat} {f c : Nat} {s : Option Nat} (h : mkO A t f s = some c) : ∀ p, p < 8 → aT (mkA A t f s) c p = t p := by
  intro p hp
  cases e : firstN (sameB A t f s) (aN A) with
  | some d =>
    obtain ⟨h1, h2⟩ := mk_old e
    rw [h1] at h
    cases h
    rw [h2]
    have h3 := (first_some.mp e).2.1
    unfold sameB at h3
    simp only [Bool.and_eq_true, decide_eq_true_eq] at h3
    have h4 := cnt_zero.mp h3.2 p hp
    exact Classical.not_not.mp (of_decide_eq_false h4)
  | none =>
    by_cases h6 : aN A = 60
    · rw [(mk_full e h6).1] at h; cases h
    · obtain ⟨h1, h2⟩ := mk_new e h6
      rw [h1] at h
      cases h
      rw [h2]
      show (if aN A = aN A then cutT t else aT A (aN A)) p = t p
      rw [if_pos rfl]
      exact if_pos hp
theorem l_take {A : gSt0} {M : gMem} {c : Nat} (hR : gRl A M) (hT : gRo M (158 + c) (aT A c)) (hc : c < 60) : gRl (takeA A c) (sI (sI M 220 (upd (M.1 220) (aC A) (nI c))) 221 (cpF ((sI M 220 (upd (M.1 220) (aC A) (nI c))).1 (158 + c)) ((sI M 220 (upd (M.1 220) (aC A) (nI c))).1 221) 8)) := by
  refine ⟨fun b hb => ?_, hR.2.1, fun p hp => ?_⟩
  · rw [sI_n _ _ (by decide), sI_s]
    show _ = oI (uO (aH A) (aC A) (some c) b)
    by_cases e : b = aC A
    · rw [e, upd_s, uO_s]; rfl
    · rw [upd_n _ _ e, uO_n _ _ e]; exact hR.1 b hb
  · rw [sI_s, cpF_lt hp, sI_n _ _ (by omega)]
    exact hT p hp
theorem k_take {A : gSt0} {M : gMem} {c : Nat} {x y : Nat → Int32} (hA : gAi A) (hR : gRk A M) : gRk (takeA A c) (sI (sI M 220 x) 221 y) := by
  have h60 := hA.1.2
  refine ⟨hR.1, fun d hd => hR.2.1 d hd, fun d hd p hp => ?_⟩
  have h1 : d < aN A := hd
  rw [sI_n _ _ (by omega), sI_n _ _ (by omega)]
  exact hR.2.2 d hd p hp
theorem mod_take (M : gMem) (x y : Nat → Int32) : gMod M (sI (sI M 220 x) 221 y) := mod_trans (mod_sI M x (by decide)) (mod_sI _ y (by decide))
theorem rm_setH {A : gSt0} {M : gMem} {b h : Nat} (hA : gAi A) (hR : gRM A M) : gRM (setH A (uO (aH A) b (some h))) (sI M 220 (upd (M.1 220) b (nI h))) := by
  have h60 := hA.1.2
  refine ⟨⟨hR.1.1, fun c hc => hR.1.2.1 c hc, fun c hc p hp => ?_⟩, ⟨fun c hc => ?_, hR.2.1.2.1, fun q hq => hR.2.1.2.2 q hq⟩, hR.2.2⟩
  · have h1 : c < aN A := hc
    rw [sI_n _ _ (by omega)]
    exact hR.1.2.2 c hc p hp
  · rw [sI_s]
    show _ = oI (uO (aH A) b (some h) c)
    by_cases e : c = b
    · rw [e, upd_s, uO_s]; rfl
    · rw [upd_n _ _ e, uO_n _ _ e]; exact hR.2.1.1 c hc
theorem chg_row {A : gSt0} {M : gMem} (hA : gAi A) (hB : gAb A) (hk : gRk A M) (hl : gRl A M) {p : Nat} (hp : p < 8) : (M.1 221 p = M.1 (158 + aHd A) p) ↔ aW A p = aT A (aHd A) p := by
  rw [hl.2.2 p hp, hk.2.2 _ (ab_hd hB).2 p hp]
  exact oI_eq (nI_lt8 hB.2.2.2 hp) (nI_lt8 (hA.2.2.2 _) hp)
theorem lk_val {A : gSt0} {M : gMem} {x : Int32} {o : gRes} (hA : gAi A) (hR : gRM A M) (h : decide (0 < lkN A x) = true) (h1 : inB x 8 = none → o = (1, 0, A)) (h2 : ∀ p, inB x 8 = some p → aW A p = none → o = (2, 0, A)) : nI 0 = o.2.1 ∧ gPom o M (sF M 156 7 (nI (lkN A x))) := by
  rcases lk_1 h with ⟨e1, e2⟩ | ⟨p, e0, e1, e2⟩
  · rw [e2]; exact ⟨pom_v (h1 e1) rfl, pom_x (h1 e1) hA hR⟩
  · rw [e2]; exact ⟨pom_v (h2 p e0 e1) rfl, pom_x (h2 p e0 e1) hA hR⟩
theorem o_mv1 (A : gSt0) (x : Int32) {y : Int32} (h : inB y 8 = none) : oMove A x y = (1, 0, A) := by
  unfold oMove
  rw [h]
  cases inB x 8 <;> rfl
theorem uO_comm (f : Nat → Option Nat) {p q : Nat} {x y : Option Nat} (h : p ≠ q) : uO (uO f p x) q y = uO (uO f q y) p x := by
  funext i
  unfold uO
  by_cases e : i = q
  · rw [if_pos e, if_neg (fun w => h (w.symm.trans e)), if_pos e]
  · rw [if_neg e, if_neg e]
set_option maxHeartbeats 4000000 in
set_option maxRecDepth 100000 in
theorem sp_X7_write (G : gG) (M : gMem) {A : gSt0} (hA : gAi A) (hB : gAb A) (hR : gRM A M) (x y : Int32) : SpS G mX7_write (gRm 2 0) [.ref (gb G + 156), .int x, .int y] M (some (.int (oWrite A x y).2.1)) (gPom (oWrite A x y) M) := by
  refine Sp.of (by decide +kernel) (Nat.le_of_ble_eq_true rfl) (fun X C CM => ?_)
  have C : gC G X RX7 cX7_write 4 (gRm 2 0) := C
  refine j_aload_n C dX7_write_0 rfl ?_
  refine j_iload_n C dX7_write_1 rfl ?_
  refine q_callS C (sp_X7_isPath G M x) vX7_isPath lk_X7_84 rfl rfl (Nat.le_of_ble_eq_true rfl) (by decide) dX7_write_2 ?_
  refine q_if_ne0 C 12 dX7_write_5 (by decide) (fun h5 => ?_) (fun h5 => ?_)
  · obtain ⟨p, hp, rfl, hp8⟩ := inB_is (n := 8) (by decide) h5
    refine j_iload_n C dX7_write_12 rfl ?_
    refine j_iconst C (v := nI 0) dX7_write_13 rfl ?_
    refine j_sipush C (v := nI 9999) dX7_write_14 rfl ?_
    refine q_callS C (sp_X7_in G M y (nI 0) (nI 9999)) vX7_in lk_X7_80 rfl rfl (Nat.le_of_ble_eq_true rfl) (by decide) dX7_write_17 ?_
    rw [in_inB (n := 10000) (by decide) (by decide)]
    refine q_if_ne0 C 27 dX7_write_20 (by decide) (fun h20 => ?_) (fun h20 => ?_)
    · obtain ⟨c, hc, rfl, hc8⟩ := inB_is (n := 10000) (by decide) h20
      refine j_iconst C (v := nI 0) dX7_write_27 rfl ?_
      refine q_putI C fX7 7 rfl (by decide) (by decide) lf_X7_77 rfl rfl rfl (Nat.le_of_ble_eq_true rfl) rfl dX7_write_28 ?_
      refine j_aload_n C dX7_write_31 rfl ?_
      refine q_get C fX7 7 rfl (by decide) (by decide) lf_X7_77 rfl rfl dX7_write_32 ?_
      rw [sF_at]
      refine j_if_le C 40 dX7_write_35 (fun _ => ?_) (fun h => absurd (by decide) h) (by decide)
      refine j_aload_n C dX7_write_40 rfl ?_
      refine q_get C fX7 6 rfl (by decide) (by decide) lf_X7_28 rfl rfl dX7_write_41 ?_
      refine j_iload_n C dX7_write_44 rfl ?_
      refine q_iald C rfl (by decide) (by decide) (by omega) dX7_write_45 ?_
      rw [show (sF M 156 7 (nI 0)).1 221 p = oI (aW A p) from hR.2.1.2.2 p hp8]
      refine j_istore_n C dX7_write_46 (by decide) rfl ?_
      refine j_aload_n C dX7_write_47 rfl ?_
      refine q_get C fX7 6 rfl (by decide) (by decide) lf_X7_28 rfl rfl dX7_write_48 ?_
      refine j_iload_n C dX7_write_51 rfl ?_
      refine j_iload_n C dX7_write_52 rfl ?_
      refine q_iast C rfl (by decide) (by decide) (by omega) dX7_write_53 ?_
      refine j_iload_n C dX7_write_54 rfl ?_
      exact q_iretS C CM rfl (by decide) (by decide) dX7_write_55 (pom_v (show oWrite A (nI p) (nI c) = (0, oI (aW A p), setW A (uO (aW A) p (some c))) from by simp only [oWrite, hp, hc]) rfl) (pom (show oWrite A (nI p) (nI c) = (0, oI (aW A p), setW A (uO (aW A) p (some c))) from by simp only [oWrite, hp, hc]) (by exact sF_at M 156 7 (nI 0)) (w_put (o := some c) hA (rm_k hA hR (km_sF M (nI 0) (by decide)))) (mod_trans (mod_sF M 7 _) (mod_sI _ _ (by decide))))
    · refine j_iconst C (v := nI 2) dX7_write_23 rfl ?_
      refine j_goto C 28 dX7_write_24 ?_ (by decide)
      refine q_putI C fX7 7 rfl (by decide) (by decide) lf_X7_77 rfl rfl rfl (Nat.le_of_ble_eq_true rfl) rfl dX7_write_28 ?_
      refine j_aload_n C dX7_write_31 rfl ?_
      refine q_get C fX7 7 rfl (by decide) (by decide) lf_X7_77 rfl rfl dX7_write_32 ?_
      rw [sF_at]
      refine j_if_le C 40 dX7_write_35 (fun h => absurd h (by decide)) (fun _ => ?_) (by decide)
      refine j_iconst C (v := nI 0) dX7_write_38 rfl ?_
      exact q_iretS C CM rfl (by decide) (by decide) dX7_write_39 (by first | exact pom_v (show oWrite A x y = (1, 0, A) from by simp only [oWrite, inB_nsome h5]) rfl | exact pom_v (show oWrite A (nI p) y = (2, 0, A) from by simp only [oWrite, hp, inB_nsome h20]) rfl) (by first | exact pom_x (k := 1) (by simp only [oWrite, inB_nsome h5]) hA hR | exact pom_x (k := 2) (by simp only [oWrite, hp, inB_nsome h20]) hA hR)
  · refine j_iconst C (v := nI 1) dX7_write_8 rfl ?_
    refine j_goto C 28 dX7_write_9 ?_ (by decide)
    refine q_putI C fX7 7 rfl (by decide) (by decide) lf_X7_77 rfl rfl rfl (Nat.le_of_ble_eq_true rfl) rfl dX7_write_28 ?_
    refine j_aload_n C dX7_write_31 rfl ?_
    refine q_get C fX7 7 rfl (by decide) (by decide) lf_X7_77 rfl rfl dX7_write_32 ?_
    rw [sF_at]
    refine j_if_le C 40 dX7_write_35 (fun h => absurd h (by decide)) (fun _ => ?_) (by decide)
    refine j_iconst C (v := nI 0) dX7_write_38 rfl ?_
    exact q_iretS C CM rfl (by decide) (by decide) dX7_write_39 (by first | exact pom_v (show oWrite A x y = (1, 0, A) from by simp only [oWrite, inB_nsome h5]) rfl | exact pom_v (show oWrite A (nI p) y = (2, 0, A) from by simp only [oWrite, hp, inB_nsome h20]) rfl) (by first | exact pom_x (k := 1) (by simp only [oWrite, inB_nsome h5]) hA hR | exact pom_x (k := 2) (by simp only [oWrite, hp, inB_nsome h20]) hA hR)
set_option maxHeartbeats 4000000 in
set_option maxRecDepth 100000 in
theorem sp_X7_erase (G : gG) (M : gMem) {A : gSt0} (hA : gAi A) (hB : gAb A) (hR : gRM A M) (x : Int32) : SpS G mX7_erase (gRm 3 0) [.ref (gb G + 156), .int x] M (some (.int (oErase A x).2.1)) (gPom (oErase A x) M) := by
  refine Sp.of (by decide +kernel) (Nat.le_of_ble_eq_true rfl) (fun X C CM => ?_)
  have C : gC G X RX7 cX7_erase 3 (gRm 3 0) := C
  refine j_aload_n C dX7_erase_0 rfl ?_
  refine j_iload_n C dX7_erase_1 rfl ?_
  refine q_callV C (sp_X7_lacks G M hB hR.2.1.2.2 x) vX7_lacks lk_X7_88 rfl (by decide) rfl rfl (Nat.le_of_ble_eq_true rfl) (by decide) dX7_erase_2 ?_
  refine q_if_eq0 C 10 dX7_erase_5 (by decide) (fun h5 => ?_) (fun h5 => ?_)
  · obtain ⟨p, c, hp, rfl, hp8, hc, h0⟩ := lk_0 h5
    rw [h0]
    have ho : oErase A (nI p) = (0, nI c, setW A (uO (aW A) p none)) := by simp only [oErase, hp, hc]
    refine j_aload_n C dX7_erase_10 rfl ?_
    refine q_get C fX7 6 rfl (by decide) (by decide) lf_X7_28 rfl rfl dX7_erase_11 ?_
    refine j_iload_n C dX7_erase_14 rfl ?_
    refine q_iald C rfl (by decide) (by decide) (by omega) dX7_erase_15 ?_
    rw [show (sF M 156 7 (nI 0)).1 221 p = nI c from (hR.2.1.2.2 p hp8).trans (by rw [hc]; rfl)]
    refine j_istore_n C dX7_erase_16 (by decide) rfl ?_
    refine j_aload_n C dX7_erase_17 rfl ?_
    refine q_get C fX7 6 rfl (by decide) (by decide) lf_X7_28 rfl rfl dX7_erase_18 ?_
    refine j_iload_n C dX7_erase_21 rfl ?_
    refine j_iconst C (v := -1) dX7_erase_22 rfl ?_
    refine q_iast C rfl (by decide) (by decide) (by omega) dX7_erase_23 ?_
    refine j_iload_n C dX7_erase_24 rfl ?_
    exact q_iretS C CM rfl (by decide) (by decide) dX7_erase_25 (pom_v ho rfl) (pom ho (by exact sF_at M 156 7 (nI 0)) (w_put (o := none) hA (rm_k hA hR (km_sF M (nI 0) (by decide)))) (mod_trans (mod_sF M 7 _) (mod_sI _ _ (by decide))))
  · refine j_iconst C (v := nI 0) dX7_erase_8 rfl ?_
    exact q_iretS C CM rfl (by decide) (by decide) dX7_erase_9 (lk_val hA hR h5 (fun e => by simp only [oErase, e]) (fun p e0 e1 => by simp only [oErase, e0, e1])).1 (lk_val hA hR h5 (fun e => by simp only [oErase, e]) (fun p e0 e1 => by simp only [oErase, e0, e1])).2
set_option maxHeartbeats 4000000 in
set_option maxRecDepth 100000 in
theorem sp_X7_content (G : gG) (M : gMem) {A : gSt0} (hA : gAi A) (hB : gAb A) (hR : gRM A M) (x : Int32) : SpS G mX7_content (gRm 3 0) [.ref (gb G + 156), .int x] M (some (.int (oContent A x).2.1)) (gPom (oContent A x) M) := by
  refine Sp.of (by decide +kernel) (Nat.le_of_ble_eq_true rfl) (fun X C CM => ?_)
  have C : gC G X RX7 cX7_content 2 (gRm 3 0) := C
  refine j_aload_n C dX7_content_0 rfl ?_
  refine j_iload_n C dX7_content_1 rfl ?_
  refine q_callV C (sp_X7_lacks G M hB hR.2.1.2.2 x) vX7_lacks lk_X7_88 rfl (by decide) rfl rfl (Nat.le_of_ble_eq_true rfl) (by decide) dX7_content_2 ?_
  refine q_if_eq0 C 12 dX7_content_5 (by decide) (fun h5 => ?_) (fun h5 => ?_)
  · obtain ⟨p, c, hp, rfl, hp8, hc, h0⟩ := lk_0 h5
    rw [h0]
    have ho : oContent A (nI p) = (0, nI c, A) := by simp only [oContent, hp, hc]
    refine j_aload_n C dX7_content_12 rfl ?_
    refine q_get C fX7 6 rfl (by decide) (by decide) lf_X7_28 rfl rfl dX7_content_13 ?_
    refine j_iload_n C dX7_content_16 rfl ?_
    refine q_iald C rfl (by decide) (by decide) (by omega) dX7_content_17 ?_
    exact q_iretS C CM rfl (by decide) (by decide) dX7_content_18 (by first | exact (lk_val (o := oContent A x) hA hR h5 (fun e => by simp only [oContent, e]) (fun p e0 e1 => by simp only [oContent, e0, e1])).1 | exact pom_v ho ((hR.2.1.2.2 p hp8).trans (by rw [hc]; rfl))) (by first | exact (lk_val (o := oContent A x) hA hR h5 (fun e => by simp only [oContent, e]) (fun p e0 e1 => by simp only [oContent, e0, e1])).2 | exact pom ho (sF_at _ _ _ _) (rm_k hA hR (km_sF M (nI 0) (by decide))) (mod_sF M 7 _))
  · refine j_iconst C (v := nI 0) dX7_content_8 rfl ?_
    refine j_goto C 18 dX7_content_9 ?_ (by decide)
    exact q_iretS C CM rfl (by decide) (by decide) dX7_content_18 (by first | exact (lk_val (o := oContent A x) hA hR h5 (fun e => by simp only [oContent, e]) (fun p e0 e1 => by simp only [oContent, e0, e1])).1 | exact pom_v ho ((hR.2.1.2.2 p hp8).trans (by rw [hc]; rfl))) (by first | exact (lk_val (o := oContent A x) hA hR h5 (fun e => by simp only [oContent, e]) (fun p e0 e1 => by simp only [oContent, e0, e1])).2 | exact pom ho (sF_at _ _ _ _) (rm_k hA hR (km_sF M (nI 0) (by decide))) (mod_sF M 7 _))
set_option maxHeartbeats 4000000 in
set_option maxRecDepth 100000 in
theorem sp_X7_move (G : gG) (M : gMem) {A : gSt0} (hA : gAi A) (hB : gAb A) (hR : gRM A M) (x y : Int32) : SpS G mX7_move (gRm 3 0) [.ref (gb G + 156), .int x, .int y] M (some (.int (oMove A x y).2.1)) (gPom (oMove A x y) M) := by
  refine Sp.of (by decide +kernel) (Nat.le_of_ble_eq_true rfl) (fun X C CM => ?_)
  have C : gC G X RX7 cX7_move 3 (gRm 3 0) := C
  refine j_iload_n C dX7_move_0 rfl ?_
  refine q_callS C (sp_X7_isPath G M y) vX7_isPath lk_X7_84 rfl rfl (Nat.le_of_ble_eq_true rfl) (by decide) dX7_move_1 ?_
  refine q_if_ne0 C 13 dX7_move_4 (by decide) (fun h4 => ?_) (fun h4 => ?_)
  · obtain ⟨q, hq, rfl, hq8⟩ := inB_is (n := 8) (by decide) h4
    refine j_aload_n C dX7_move_13 rfl ?_
    refine j_iload_n C dX7_move_14 rfl ?_
    refine q_callV C (sp_X7_lacks G M hB hR.2.1.2.2 x) vX7_lacks lk_X7_88 rfl (by decide) rfl rfl (Nat.le_of_ble_eq_true rfl) (by decide) dX7_move_15 ?_
    refine q_if_eq0 C 23 dX7_move_18 (by decide) (fun h18 => ?_) (fun h18 => ?_)
    · obtain ⟨p, c, hp, rfl, hp8, hc, h0⟩ := lk_0 h18
      rw [h0]
      refine j_aload_n C dX7_move_23 rfl ?_
      refine q_get C fX7 6 rfl (by decide) (by decide) lf_X7_28 rfl rfl dX7_move_24 ?_
      refine j_iload_n C dX7_move_27 rfl ?_
      refine q_iald C rfl (by decide) (by decide) (by omega) dX7_move_28 ?_
      rw [show (sF M 156 7 (nI 0)).1 221 q = oI (aW A q) from hR.2.1.2.2 q hq8]
      refine j_iconst C (v := -1) dX7_move_29 rfl ?_
      refine q_icmp_eqN C 39 dX7_move_30 (by decide) (nI_lt8 hB.2.2.2 hq8) (fun h30 => ?_) (fun v30 h30 => ?_)
      · have ho : oMove A (nI p) (nI q) = (0, nI c, setW A (uO (uO (aW A) p none) q (some c))) := by simp only [oMove, hp, hq, hc, h30]
        have hne : p ≠ q := fun e => by rw [e, h30] at hc; cases hc
        refine j_aload_n C dX7_move_39 rfl ?_
        refine q_get C fX7 6 rfl (by decide) (by decide) lf_X7_28 rfl rfl dX7_move_40 ?_
        refine j_iload_n C dX7_move_43 rfl ?_
        refine j_aload_n C dX7_move_44 rfl ?_
        refine q_get C fX7 6 rfl (by decide) (by decide) lf_X7_28 rfl rfl dX7_move_45 ?_
        refine j_iload_n C dX7_move_48 rfl ?_
        refine q_iald C rfl (by decide) (by decide) (by omega) dX7_move_49 ?_
        rw [show (sF M 156 7 (nI 0)).1 221 p = nI c from (hR.2.1.2.2 p hp8).trans (by rw [hc]; rfl)]
        refine q_iast C rfl (by decide) (by decide) (by omega) dX7_move_50 ?_
        refine j_aload_n C dX7_move_51 rfl ?_
        refine q_get C fX7 6 rfl (by decide) (by decide) lf_X7_28 rfl rfl dX7_move_52 ?_
        refine j_iload_n C dX7_move_55 rfl ?_
        refine j_iconst C (v := -1) dX7_move_56 rfl ?_
        refine q_iast C rfl (by decide) (by decide) (by omega) dX7_move_57 ?_
        refine j_aload_n C dX7_move_58 rfl ?_
        refine q_get C fX7 6 rfl (by decide) (by decide) lf_X7_28 rfl rfl dX7_move_59 ?_
        refine j_iload_n C dX7_move_62 rfl ?_
        refine q_iald C rfl (by decide) (by decide) (by omega) dX7_move_63 ?_
        rw [sI_s, upd_n _ _ (Ne.symm hne), sI_s, upd_s]
        exact q_iretS C CM rfl (by decide) (by decide) dX7_move_64 (pom_v ho rfl) (pom ho (by exact sF_at M 156 7 (nI 0)) (by rw [uO_comm _ hne]; exact w_put (A := setW A (uO (aW A) q (some c))) (o := none) hA (w_put (o := some c) hA (rm_k hA hR (km_sF M (nI 0) (by decide))))) (mod_trans (mod_trans (mod_sF M 7 _) (mod_sI _ _ (by decide))) (mod_sI _ _ (by decide))))
      · refine j_aload_n C dX7_move_33 rfl ?_
        refine j_iconst C (v := nI 3) dX7_move_34 rfl ?_
        refine q_callV C (sp_X7_raises G _ 3) vX7_raises lk_X7_91 rfl (by decide) rfl rfl (Nat.le_of_ble_eq_true rfl) (by decide) dX7_move_35 ?_
        exact q_iretS C CM rfl (by decide) (by decide) dX7_move_38 (pom_v (show oMove A (nI p) (nI q) = (3, 0, A) from by simp only [oMove, hp, hq, hc, h30]) rfl) (pom (show oMove A (nI p) (nI q) = (3, 0, A) from by simp only [oMove, hp, hq, hc, h30]) (sF_at _ _ _ _) (rm_k hA hR (km_trans (km_sF M (nI 0) (by decide)) (km_sF _ _ (by decide)))) (mod_trans (mod_sF M 7 _) (mod_sF _ 7 _)))
    · refine j_iconst C (v := nI 0) dX7_move_21 rfl ?_
      exact q_iretS C CM rfl (by decide) (by decide) dX7_move_22 (lk_val hA hR h18 (fun e => by simp only [oMove, hq, e]) (fun p e0 e1 => by simp only [oMove, hq, e0, e1])).1 (lk_val hA hR h18 (fun e => by simp only [oMove, hq, e]) (fun p e0 e1 => by simp only [oMove, hq, e0, e1])).2
  · refine j_aload_n C dX7_move_7 rfl ?_
    refine j_iconst C (v := nI 1) dX7_move_8 rfl ?_
    refine q_callV C (sp_X7_raises G M 1) vX7_raises lk_X7_91 rfl (by decide) rfl rfl (Nat.le_of_ble_eq_true rfl) (by decide) dX7_move_9 ?_
    exact q_iretS C CM rfl (by decide) (by decide) dX7_move_12 (pom_v (o_mv1 A x (inB_nsome h4)) rfl) (pom_x (o_mv1 A x (inB_nsome h4)) hA hR)
