/-- only what merging writes differs -/
def gMg (M M' : gMem) : Prop := M'.2.1 = M.2.1 ∧ M'.2.2.2 = M.2.2.2 ∧ (∀ o j, ¬ (o = 156 ∧ j = 12) → M'.2.2.1 o j = M.2.2.1 o j) ∧ ∀ o, o < 222 ∨ 225 < o → M'.1 o = M.1 o
theorem mg_refl (M : gMem) : gMg M M := ⟨rfl, rfl, fun _ _ _ => rfl, fun _ _ => rfl⟩
theorem mg_trans {M M1 M2 : gMem} (h : gMg M M1) (h' : gMg M1 M2) : gMg M M2 := ⟨h'.1.trans h.1, h'.2.1.trans h.2.1, fun o j ho => (h'.2.2.1 o j ho).trans (h.2.2.1 o j ho), fun o ho => (h'.2.2.2 o ho).trans (h.2.2.2 o ho)⟩
theorem mg_sI (M : gMem) {o : Nat} (f : Nat → Int32) (h : 222 ≤ o ∧ o ≤ 225) : gMg M (sI M o f) := ⟨rfl, rfl, fun _ _ _ => rfl, fun a ha => sI_n _ _ (by omega)⟩
theorem mg_sF (M : gMem) (v : Int32) : gMg M (sF M 156 12 v) := ⟨rfl, rfl, fun o j h => sF_ne _ _ h, fun _ _ => rfl⟩
theorem mg_sc {lo hi : Nat} {M M' : gMem} (h : gSc lo hi M M') (h1 : 222 ≤ lo) (h2 : hi ≤ 225) : gMg M M' := ⟨by rw [h.1], by rw [h.1], fun _ _ _ => by rw [h.1], fun o ho => h.2 o (by omega)⟩
theorem mg_ro {M M' : gMem} {a : Nat} {t : Nat → Option Nat} (hr : gRo M a t) (h : gMg M M') (ha : a < 222 ∨ 225 < a) : gRo M' a t := fun p hp => by
  rw [h.2.2.2 a ha]; exact hr p hp
theorem mg_km {M M' : gMem} (h : gMg M M') : gKm M M' := ⟨fun o ho => h.2.2.2 o (by omega), by rw [h.2.2.2 236 (by decide)], h.2.2.1 _ _ (by decide), h.2.2.1 _ _ (by decide), h.1, h.2.1, fun o j ho => h.2.2.1 o j (fun w => ho w.1), fun o ho => h.2.2.2 o (by omega)⟩
theorem ro_sI {M : gMem} {a : Nat} {f : Nat → Int32} {t : Nat → Option Nat} (h : ∀ r, r < 8 → f r = oI (t r)) : gRo (sI M a f) a t := fun p hp => by
  rw [sI_s]; exact h p hp
theorem n1_t {t u : Nat → Option Nat} {p : Nat} (h : cmB t u (moves t u) p = true) : n1O t u p = some (gv u p) := by
  have h2 := (cm_iff.mp h).2.1
  unfold n1O nwO
  rw [if_pos h]
  exact some_gv h2
theorem n1_f {t u : Nat → Option Nat} {p : Nat} (h : cmB t u (moves t u) p = false) : n1O t u p = none := by
  unfold n1O nwO
  rw [if_neg (by rw [h]; decide)]
theorem nw_ok {t u v : Nat → Option Nat} {p i : Nat} {M M1 M2 : gMem} (ha : gAr t u v 225 224 M i p p)
    (h1 : (n1O t u p = none ∧ M1 = M) ∨ ∃ c, n1O t u p = some c ∧ M1 = cmM M p (nI c)) (h2 : ((n1O t v p = none ∨ n1O t v p = n1O t u p) ∧ M2 = M1) ∨ ∃ c, n1O t v p = some c ∧ ¬ n1O t v p = n1O t u p ∧ M2 = cmM M1 p (nI c)) : gSc 224 225 M M2 ∧ gAr t u v 225 224 M2 i (p + 1) (p + 1) := by
  have A : gSc 224 225 M M1 ∧ gAr t u v 225 224 M1 i (p + 1) p := by
    rcases h1 with ⟨e, rfl⟩ | ⟨c, e, rfl⟩
    · exact ⟨sc_refl _, ar_N0 ha e⟩
    · exact ⟨cm_sc _ _ _, ar_N ha e (cm_came _ _ _)⟩
  have B : gSc 224 225 M1 M2 ∧ gAr t u v 225 224 M2 i (p + 1) (p + 1) := by
    rcases h2 with ⟨e, rfl⟩ | ⟨c, e, e2, rfl⟩
    · refine ⟨sc_refl _, ar_T0 A.2 ?_⟩
      unfold n2O
      rcases e with e | e
      · rw [e]; split <;> rfl
      · rw [if_pos e]
    · refine ⟨cm_sc _ _ _, ar_T A.2 ?_ (cm_came _ _ _)⟩
      unfold n2O
      rw [if_neg e2, e]
  exact ⟨sc_trans A.1 B.1, B.2⟩
theorem nw_eq {t u v : Nat → Option Nat} {p : Nat} (h1 : cmB t u (moves t u) p = true) (h2 : cmB t v (moves t v) p = true) (hu : gv u p < 2 ^ 31) (hv : gv v p < 2 ^ 31) (e : nI (gv u p) = nI (gv v p)) : n1O t v p = n1O t u p := by
  rw [n1_t h1, n1_t h2, (nI_eq hu hv).mp e]
theorem nw_ne1 {t u v : Nat → Option Nat} {p : Nat} (h1 : cmB t u (moves t u) p = false) (h2 : cmB t v (moves t v) p = true) : ¬ n1O t v p = n1O t u p := by
  rw [n1_f h1, n1_t h2]
  exact fun e => by cases e
theorem nw_ne2 {t u v : Nat → Option Nat} {p : Nat} (h1 : cmB t u (moves t u) p = true) (h2 : cmB t v (moves t v) p = true) (e : ¬ nI (gv u p) = nI (gv v p)) : ¬ n1O t v p = n1O t u p := by
  rw [n1_t h1, n1_t h2]
  exact fun w => e (by rw [Option.some.inj w])
theorem mrg_ini2 {M : gMem} {i : Nat} (h : ∀ p, p < i → M.1 225 p = 0 ∧ M.1 224 p = -1) : ∀ p, p < i + 1 → (sI (sI M 224 (upd (M.1 224) i (-1))) 225 (upd ((sI M 224 (upd (M.1 224) i (-1))).1 225) i (nI 0))).1 225 p = 0 ∧ (sI (sI M 224 (upd (M.1 224) i (-1))) 225 (upd ((sI M 224 (upd (M.1 224) i (-1))).1 225) i (nI 0))).1 224 p = -1 := by
  intro p hp
  rw [sI_s, sI_n _ _ (show (225 : Nat) ≠ 224 by decide), sI_n _ _ (show (224 : Nat) ≠ 225 by decide), sI_s]
  by_cases e : p = i
  · rw [e, upd_s, upd_s]; exact ⟨rfl, rfl⟩
  · rw [upd_n _ _ e, upd_n _ _ e]; exact h p (by omega)
set_option maxHeartbeats 4000000 in
set_option maxRecDepth 100000 in
theorem sp_X7_merges (G : gG) (M : gMem) {a b c : Nat} {t u v : Nat → Option Nat} (ha : gKd a = (0, 8) ∧ a < 239) (hb : gKd b = (0, 8) ∧ b < 239) (hc : gKd c = (0, 8) ∧ c < 239) (ha3 : a < 222 ∨ 225 < a) (hb3 : b < 222 ∨ 225 < b) (hc3 : c < 222 ∨ 225 < c) (hr : gRo M a t) (hsu : gRo M b u) (hsv : gRo M c v) (ht : gTn t) (hu : gTn u) (hv : gTn v) : SpS G mX7_merges (gRm 3 0) [.ref (gb G + 156), .ref (gb G + a), .ref (gb G + b), .ref (gb G + c)] M (some (.int (nI (mgN t u v)))) (fun M2 => gMg M M2 ∧ (mgN t u v = 0 → gRo M2 224 (mgR t u v))) := by
  refine Sp.of (by decide +kernel) (Nat.le_of_ble_eq_true rfl) (fun X C CM => ?_)
  have C : gC G X RX7 cX7_merges 7 (gRm 3 0) := C
  refine j_aload_n C dX7_merges_0 rfl ?_
  refine j_aload_n C dX7_merges_1 rfl ?_
  refine j_aload_n C dX7_merges_2 rfl ?_
  refine j_aload_n C dX7_merges_3 rfl ?_
  refine q_get C fX7 8 rfl (by decide) (by decide) lf_X7_31 rfl rfl dX7_merges_4 ?_
  refine q_callVS C (sp_X7_findsMoves G M (m := 222) ha.1 ha.2 hb.1 hb.2 rfl (by decide) (by omega) (by omega) hr hsu ht hu) vX7_findsMoves lk_X7_150 rfl (by decide) rfl rfl (Nat.le_of_ble_eq_true rfl) (by decide) dX7_merges_7 (fun M1 hM1 => ?_)
  obtain ⟨f1, rfl, hf1⟩ := hM1
  refine j_aload_n C dX7_merges_10 rfl ?_
  refine j_aload_n C dX7_merges_11 rfl ?_
  refine j_aload_n C dX7_merges_12 rfl ?_
  refine j_aload_n C dX7_merges_13 rfl ?_
  refine q_get C fX7 9 rfl (by decide) (by decide) lf_X7_34 rfl rfl dX7_merges_14 ?_
  refine q_callVS C (sp_X7_findsMoves G _ (m := 223) ha.1 ha.2 hc.1 hc.2 rfl (by decide) (by omega) (by omega) (ro_n f1 hr (by omega)) (ro_n f1 hsv (by omega)) ht hv) vX7_findsMoves lk_X7_150 rfl (by decide) rfl rfl (Nat.le_of_ble_eq_true rfl) (by decide) dX7_merges_17 (fun M2 hM2 => ?_)
  obtain ⟨f2, rfl, hf2⟩ := hM2
  refine j_aload_n C dX7_merges_20 rfl ?_
  refine j_iconst C (v := nI 0) dX7_merges_21 rfl ?_
  refine q_putI C fX7 12 rfl (by decide) (by decide) lf_X7_154 rfl rfl rfl (Nat.le_of_ble_eq_true rfl) rfl dX7_merges_22 ?_
  refine j_iconst C (v := nI 0) dX7_merges_25 rfl ?_
  refine j_istore C dX7_merges_26 (by decide) rfl ?_
  have K28 : ∀ i, i ≤ 8 → ∀ M3, gMg M M3 → gRo M3 222 (moves t u) → gRo M3 223 (moves t v) → M3.2.2.1 156 12 = nI 0 → (∀ p, p < i → M3.1 225 p = 0 ∧ M3.1 224 p = -1) → Q G X 0 0 28 [some (.ref (gb G + 156)), some (.ref (gb G + a)), some (.ref (gb G + b)), some (.ref (gb G + c)), some (.int (nI i)), none, none] [] (M3) := by
    refine g_up _ _ (fun i hi ih => ?_)
    intro M3 s3 m1 m2 f3 a3
    refine j_iload C dX7_merges_28 rfl ?_
    refine j_bipush C (v := nI 8) dX7_merges_30 rfl ?_
    refine q_icmp_ge C 57 dX7_merges_32 (by decide) (by omega) (by omega) (fun h32 => ?_) (fun h32 => ?_)
    · refine j_iconst C (v := nI 0) dX7_merges_57 rfl ?_
      refine j_istore C dX7_merges_58 (by decide) rfl ?_
      have K60 : ∀ i, i ≤ 8 → ∀ M4, gMg M M4 → gRo M4 222 (moves t u) → gRo M4 223 (moves t v) → gAr t u v 225 224 M4 i 0 0 → M4.2.2.1 156 12 = nI (cntN (flC t u v) i) → Q G X 0 0 60 [some (.ref (gb G + 156)), some (.ref (gb G + a)), some (.ref (gb G + b)), some (.ref (gb G + c)), some (.int (nI i)), none, none] [] (M4) := by
        refine g_up _ _ (fun i hi ih => ?_)
        intro M4 s4 m1 m2 a4 f4
        refine j_iload C dX7_merges_60 rfl ?_
        refine j_bipush C (v := nI 8) dX7_merges_62 rfl ?_
        refine q_icmp_ge C 107 dX7_merges_64 (by decide) (by omega) (by omega) (fun h64 => ?_) (fun h64 => ?_)
        · refine j_iconst C (v := nI 0) dX7_merges_107 rfl ?_
          refine j_istore C dX7_merges_108 (by decide) rfl ?_
          have K110 : ∀ i, i ≤ 8 → ∀ M5, gMg M M5 → gRo M5 222 (moves t u) → gRo M5 223 (moves t v) → gAr t u v 225 224 M5 8 i i → M5.2.2.1 156 12 = nI (cntN (flC t u v) 8) → Q G X 0 0 110 [some (.ref (gb G + 156)), some (.ref (gb G + a)), some (.ref (gb G + b)), some (.ref (gb G + c)), some (.int (nI i)), none, none] [] (M5) := by
            refine g_up _ _ (fun i hi ih => ?_)
            intro M5 s5 m1 m2 a5 f5
            refine j_iload C dX7_merges_110 rfl ?_
            refine j_bipush C (v := nI 8) dX7_merges_112 rfl ?_
            refine q_icmp_ge C 195 dX7_merges_114 (by decide) (by omega) (by omega) (fun h114 => ?_) (fun h114 => ?_)
            · refine j_iconst C (v := nI 0) dX7_merges_195 rfl ?_
              refine j_istore C dX7_merges_196 (by decide) rfl ?_
              have K198 : ∀ i, i ≤ 8 → ∀ M7, gMg M M7 → gAr t u v 225 224 M7 8 8 8 → M7.2.2.1 156 12 = nI (cntN (flC t u v) 8 + cntN (fun q => decide (1 < arN t u v 8 8 8 q)) i) → Q G X 0 0 198 [some (.ref (gb G + 156)), some (.ref (gb G + a)), some (.ref (gb G + b)), some (.ref (gb G + c)), some (.int (nI i)), none, none] [] (M7) := by
                refine g_up _ _ (fun i hi ih => ?_)
                intro M7 s7 a7 f7
                refine j_iload C dX7_merges_198 rfl ?_
                refine j_bipush C (v := nI 8) dX7_merges_200 rfl ?_
                refine q_icmp_ge C 236 dX7_merges_202 (by decide) (by omega) (by omega) (fun h202 => ?_) (fun h202 => ?_)
                · refine j_aload_n C dX7_merges_236 rfl ?_
                  refine q_get C fX7 12 rfl (by decide) (by decide) lf_X7_154 rfl rfl dX7_merges_237 ?_
                  exact q_iretS C CM rfl (by decide) (by decide) dX7_merges_240 (by rw [f7, show i = 8 by omega]; rfl) ⟨s7, fun h0 => ar_res (by exact a7) h0⟩
                · refine j_aload_n C dX7_merges_205 rfl ?_
                  refine j_dup C dX7_merges_206 rfl ?_
                  refine q_get C fX7 12 rfl (by decide) (by decide) lf_X7_154 rfl rfl dX7_merges_207 ?_
                  rw [f7]
                  refine j_aload_n C dX7_merges_210 rfl ?_
                  refine q_get C fX7 11 rfl (by decide) (by decide) lf_X7_40 rfl rfl dX7_merges_211 ?_
                  refine j_iload C dX7_merges_214 rfl ?_
                  refine q_iald C rfl (by decide) (by decide) (by omega) dX7_merges_216 ?_
                  rw [(a7 i h202).1]
                  have hq := arN_le t u v (i := 8) (j := 8) (k := 8) (q := i) (Nat.le_refl 8)
                  refine j_iconst C (v := nI 1) dX7_merges_217 rfl ?_
                  refine q_icmp_le C 225 dX7_merges_218 (by decide) (by omega) (by omega) (fun h218 => ?_) (fun h218 => ?_)
                  · refine j_iconst C (v := nI 0) dX7_merges_225 rfl ?_
                    refine q_iadd C dX7_merges_226 ?_
                    refine q_putI C fX7 12 rfl (by decide) (by decide) lf_X7_154 rfl rfl rfl (Nat.le_of_ble_eq_true rfl) rfl dX7_merges_227 ?_
                    refine q_iinc C dX7_merges_230 rfl (by decide) rfl ?_
                    refine j_goto C 198 dX7_merges_233 ?_ (by decide)
                    exact q_cast (ih (by omega) _ (mg_trans s7 (mg_sF _ _)) (ar_same a7 (fun _ => rfl) (fun _ => rfl)) (by first | (rw [sF_at, cnt_t (P := (fun q => decide (1 < arN t u v 8 8 8 q))) (decide_eq_true h218)]; rfl) | (rw [sF_at, cnt_f (P := (fun q => decide (1 < arN t u v 8 8 8 q))) (decide_eq_false (by omega))]; rfl))) (gLe_c rfl (gLe_c rfl (gLe_c rfl (gLe_c rfl (gLe_c rfl (gLe_n (gLe_n gLe_0))))))) (rfl)
                  · refine j_iconst C (v := nI 1) dX7_merges_221 rfl ?_
                    refine j_goto C 226 dX7_merges_222 ?_ (by decide)
                    refine q_iadd C dX7_merges_226 ?_
                    refine q_putI C fX7 12 rfl (by decide) (by decide) lf_X7_154 rfl rfl rfl (Nat.le_of_ble_eq_true rfl) rfl dX7_merges_227 ?_
                    refine q_iinc C dX7_merges_230 rfl (by decide) rfl ?_
                    refine j_goto C 198 dX7_merges_233 ?_ (by decide)
                    exact q_cast (ih (by omega) _ (mg_trans s7 (mg_sF _ _)) (ar_same a7 (fun _ => rfl) (fun _ => rfl)) (by first | (rw [sF_at, cnt_t (P := (fun q => decide (1 < arN t u v 8 8 8 q))) (decide_eq_true h218)]; rfl) | (rw [sF_at, cnt_f (P := (fun q => decide (1 < arN t u v 8 8 8 q))) (decide_eq_false (by omega))]; rfl))) (gLe_c rfl (gLe_c rfl (gLe_c rfl (gLe_c rfl (gLe_c rfl (gLe_n (gLe_n gLe_0))))))) (rfl)
              exact q_cast (K198 0 (by omega) _ s5 (by rw [show i = 8 by omega] at a5; exact a5) f5) (gLe_c rfl (gLe_c rfl (gLe_c rfl (gLe_c rfl (gLe_c rfl (gLe_n (gLe_n gLe_0))))))) (rfl)
            · have hr5 := mg_ro hr s5 ha3
              have hb5 := mg_ro hsu s5 hb3
              have hc5 := mg_ro hsv s5 hc3
              refine j_aload_n C dX7_merges_117 rfl ?_
              refine j_aload_n C dX7_merges_118 rfl ?_
              refine j_aload_n C dX7_merges_119 rfl ?_
              refine q_get C fX7 8 rfl (by decide) (by decide) lf_X7_31 rfl rfl dX7_merges_120 ?_
              refine j_iload C dX7_merges_123 rfl ?_
              refine q_callS C (sp_X7_isNew G M5 ha hb (m := 222) ⟨rfl, by decide⟩ hr5 hb5 m1 ht hu (fun p w h1 h2 => (mv_all t u p w h1 h2).1) h114) vX7_isNew lk_X7_161 rfl rfl (Nat.le_of_ble_eq_true rfl) (by decide) dX7_merges_125 ?_
              refine j_istore C dX7_merges_128 (by decide) rfl ?_
              refine j_aload_n C dX7_merges_130 rfl ?_
              refine j_aload_n C dX7_merges_131 rfl ?_
              refine j_aload_n C dX7_merges_132 rfl ?_
              refine q_get C fX7 9 rfl (by decide) (by decide) lf_X7_34 rfl rfl dX7_merges_133 ?_
              refine j_iload C dX7_merges_136 rfl ?_
              refine q_callS C (sp_X7_isNew G M5 ha hc (m := 223) ⟨rfl, by decide⟩ hr5 hc5 m2 ht hv (fun p w h1 h2 => (mv_all t v p w h1 h2).1) h114) vX7_isNew lk_X7_161 rfl rfl (Nat.le_of_ble_eq_true rfl) (by decide) dX7_merges_138 ?_
              refine j_istore C dX7_merges_141 (by decide) rfl ?_
              refine j_iload C dX7_merges_143 rfl ?_
              refine q_if_eq0 C 158 dX7_merges_145 (by decide) (fun h145 => ?_) (fun h145 => ?_)
              · refine j_iload C dX7_merges_158 rfl ?_
                refine q_if_eq0 C 189 dX7_merges_160 (by decide) (fun h160 => ?_) (fun h160 => ?_)
                · refine q_iinc C dX7_merges_189 rfl (by decide) rfl ?_
                  refine j_goto C 110 dX7_merges_192 ?_ (by decide)
                  have nw := nw_ok a5 (by first | exact Or.inl ⟨n1_f h145, rfl⟩ | exact Or.inr ⟨_, n1_t h145, rfl⟩) (by first | exact Or.inl ⟨Or.inl (n1_f h160), rfl⟩ | exact Or.inl ⟨Or.inr (nw_eq h145 h160 (Nat.lt_trans (gv_lt hu h114) (by decide)) (Nat.lt_trans (gv_lt hv h114) (by decide)) h176), rfl⟩ | exact Or.inr ⟨_, n1_t h160, by first | exact nw_ne1 h145 h160 | exact nw_ne2 h145 h160 h176, rfl⟩)
                  exact q_cast (ih (by omega) _ (mg_trans s5 (mg_sc nw.1 (by decide) (by decide))) (ro_sc m1 nw.1 (by decide)) (ro_sc m2 nw.1 (by decide)) nw.2 f5) (gLe_c rfl (gLe_c rfl (gLe_c rfl (gLe_c rfl (gLe_c rfl (gLe_n (gLe_n gLe_0))))))) (rfl)
                · refine j_iload C dX7_merges_163 rfl ?_
                  refine j_if_eq C 179 dX7_merges_165 (fun _ => ?_) (fun h => absurd (by rw [h145]; decide) h) (by decide)
                  refine j_aload_n C dX7_merges_179 rfl ?_
                  refine j_iload C dX7_merges_180 rfl ?_
                  refine j_aload_n C dX7_merges_182 rfl ?_
                  refine j_iload C dX7_merges_183 rfl ?_
                  refine q_iald C hc.1 hc.2 (by decide) (by omega) dX7_merges_185 ?_
                  first | rw [hc5 i h114, oI_gv (cm_iff.mp h160).2.1] | rw [ro_sc hc5 (cm_sc M5 i (nI (gv u i))) (by omega) i h114, oI_gv (cm_iff.mp h160).2.1]
                  refine q_callV C (sp_X7_comes G _ h114 (nI (gv v i))) vX7_comes lk_X7_146 rfl (by decide) rfl rfl (Nat.le_of_ble_eq_true rfl) (by decide) dX7_merges_186 ?_
                  refine q_iinc C dX7_merges_189 rfl (by decide) rfl ?_
                  refine j_goto C 110 dX7_merges_192 ?_ (by decide)
                  have nw := nw_ok a5 (by first | exact Or.inl ⟨n1_f h145, rfl⟩ | exact Or.inr ⟨_, n1_t h145, rfl⟩) (by first | exact Or.inl ⟨Or.inl (n1_f h160), rfl⟩ | exact Or.inl ⟨Or.inr (nw_eq h145 h160 (Nat.lt_trans (gv_lt hu h114) (by decide)) (Nat.lt_trans (gv_lt hv h114) (by decide)) h176), rfl⟩ | exact Or.inr ⟨_, n1_t h160, by first | exact nw_ne1 h145 h160 | exact nw_ne2 h145 h160 h176, rfl⟩)
                  exact q_cast (ih (by omega) _ (mg_trans s5 (mg_sc nw.1 (by decide) (by decide))) (ro_sc m1 nw.1 (by decide)) (ro_sc m2 nw.1 (by decide)) nw.2 f5) (gLe_c rfl (gLe_c rfl (gLe_c rfl (gLe_c rfl (gLe_c rfl (gLe_n (gLe_n gLe_0))))))) (rfl)
              · refine j_aload_n C dX7_merges_148 rfl ?_
                refine j_iload C dX7_merges_149 rfl ?_
                refine j_aload_n C dX7_merges_151 rfl ?_
                refine j_iload C dX7_merges_152 rfl ?_
                refine q_iald C hb.1 hb.2 (by decide) (by omega) dX7_merges_154 ?_
                rw [hb5 i h114, oI_gv (cm_iff.mp h145).2.1]
                refine q_callV C (sp_X7_comes G M5 h114 (nI (gv u i))) vX7_comes lk_X7_146 rfl (by decide) rfl rfl (Nat.le_of_ble_eq_true rfl) (by decide) dX7_merges_155 ?_
                refine j_iload C dX7_merges_158 rfl ?_
                refine q_if_eq0 C 189 dX7_merges_160 (by decide) (fun h160 => ?_) (fun h160 => ?_)
                · refine q_iinc C dX7_merges_189 rfl (by decide) rfl ?_
                  refine j_goto C 110 dX7_merges_192 ?_ (by decide)
                  have nw := nw_ok a5 (by first | exact Or.inl ⟨n1_f h145, rfl⟩ | exact Or.inr ⟨_, n1_t h145, rfl⟩) (by first | exact Or.inl ⟨Or.inl (n1_f h160), rfl⟩ | exact Or.inl ⟨Or.inr (nw_eq h145 h160 (Nat.lt_trans (gv_lt hu h114) (by decide)) (Nat.lt_trans (gv_lt hv h114) (by decide)) h176), rfl⟩ | exact Or.inr ⟨_, n1_t h160, by first | exact nw_ne1 h145 h160 | exact nw_ne2 h145 h160 h176, rfl⟩)
                  exact q_cast (ih (by omega) _ (mg_trans s5 (mg_sc nw.1 (by decide) (by decide))) (ro_sc m1 nw.1 (by decide)) (ro_sc m2 nw.1 (by decide)) nw.2 f5) (gLe_c rfl (gLe_c rfl (gLe_c rfl (gLe_c rfl (gLe_c rfl (gLe_n (gLe_n gLe_0))))))) (rfl)
                · refine j_iload C dX7_merges_163 rfl ?_
                  refine j_if_eq C 179 dX7_merges_165 (fun h => absurd h (by rw [h145]; decide)) (fun _ => ?_) (by decide)
                  refine j_aload_n C dX7_merges_168 rfl ?_
                  refine j_iload C dX7_merges_169 rfl ?_
                  refine q_iald C hb.1 hb.2 (by decide) (by omega) dX7_merges_171 ?_
                  rw [ro_sc hb5 (cm_sc M5 i (nI (gv u i))) (by omega) i h114, oI_gv (cm_iff.mp h145).2.1]
                  refine j_aload_n C dX7_merges_172 rfl ?_
                  refine j_iload C dX7_merges_173 rfl ?_
                  refine q_iald C hc.1 hc.2 (by decide) (by omega) dX7_merges_175 ?_
                  rw [ro_sc hc5 (cm_sc M5 i (nI (gv u i))) (by omega) i h114, oI_gv (cm_iff.mp h160).2.1]
                  refine j_icmp_eq C 189 dX7_merges_176 (fun h176 => ?_) (fun h176 => ?_) (by decide)
                  · refine q_iinc C dX7_merges_189 rfl (by decide) rfl ?_
                    refine j_goto C 110 dX7_merges_192 ?_ (by decide)
                    have nw := nw_ok a5 (by first | exact Or.inl ⟨n1_f h145, rfl⟩ | exact Or.inr ⟨_, n1_t h145, rfl⟩) (by first | exact Or.inl ⟨Or.inl (n1_f h160), rfl⟩ | exact Or.inl ⟨Or.inr (nw_eq h145 h160 (Nat.lt_trans (gv_lt hu h114) (by decide)) (Nat.lt_trans (gv_lt hv h114) (by decide)) h176), rfl⟩ | exact Or.inr ⟨_, n1_t h160, by first | exact nw_ne1 h145 h160 | exact nw_ne2 h145 h160 h176, rfl⟩)
                    exact q_cast (ih (by omega) _ (mg_trans s5 (mg_sc nw.1 (by decide) (by decide))) (ro_sc m1 nw.1 (by decide)) (ro_sc m2 nw.1 (by decide)) nw.2 f5) (gLe_c rfl (gLe_c rfl (gLe_c rfl (gLe_c rfl (gLe_c rfl (gLe_n (gLe_n gLe_0))))))) (rfl)
                  · refine j_aload_n C dX7_merges_179 rfl ?_
                    refine j_iload C dX7_merges_180 rfl ?_
                    refine j_aload_n C dX7_merges_182 rfl ?_
                    refine j_iload C dX7_merges_183 rfl ?_
                    refine q_iald C hc.1 hc.2 (by decide) (by omega) dX7_merges_185 ?_
                    first | rw [hc5 i h114, oI_gv (cm_iff.mp h160).2.1] | rw [ro_sc hc5 (cm_sc M5 i (nI (gv u i))) (by omega) i h114, oI_gv (cm_iff.mp h160).2.1]
                    refine q_callV C (sp_X7_comes G _ h114 (nI (gv v i))) vX7_comes lk_X7_146 rfl (by decide) rfl rfl (Nat.le_of_ble_eq_true rfl) (by decide) dX7_merges_186 ?_
                    refine q_iinc C dX7_merges_189 rfl (by decide) rfl ?_
                    refine j_goto C 110 dX7_merges_192 ?_ (by decide)
                    have nw := nw_ok a5 (by first | exact Or.inl ⟨n1_f h145, rfl⟩ | exact Or.inr ⟨_, n1_t h145, rfl⟩) (by first | exact Or.inl ⟨Or.inl (n1_f h160), rfl⟩ | exact Or.inl ⟨Or.inr (nw_eq h145 h160 (Nat.lt_trans (gv_lt hu h114) (by decide)) (Nat.lt_trans (gv_lt hv h114) (by decide)) h176), rfl⟩ | exact Or.inr ⟨_, n1_t h160, by first | exact nw_ne1 h145 h160 | exact nw_ne2 h145 h160 h176, rfl⟩)
                    exact q_cast (ih (by omega) _ (mg_trans s5 (mg_sc nw.1 (by decide) (by decide))) (ro_sc m1 nw.1 (by decide)) (ro_sc m2 nw.1 (by decide)) nw.2 f5) (gLe_c rfl (gLe_c rfl (gLe_c rfl (gLe_c rfl (gLe_c rfl (gLe_n (gLe_n gLe_0))))))) (rfl)
          exact q_cast (K110 0 (by omega) _ s4 m1 m2 (by rw [show i = 8 by omega] at a4; exact a4) (by rw [show i = 8 by omega] at f4; exact f4)) (gLe_c rfl (gLe_c rfl (gLe_c rfl (gLe_c rfl (gLe_c rfl (gLe_n (gLe_n gLe_0))))))) (rfl)
        · have hr4 := mg_ro hr s4 ha3
          have hb4 := mg_ro hsu s4 hb3
          have hc4 := mg_ro hsv s4 hc3
          refine j_aload_n C dX7_merges_67 rfl ?_
          refine j_dup C dX7_merges_68 rfl ?_
          refine q_get C fX7 12 rfl (by decide) (by decide) lf_X7_154 rfl rfl dX7_merges_69 ?_
          rw [f4]
          refine j_aload_n C dX7_merges_72 rfl ?_
          refine j_iload C dX7_merges_73 rfl ?_
          refine q_iald C ha.1 ha.2 (by decide) (by omega) dX7_merges_75 ?_
          rw [hr4 i h64]
          refine j_iconst C (v := -1) dX7_merges_76 rfl ?_
          refine q_icmp_eqN C 96 dX7_merges_77 (by decide) (nI_lt8 ht h64) (fun h77 => ?_) (fun v77 h77 => ?_)
          · refine j_iconst C (v := nI 0) dX7_merges_96 rfl ?_
            refine q_iadd C dX7_merges_97 ?_
            refine q_putI C fX7 12 rfl (by decide) (by decide) lf_X7_154 rfl rfl rfl (Nat.le_of_ble_eq_true rfl) rfl dX7_merges_98 ?_
            refine q_iinc C dX7_merges_101 rfl (by decide) rfl ?_
            refine j_goto C 60 dX7_merges_104 ?_ (by decide)
            exact q_cast (ih (by omega) _ (by first | exact mg_trans s4 (mg_trans (mg_sc hM5.1 (by decide) (by decide)) (mg_sF _ _)) | exact mg_trans s4 (mg_sF _ _)) (by first | exact ro_sc (M' := M5) m1 hM5.1 (by decide) | exact m1) (by first | exact ro_sc (M' := M5) m2 hM5.1 (by decide) | exact m2) (by first | exact ar_same hM5.2 (fun _ => rfl) (fun _ => rfl) | exact ar_same (ar_E0 a4 (fl_no h77).2) (fun _ => rfl) (fun _ => rfl)) (by first | (rw [sF_at, cnt_t (show flC t u v i = true by cases e : flC t u v i; (rw [e] at h89; cases h89); rfl)]) | (rw [sF_at, cnt_f (show flC t u v i = false by cases e : flC t u v i; rfl; (rw [e] at h89; cases h89))]; rfl) | (rw [sF_at, cnt_f (fl_no h77).1]; rfl))) (gLe_c rfl (gLe_c rfl (gLe_c rfl (gLe_c rfl (gLe_c rfl (gLe_n (gLe_n gLe_0))))))) (rfl)
          · refine j_aload_n C dX7_merges_80 rfl ?_
            refine j_aload_n C dX7_merges_81 rfl ?_
            refine j_aload_n C dX7_merges_82 rfl ?_
            refine j_aload_n C dX7_merges_83 rfl ?_
            refine j_iload C dX7_merges_84 rfl ?_
            refine q_callVS C (sp_X7_follows G M4 ha hb hc hr4 hb4 hc4 m1 m2 ht hu hv h64 (oI_is h77) a4) vX7_follows lk_X7_157 rfl (by decide) rfl rfl (Nat.le_of_ble_eq_true rfl) (by decide) dX7_merges_86 (fun M5 hM5 => ?_)
            refine q_if_ne0 C 96 dX7_merges_89 (by decide) (fun h89 => ?_) (fun h89 => ?_)
            · refine j_iconst C (v := nI 0) dX7_merges_96 rfl ?_
              refine q_iadd C dX7_merges_97 ?_
              refine q_putI C fX7 12 rfl (by decide) (by decide) lf_X7_154 rfl rfl rfl (Nat.le_of_ble_eq_true rfl) rfl dX7_merges_98 ?_
              refine q_iinc C dX7_merges_101 rfl (by decide) rfl ?_
              refine j_goto C 60 dX7_merges_104 ?_ (by decide)
              exact q_cast (ih (by omega) _ (by first | exact mg_trans s4 (mg_trans (mg_sc hM5.1 (by decide) (by decide)) (mg_sF _ _)) | exact mg_trans s4 (mg_sF _ _)) (by first | exact ro_sc (M' := M5) m1 hM5.1 (by decide) | exact m1) (by first | exact ro_sc (M' := M5) m2 hM5.1 (by decide) | exact m2) (by first | exact ar_same hM5.2 (fun _ => rfl) (fun _ => rfl) | exact ar_same (ar_E0 a4 (fl_no h77).2) (fun _ => rfl) (fun _ => rfl)) (by first | (rw [sF_at, cnt_t (show flC t u v i = true by cases e : flC t u v i; (rw [e] at h89; cases h89); rfl)]) | (rw [sF_at, cnt_f (show flC t u v i = false by cases e : flC t u v i; rfl; (rw [e] at h89; cases h89))]; rfl) | (rw [sF_at, cnt_f (fl_no h77).1]; rfl))) (gLe_c rfl (gLe_c rfl (gLe_c rfl (gLe_c rfl (gLe_c rfl (gLe_n (gLe_n gLe_0))))))) (rfl)
            · refine j_iconst C (v := nI 1) dX7_merges_92 rfl ?_
              refine j_goto C 97 dX7_merges_93 ?_ (by decide)
              refine q_iadd C dX7_merges_97 ?_
              refine q_putI C fX7 12 rfl (by decide) (by decide) lf_X7_154 rfl rfl rfl (Nat.le_of_ble_eq_true rfl) rfl dX7_merges_98 ?_
              refine q_iinc C dX7_merges_101 rfl (by decide) rfl ?_
              refine j_goto C 60 dX7_merges_104 ?_ (by decide)
              exact q_cast (ih (by omega) _ (by first | exact mg_trans s4 (mg_trans (mg_sc hM5.1 (by decide) (by decide)) (mg_sF _ _)) | exact mg_trans s4 (mg_sF _ _)) (by first | exact ro_sc (M' := M5) m1 hM5.1 (by decide) | exact m1) (by first | exact ro_sc (M' := M5) m2 hM5.1 (by decide) | exact m2) (by first | exact ar_same hM5.2 (fun _ => rfl) (fun _ => rfl) | exact ar_same (ar_E0 a4 (fl_no h77).2) (fun _ => rfl) (fun _ => rfl)) (by first | (rw [sF_at, cnt_t (show flC t u v i = true by cases e : flC t u v i; (rw [e] at h89; cases h89); rfl)]) | (rw [sF_at, cnt_f (show flC t u v i = false by cases e : flC t u v i; rfl; (rw [e] at h89; cases h89))]; rfl) | (rw [sF_at, cnt_f (fl_no h77).1]; rfl))) (gLe_c rfl (gLe_c rfl (gLe_c rfl (gLe_c rfl (gLe_c rfl (gLe_n (gLe_n gLe_0))))))) (rfl)
      exact q_cast (K60 0 (by omega) _ s3 m1 m2 (ar_0 (by rw [show i = 8 by omega] at a3; exact a3)) f3) (gLe_c rfl (gLe_c rfl (gLe_c rfl (gLe_c rfl (gLe_c rfl (gLe_n (gLe_n gLe_0))))))) (rfl)
    · refine j_aload_n C dX7_merges_35 rfl ?_
      refine q_get C fX7 10 rfl (by decide) (by decide) lf_X7_37 rfl rfl dX7_merges_36 ?_
      refine j_iload C dX7_merges_39 rfl ?_
      refine j_iconst C (v := -1) dX7_merges_41 rfl ?_
      refine q_iast C rfl (by decide) (by decide) (by omega) dX7_merges_42 ?_
      refine j_aload_n C dX7_merges_43 rfl ?_
      refine q_get C fX7 11 rfl (by decide) (by decide) lf_X7_40 rfl rfl dX7_merges_44 ?_
      refine j_iload C dX7_merges_47 rfl ?_
      refine j_iconst C (v := nI 0) dX7_merges_49 rfl ?_
      refine q_iast C rfl (by decide) (by decide) (by omega) dX7_merges_50 ?_
      refine q_iinc C dX7_merges_51 rfl (by decide) rfl ?_
      refine j_goto C 28 dX7_merges_54 ?_ (by decide)
      exact q_cast (ih (by omega) _ (mg_trans s3 (mg_trans (mg_sI M3 _ (by decide)) (mg_sI _ _ (by decide)))) (ro_n _ (ro_n _ m1 (by decide)) (by decide)) (ro_n _ (ro_n _ m2 (by decide)) (by decide)) f3 (mrg_ini2 a3)) (gLe_c rfl (gLe_c rfl (gLe_c rfl (gLe_c rfl (gLe_c rfl (gLe_n (gLe_n gLe_0))))))) (rfl)
  exact q_cast (K28 0 (by omega) _ (mg_trans (mg_trans (mg_sI M f1 (by decide)) (mg_sI _ f2 (by decide))) (mg_sF _ _)) (ro_n f2 (ro_sI hf1) (by decide)) (ro_sI hf2) (sF_at _ _ _ _) (fun p hp => absurd hp (by omega))) (gLe_c rfl (gLe_c rfl (gLe_c rfl (gLe_c rfl (gLe_c rfl (gLe_n (gLe_n gLe_0))))))) (rfl)
