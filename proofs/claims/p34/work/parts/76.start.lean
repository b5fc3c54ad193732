/-! what the start gives -/
theorem g_tbl {w : Cond} (h : w ∈ gw) : w ∈ lw_tbl := (List.mem_filter.mp h).1
theorem vw_none (n : Nat) : vwCl[n + 8]? = none := List.getElem?_eq_none (Nat.le_add_left 8 n)
set_option maxRecDepth 100000 in
theorem g_cls {s : State} {args : Array Value} (hts : ∀ w ∈ lw_tbl, w.before args s = true) : ∃ D : va_G, ∀ (c : Nat) (q : vw_C), vwCl[c]? = some q → u_Kn s q.1 q.2.1 q.2.2 (D.1 c) (D.2 c) := by
  have k0 : ∃ (cC : ClassId) (iS : Nat → Nat), u_Kn s RJ0 TJ0 2 cC iS := u_known hts (by decide +kernel) (hts (.instantiable RJ0 4) (by decide +kernel))
  have k1 : ∃ (cC : ClassId) (iS : Nat → Nat), u_Kn s RJx00060 TJx00060 6 cC iS := u_known hts (by decide +kernel) (hts (.instantiable RJx00060 6) (by decide +kernel))
  have kX0 : ∃ (cC : ClassId) (iS : Nat → Nat), u_Kn s RX0 TX0 4 cC iS := u_known hts (fun w h => g_tbl (fX0.2.1 w h)) (hts _ (g_tbl nX0))
  have kX1 : ∃ (cC : ClassId) (iS : Nat → Nat), u_Kn s RX1 TX1 8 cC iS := u_known hts (fun w h => g_tbl (fX1.2.1 w h)) (hts _ (g_tbl nX1))
  have kX3 : ∃ (cC : ClassId) (iS : Nat → Nat), u_Kn s RX3 TX3 6 cC iS := u_known hts (fun w h => g_tbl (fX3.2.1 w h)) (hts _ (g_tbl nX3))
  have kX4 : ∃ (cC : ClassId) (iS : Nat → Nat), u_Kn s RX4 TX4 1 cC iS := u_known hts (fun w h => g_tbl (fX4.2.1 w h)) (hts _ (g_tbl nX4))
  have kX5 : ∃ (cC : ClassId) (iS : Nat → Nat), u_Kn s RX5 TX5 5 cC iS := u_known hts (fun w h => g_tbl (fX5.2.1 w h)) (hts _ (g_tbl nX5))
  have kX6 : ∃ (cC : ClassId) (iS : Nat → Nat), u_Kn s RX6 TX6 7 cC iS := u_known hts (fun w h => g_tbl (fX6.2.1 w h)) (hts _ (g_tbl nX6))
  have key : ∀ c : Nat, ∃ x : ClassId × (Nat → Nat), ∀ q : vw_C, vwCl[c]? = some q → u_Kn s q.1 q.2.1 q.2.2 x.1 x.2 := fun c => match c with
    | 0 => k0.elim fun cC h => h.elim fun iS h => ⟨(cC, iS), fun q hq => by cases hq; exact h⟩
    | 1 => k1.elim fun cC h => h.elim fun iS h => ⟨(cC, iS), fun q hq => by cases hq; exact h⟩
    | 2 => kX0.elim fun cC h => h.elim fun iS h => ⟨(cC, iS), fun q hq => by cases hq; exact h⟩
    | 3 => kX1.elim fun cC h => h.elim fun iS h => ⟨(cC, iS), fun q hq => by cases hq; exact h⟩
    | 4 => kX3.elim fun cC h => h.elim fun iS h => ⟨(cC, iS), fun q hq => by cases hq; exact h⟩
    | 5 => kX4.elim fun cC h => h.elim fun iS h => ⟨(cC, iS), fun q hq => by cases hq; exact h⟩
    | 6 => kX5.elim fun cC h => h.elim fun iS h => ⟨(cC, iS), fun q hq => by cases hq; exact h⟩
    | 7 => kX6.elim fun cC h => h.elim fun iS h => ⟨(cC, iS), fun q hq => by cases hq; exact h⟩
    | n + 8 => ⟨((0 : Nat), fun _ => 0), fun q hq => by rw [vw_none] at hq; cases hq⟩
  exact ⟨(fun c => (key c).choose.1, fun c => (key c).choose.2), fun c q hq => (key c).choose_spec q hq⟩
theorem g_arr1 {s : State} {args : Array Value} {t : FieldType} (h : (Cond.arrayClass t).before args s = true) (ho : ∀ C, t ≠ .object C) : ∃ c : ClassId, ArrOfT s c t ∧ va_RA s c t := by
  obtain ⟨c, k, comp, h1, h2, h3⟩ := Cond.arrayClass_spec h
  refine ⟨c, fun N z => ⟨(fun q hq => by cases hq), k, h2, comp, h3⟩, ?_⟩
  cases t <;> first | exact h1 | exact absurd rfl (ho _)
theorem g_arrT {s : State} (h : va_AO RX4 s) : ∃ c : ClassId, ArrOfT s c (.object RX4) ∧ va_RA s c (.object RX4) := by
  obtain ⟨comp, c, k, h1, h2, h3, h4, h5⟩ := Cond.arrayOver_spec h
  exact ⟨c, fun N z => ⟨(fun q hq => by cases hq), k, h3, comp, h4⟩, k, comp, h3, h4, h1, h5⟩
theorem g_str {own tx : String} {k : Nat} {s : State} {args : Array Value} (h : (Cond.stringRef own k tx).before args s = true) : ∃ a, vk_R own k tx a s := by
  have hcur : ∃ cur, s.vm.findClass own = some cur := by
    have h1 := h
    simp only [Cond.before, Cond.holds, Cond.value] at h1
    cases hc : s.vm.findClass own with
    | none => simp [hc] at h1
    | some cur => exact ⟨cur, rfl⟩
  obtain ⟨cur, hcur⟩ := hcur
  obtain ⟨_, _, _, a, _, _, _, _, _, he⟩ := Cond.stringRef_spec hcur h
  exact ⟨a, vk_R.of h he⟩
set_option maxRecDepth 100000 in
theorem m_str : ∀ q ∈ gStr, Cond.stringRef q.1 q.2.1 q.2.2 ∈ lw_tbl := by decide +kernel
set_option maxRecDepth 100000 in
theorem m_ca : ∀ q ∈ gCa, Cond.castable q.1 q.2 ∈ lw_tbl := by decide +kernel
set_option maxRecDepth 100000 in
theorem m_nc : ∀ q ∈ gNc, Cond.not (.castable q.1 q.2) ∈ flatC (Jvm.Cond.and given_1 narrow_1) := by decide +kernel
set_option maxRecDepth 100000 in
theorem m_dc : ∀ q ∈ gDc, Cond.declares q ∈ lw_tbl := by decide +kernel
set_option maxRecDepth 100000 in
theorem m_ao : Cond.arrayOver (.object RX4) ∈ lw_tbl := by decide +kernel
set_option maxRecDepth 100000 in
theorem m_st : Cond.laysStatic Bundle.tN "UNASSIGNED_STACK" Bundle.steD ∈ lw_tbl ∧ Cond.laysStatic Bundle.tN "SUPPRESSED_SENTINEL" Bundle.listD ∈ lw_tbl ∧ Cond.initialized Bundle.tN ∈ lw_tbl := by decide +kernel
set_option maxRecDepth 100000 in
theorem m_sr : Cond.isRef (.static Bundle.tN "UNASSIGNED_STACK" Bundle.steD) ∈ flatC (Jvm.Cond.and given_1 narrow_1) ∧ Cond.isRef (.static Bundle.tN "SUPPRESSED_SENTINEL" Bundle.listD) ∈ flatC (Jvm.Cond.and given_1 narrow_1) := by decide +kernel
theorem g_env {l : Launch} (hflags : l.flags = flags0) {s : State} {args : Array Value} (hts : ∀ w ∈ lw_tbl, w.before args s = true) (hgv : (Jvm.Cond.and given_1 narrow_1).before args s = true) {b L : Nat} {sx : Nat → Int32} (hX : va_X b L sx s s.heap) (hb : b < s.heap.size) : ∃ (D : va_G) (tf : Nat → ClassId), gU (l, D, tf, s.heap.size, b, L, sx) s ∧ gZ (l, D, tf, s.heap.size, b, L, sx) s s.heap := by
  obtain ⟨D, hD⟩ := g_cls hts
  have hf := flat_of_before _ hgv
  have a4 : va_AO RX4 s := hts _ m_ao
  obtain ⟨t0, h0⟩ := g_arr1 (hts _ (g_tbl na_int)) (fun C h => by cases h)
  obtain ⟨t1, h1⟩ := g_arr1 (hts _ (g_tbl na_long)) (fun C h => by cases h)
  obtain ⟨t2, h2⟩ := g_arrT a4
  refine ⟨D, fun k => match k with | 0 => t0 | 1 => t1 | _ => t2, ⟨⟨hD, fun k q hq => ?_⟩, ?_, fun q hq => g_str (hts _ (m_str q hq)), fun q hq => va_Nw.of rfl (hts _ (m_ca q hq)), fun q hq => va_Nc.of (hf _ (m_nc q hq)), fun q hq => va_Nw.of rfl (hts _ (m_dc q hq)), a4⟩, ?_, ?_, Nat.le_refl _, hb, hX⟩
  · match k, hq with
    | 0, hq => cases hq; exact h0
    | 1, hq => cases hq; exact h1
    | 2, hq => cases hq; exact h2
    | n + 3, hq =>
      have hn : (gT (l, D, (fun k : Nat => match k with | 0 => t0 | 1 => t1 | _ => t2), s.heap.size, b, L, sx))[n + 3]? = none := List.getElem?_eq_none (Nat.le_add_left 3 n)
      rw [hn] at hq
      cases hq
  · show (!l.flags.contains noTraceFlag) = false
    rw [hflags]
    decide +kernel
  · exact vx_Zqof (hts _ m_st.1) (hts _ m_st.2.2) (hf _ m_sr.1) (fun a ha => Nat.not_le.mpr ha)
  · exact vx_Zqof (hts _ m_st.2.1) (hts _ m_st.2.2) (hf _ m_sr.2) (fun a ha => Nat.not_le.mpr ha)
/-! the first state -/
def A00 : gSt0 := (1, fun _ => none, fun _ => none, fun _ _ => none, fun b => if b = 0 then some 0 else none, 0, fun _ => none)
theorem tn_none : gTn (fun _ => none) := fun _ _ _ h => by cases h
theorem ok_0 : gOk A00 := by
  refine ⟨⟨⟨Nat.le_refl 1, by decide⟩, ⟨fun c p h => (by cases h), fun c p h => (by cases h)⟩, fun c hc h0 => ?_, fun c => tn_none⟩, by decide, fun b h hb e => ?_, rfl, tn_none⟩
  · have : c < 1 := hc
    omega
  · have e : (if b = 0 then some 0 else none) = some h := e
    by_cases w : b = 0
    · rw [if_pos w] at e
      cases e
      exact Nat.zero_lt_one
    · rw [if_neg w] at e
      cases e
theorem pk_0 : pkN (aT A00) 0 = pkN (aT A00) 1 := rfl
theorem hd_A (b : Nat) (h : b < 5) : hdF 5 b = oI (aH A00 b) := by
  by_cases w : b = 0
  · subst w; rfl
  · show (if b = 0 then (0 : Int32) else ngF 5 b) = oI (if b = 0 then some 0 else none)
    rw [if_neg w, if_neg w, ng_lt h]
    rfl
theorem rc_0 : gRC A00 mM0 := by
  refine ⟨⟨rfl, fun c hc => ?_, fun c hc p hp => ?_⟩, ⟨fun b hb => hd_A b hb, rfl, fun p hp => ng_lt hp⟩, ⟨rfl, rfl, fun j hj => absurd hj (Nat.not_lt_zero _)⟩, 0, Nat.zero_le _, pk_0, rfl⟩
  · have hc : c < 1 := hc
    obtain rfl : c = 0 := by omega
    refine ⟨rfl, rfl, rfl, ?_⟩
    decide +kernel
  · have hc : c < 1 := hc
    obtain rfl : c = 0 := by omega
    exact ng_lt hp
theorem vv_0 : gVv A00 := ⟨⟨fun _ _ _ _ h => (by cases h), fun _ _ => rfl⟩, fun _ _ _ h => (by cases h), rfl⟩
set_option maxHeartbeats 4000000 in
set_option maxRecDepth 100000 in
/-- the law from its entry -/
theorem law_walk {G : gG} {X : gX} (LW : gLw G X) (hend : ∀ k n lv M, k ≤ 699478 → n ≤ 6993413 → Q G X k n 740 lv [.int (nI 1)] M) (σ : gE) : J G X true 0 0 0 0 (gEnt [.ref (gSb G)] 9) [] σ := by
  have C := LW.1
  refine j_new C fX6 lc_L_8 nX6 zX6 ffX6 (by decide) (by decide) dL_law_0 ?_
  refine j_dup C dL_law_3 rfl ?_
  refine j_callI (As := []) C (sp_X6_init G _ (va_up_self _ _ _)) mkr_no rfl rfl kX6_init iX6_init lk_L_154 rfl rfl (Nat.le_of_ble_eq_true rfl) ⟨⟨by decide, by decide⟩, by decide, by decide⟩ dL_law_4 (fun v N1 σ1 h => ?_)
  obtain ⟨h1, rfl, rfl⟩ := h
  cases h1
  refine j_astore_n C dL_law_7 (by decide) rfl ?_
  refine j_ex (j_sig (σ' := mkW G mM0) (fun a ha => ?_) ?_)
  · rw [ly_ge (Nat.zero_le a)]
  · refine j_aload_n C dL_law_8 rfl ?_
    refine j_iconst C (v := nI 0) dL_law_9 rfl ?_
    refine q_callS C (sp_L_at G mM0 LW.2 (k := 0) (by decide)) vL_at lk_L_155 rfl rfl (Nat.le_of_ble_eq_true rfl) ⟨⟨Nat.le_of_ble_eq_true rfl, Nat.le_of_ble_eq_true rfl⟩, Nat.le_of_ble_eq_true rfl, Nat.le_of_ble_eq_true rfl⟩ dL_law_10 ?_
    refine j_bipush C (v := nI 56) dL_law_13 rfl ?_
    refine q_callS C (sp_some G mM0 (atN G 0) (n := 56) (by decide) (by decide)) vL_some lk_L_75 rfl rfl (Nat.le_of_ble_eq_true rfl) ⟨⟨Nat.le_of_ble_eq_true rfl, Nat.le_of_ble_eq_true rfl⟩, Nat.le_of_ble_eq_true rfl, Nat.le_of_ble_eq_true rfl⟩ dL_law_15 ?_
    have hs : smN (atN G 0) 56 < 56 := (sm_eq _ (by decide) (by decide)).2
    refine j_istore_n C dL_law_18 (by decide) rfl ?_
    refine j_iconst C (v := nI 0) dL_law_19 rfl ?_
    refine j_istore_n C dL_law_20 (by decide) rfl ?_
    exact j_wide (k' := 160 + 5100 * 0) (n' := 2600 + 40800 * 0) (Nat.le_of_ble_eq_true rfl) (Nat.le_of_ble_eq_true rfl) (j_sub (gLe_c rfl (gLe_c rfl (gLe_c rfl (gLe_c rfl (gLe_n (gLe_n (gLe_n (gLe_n (gLe_n gLe_0))))))))) (law_loop LW (fun A M hO hV hC => law_end LW hend hO hV hC) hs 0 (Nat.zero_le _) A00 mM0 ok_0 vv_0 rc_0))
/-- the walk, for the machine -/
theorem whole_start {p : Program} {e : Env} {s : State} {m : MethodId} {below : List Frame} {meth : Method} {c : Code} (l : Launch) (hflags : l.flags = flags0) {b L : Nat} {xs : Nat → Int32} (hL : L ≤ 260) (C0 : lw_At p s m meth c b L xs) : W p l e room_1 s m #[Value.ref b] below meth c s.heap [] 0 0 (lw_Z below #[Value.ref b] s) (entryFrame m ([Value.ref b] : List Value).toArray 9) := by
  obtain ⟨hx, hb, hr, hml, hown, hts, hX, hbl, hlocks, hgv⟩ := C0
  obtain ⟨D, tf, hU, hZ⟩ := g_env hflags hts hgv hX hbl
  have C : gC (l, D, tf, s.heap.size, b, L, xs) (p, e, room_1, s, m, #[Value.ref b], below, meth, c, lw_Z below #[Value.ref b] s) RL cL_law 9 room_1 := ⟨hx, hb, hml, hown, fun w hw => hts w (g_tbl hw), hlocks, hU, hZ, rfl⟩
  have key := law_walk (G := (l, D, tf, s.heap.size, b, L, xs)) (X := (p, e, room_1, s, m, #[Value.ref b], below, meth, c, lw_Z below #[Value.ref b] s)) ⟨C, hL⟩ (fun k n lv M hk hn => ?_) (fun _ => .inr (0, []))
  · rw [lg_entry_eq]
    refine key s.heap [] _ ⟨fun i hi => absurd hi (Nat.not_lt_zero i), Nat.le_refl _, fun _ => rfl⟩ va_S.rf ?_
    have := gH_entry [Value.ref b] (n := 9) (Nat.le_of_ble_eq_true rfl)
    show gH _ c.maxLocals _
    rw [hml]
    exact this
  · intro H locs ls hW hS hl
    refine va_forget (fun q hq => hS.2.2 q hq) ?_
    refine W.widen hk hn ?_
    exact lw_ret hx hb hr hlocks dL_law_740
