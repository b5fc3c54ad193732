set_option maxRecDepth 100000 in
theorem xg_IOOB : ∀ w ∈ (vx_atS RX6 110 "java/lang/IndexOutOfBoundsException" ["java/lang/RuntimeException", "java/lang/Exception"]).filter goodWord, w ∈ gw := by decide +kernel
theorem xn_IOOB : ∀ w ∈ (vx_atS RX6 110 "java/lang/IndexOutOfBoundsException" ["java/lang/RuntimeException", "java/lang/Exception"]).filter (fun w => !goodWord w), w ∈ Cond.castable "java/lang/IndexOutOfBoundsException" "java/lang/IndexOutOfBoundsException" :: gDc.map Cond.declares := by decide +kernel
theorem xo_IOOB (ik : Nat) : ∀ w ∈ Cond.classLink RX6 ik "java/lang/IndexOutOfBoundsException" :: Cond.initialized "java/lang/IndexOutOfBoundsException" :: vx_atS RX6 110 "java/lang/IndexOutOfBoundsException" ["java/lang/RuntimeException", "java/lang/Exception"], vx_ot w = true := List.forall_mem_cons.mpr ⟨rfl, List.forall_mem_cons.mpr ⟨rfl, by decide +kernel⟩⟩
set_option maxRecDepth 100000 in
theorem xg_IAE : ∀ w ∈ (vx_atS RX6 56 "java/lang/IllegalArgumentException" ["java/lang/RuntimeException", "java/lang/Exception"]).filter goodWord, w ∈ gw := by decide +kernel
theorem xn_IAE : ∀ w ∈ (vx_atS RX6 56 "java/lang/IllegalArgumentException" ["java/lang/RuntimeException", "java/lang/Exception"]).filter (fun w => !goodWord w), w ∈ Cond.castable "java/lang/IllegalArgumentException" "java/lang/IllegalArgumentException" :: gDc.map Cond.declares := by decide +kernel
theorem xo_IAE (ik : Nat) : ∀ w ∈ Cond.classLink RX6 ik "java/lang/IllegalArgumentException" :: Cond.initialized "java/lang/IllegalArgumentException" :: vx_atS RX6 56 "java/lang/IllegalArgumentException" ["java/lang/RuntimeException", "java/lang/Exception"], vx_ot w = true := List.forall_mem_cons.mpr ⟨rfl, List.forall_mem_cons.mpr ⟨rfl, by decide +kernel⟩⟩
set_option maxRecDepth 100000 in
theorem xg_NSE : ∀ w ∈ (gx_at RX6 167 "java/util/NoSuchElementException" 13 prog_22_method_4_code ["java/lang/RuntimeException", "java/lang/Exception"]).filter goodWord, w ∈ gw := by decide +kernel
theorem xn_NSE : ∀ w ∈ (gx_at RX6 167 "java/util/NoSuchElementException" 13 prog_22_method_4_code ["java/lang/RuntimeException", "java/lang/Exception"]).filter (fun w => !goodWord w), w ∈ Cond.castable "java/util/NoSuchElementException" "java/util/NoSuchElementException" :: gDc.map Cond.declares := by decide +kernel
theorem xo_NSE (ik : Nat) : ∀ w ∈ Cond.classLink RX6 ik "java/util/NoSuchElementException" :: Cond.initialized "java/util/NoSuchElementException" :: gx_at RX6 167 "java/util/NoSuchElementException" 13 prog_22_method_4_code ["java/lang/RuntimeException", "java/lang/Exception"], vx_ot w = true := List.forall_mem_cons.mpr ⟨rfl, List.forall_mem_cons.mpr ⟨rfl, by decide +kernel⟩⟩
set_option maxRecDepth 100000 in
theorem xg_ISE : ∀ w ∈ (vx_atS RX6 75 "java/lang/IllegalStateException" ["java/lang/RuntimeException", "java/lang/Exception"]).filter goodWord, w ∈ gw := by decide +kernel
theorem xn_ISE : ∀ w ∈ (vx_atS RX6 75 "java/lang/IllegalStateException" ["java/lang/RuntimeException", "java/lang/Exception"]).filter (fun w => !goodWord w), w ∈ Cond.castable "java/lang/IllegalStateException" "java/lang/IllegalStateException" :: gDc.map Cond.declares := by decide +kernel
theorem xo_ISE (ik : Nat) : ∀ w ∈ Cond.classLink RX6 ik "java/lang/IllegalStateException" :: Cond.initialized "java/lang/IllegalStateException" :: vx_atS RX6 75 "java/lang/IllegalStateException" ["java/lang/RuntimeException", "java/lang/Exception"], vx_ot w = true := List.forall_mem_cons.mpr ⟨rfl, List.forall_mem_cons.mpr ⟨rfl, by decide +kernel⟩⟩
set_option maxRecDepth 100000 in
theorem xg_UOE : ∀ w ∈ (vx_atS RX6 140 "java/lang/UnsupportedOperationException" ["java/lang/RuntimeException", "java/lang/Exception"]).filter goodWord, w ∈ gw := by decide +kernel
theorem xn_UOE : ∀ w ∈ (vx_atS RX6 140 "java/lang/UnsupportedOperationException" ["java/lang/RuntimeException", "java/lang/Exception"]).filter (fun w => !goodWord w), w ∈ Cond.castable "java/lang/UnsupportedOperationException" "java/lang/UnsupportedOperationException" :: gDc.map Cond.declares := by decide +kernel
theorem xo_UOE (ik : Nat) : ∀ w ∈ Cond.classLink RX6 ik "java/lang/UnsupportedOperationException" :: Cond.initialized "java/lang/UnsupportedOperationException" :: vx_atS RX6 140 "java/lang/UnsupportedOperationException" ["java/lang/RuntimeException", "java/lang/Exception"], vx_ot w = true := List.forall_mem_cons.mpr ⟨rfl, List.forall_mem_cons.mpr ⟨rfl, by decide +kernel⟩⟩
theorem xr_0 : decode prog_22_method_4_code 0 = .ok (.aload_n 0, 1) := by decide +kernel
theorem xr_1 : decode prog_22_method_4_code 1 = .ok (.aload_n 1, 1) := by decide +kernel
theorem xr_2 : decode prog_22_method_4_code 2 = .ok (.invokespecial 13, 3) := by decide +kernel
theorem xr_5 : decode prog_22_method_4_code 5 = .ok (.return_, 1) := by decide +kernel
