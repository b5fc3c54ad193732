section JROWS
variable {G : gG} {X : gX} {own : String} {cc : ByteArray} {nL : Nat} {R : Room} {ex : Bool} {N k n pc : Nat} {lv : List (Option Value)} {st : List Value} {σ : gE}
theorem j_iconst (C : gC G X own cc nL R) {z : Int} {v : Int32} (d : decode cc pc = .ok (.iconst z, 1)) (hv : Int32.ofInt z = v := by rfl) (kk : J G X ex N k n (pc + 1) lv (.int v :: st) σ) : J G X ex N k n pc lv st σ := fun H locs ls hW hS hl => lv_iconst C.1 C.2.1 d hv (kk H locs ls hW hS hl)
theorem j_bipush (C : gC G X own cc nL R) {z : Int} {v : Int32} (d : decode cc pc = .ok (.bipush z, 2)) (hv : (Int8.ofInt z).toInt32 = v := by rfl) (kk : J G X ex N k n (pc + 2) lv (.int v :: st) σ) : J G X ex N k n pc lv st σ := fun H locs ls hW hS hl => lv_bipush C.1 C.2.1 d hv (kk H locs ls hW hS hl)
theorem j_sipush (C : gC G X own cc nL R) {z : Int} {v : Int32} (d : decode cc pc = .ok (.sipush z, 3)) (hv : (Int16.ofInt z).toInt32 = v := by rfl) (kk : J G X ex N k n (pc + 3) lv (.int v :: st) σ) : J G X ex N k n pc lv st σ := fun H locs ls hW hS hl => lv_sipush C.1 C.2.1 d hv (kk H locs ls hW hS hl)
theorem j_lconst (C : gC G X own cc nL R) {z : Fin 2} {v : Int64} (d : decode cc pc = .ok (.lconst z, 1)) (hv : Int64.ofNat (z : Nat) = v := by rfl) (kk : J G X ex N k n (pc + 1) lv (.long v :: st) σ) : J G X ex N k n pc lv st σ := fun H locs ls hW hS hl => lv_lconst C.1 C.2.1 d hv (kk H locs ls hW hS hl)
theorem j_dconst0 (C : gC G X own cc nL R)  (d : decode cc pc = .ok (.dconst 0, 1)) (kk : J G X ex N k n (pc + 1) lv (.double FP.dconst0 :: st) σ) : J G X ex N k n pc lv st σ := fun H locs ls hW hS hl => lv_dconst0 C.1 C.2.1 d (kk H locs ls hW hS hl)
theorem j_fconst0 (C : gC G X own cc nL R)  (d : decode cc pc = .ok (.fconst 0, 1)) (kk : J G X ex N k n (pc + 1) lv (.float FP.fconst0 :: st) σ) : J G X ex N k n pc lv st σ := fun H locs ls hW hS hl => lv_fconst0 C.1 C.2.1 d (kk H locs ls hW hS hl)
theorem j_iload_n (C : gC G X own cc nL R) {i : Fin 4} {x : Int32} (d : decode cc pc = .ok (.iload_n i, 1)) (h : gL lv i.val = some (.int x) := by rfl) (kk : J G X ex N k n (pc + 1) lv (.int x :: st) σ) : J G X ex N k n pc lv st σ := fun H locs ls hW hS hl => lv_iload_n C.1 C.2.1 d rfl (hl.2.2 _ _ h) (kk H locs ls hW hS hl)
theorem j_iload (C : gC G X own cc nL R) {i : Nat} {x : Int32} (d : decode cc pc = .ok (.iload i, 2)) (h : gL lv i = some (.int x) := by rfl) (kk : J G X ex N k n (pc + 2) lv (.int x :: st) σ) : J G X ex N k n pc lv st σ := fun H locs ls hW hS hl => lv_iload C.1 C.2.1 d (hl.2.2 _ _ h) (kk H locs ls hW hS hl)
theorem j_istore_n (C : gC G X own cc nL R) {i : Fin 4} {x : Int32} (d : decode cc pc = .ok (.istore_n i, 1)) (hi : i.val < nL := by decide) (h : gN lv i.val = true := by rfl) (kk : J G X ex N k n (pc + 1) (gS lv i.val (some (.int x))) st σ) : J G X ex N k n pc lv (.int x :: st) σ := fun H locs ls hW hS hl => lv_istore_n C.1 C.2.1 d rfl hl.has (by rw [C.2.2.1]; exact hi) rfl (fun ls2 hl2 => kk H locs ls2 hW hS (.st1 h hl2))
theorem j_istore (C : gC G X own cc nL R) {i : Nat} {x : Int32} (d : decode cc pc = .ok (.istore i, 2)) (hi : i < nL := by decide) (h : gN lv i = true := by rfl) (kk : J G X ex N k n (pc + 2) (gS lv i (some (.int x))) st σ) : J G X ex N k n pc lv (.int x :: st) σ := fun H locs ls hW hS hl => lv_istore C.1 C.2.1 d hl.has (by rw [C.2.2.1]; exact hi) rfl (fun ls2 hl2 => kk H locs ls2 hW hS (.st1 h hl2))
theorem j_lload_n (C : gC G X own cc nL R) {i : Fin 4} {x : Int64} (d : decode cc pc = .ok (.lload_n i, 1)) (h : gL lv i.val = some (.long x) := by rfl) (kk : J G X ex N k n (pc + 1) lv (.long x :: st) σ) : J G X ex N k n pc lv st σ := fun H locs ls hW hS hl => lv_lload_n C.1 C.2.1 d rfl (hl.2.2 _ _ h) (kk H locs ls hW hS hl)
theorem j_lload (C : gC G X own cc nL R) {i : Nat} {x : Int64} (d : decode cc pc = .ok (.lload i, 2)) (h : gL lv i = some (.long x) := by rfl) (kk : J G X ex N k n (pc + 2) lv (.long x :: st) σ) : J G X ex N k n pc lv st σ := fun H locs ls hW hS hl => lv_lload C.1 C.2.1 d (hl.2.2 _ _ h) (kk H locs ls hW hS hl)
theorem j_lstore_n (C : gC G X own cc nL R) {i : Fin 4} {x : Int64} (d : decode cc pc = .ok (.lstore_n i, 1)) (hi : i.val + 1 < nL := by decide) (h : gN lv i.val = true := by rfl) (kk : J G X ex N k n (pc + 1) (gS (gS lv i.val (some (.long x))) (i.val + 1) none) st σ) : J G X ex N k n pc lv (.long x :: st) σ := fun H locs ls hW hS hl => lv_lstore_n C.1 C.2.1 d rfl hl.has (by rw [C.2.2.1]; exact hi) rfl (fun ls2 hl2 => kk H locs ls2 hW hS (.st2 h hl2))
theorem j_lstore (C : gC G X own cc nL R) {i : Nat} {x : Int64} (d : decode cc pc = .ok (.lstore i, 2)) (hi : i + 1 < nL := by decide) (h : gN lv i = true := by rfl) (kk : J G X ex N k n (pc + 2) (gS (gS lv i (some (.long x))) (i + 1) none) st σ) : J G X ex N k n pc lv (.long x :: st) σ := fun H locs ls hW hS hl => lv_lstore C.1 C.2.1 d hl.has (by rw [C.2.2.1]; exact hi) rfl (fun ls2 hl2 => kk H locs ls2 hW hS (.st2 h hl2))
theorem j_aload_n (C : gC G X own cc nL R) {i : Fin 4} {x : Nat} (d : decode cc pc = .ok (.aload_n i, 1)) (h : gL lv i.val = some (.ref x) := by rfl) (kk : J G X ex N k n (pc + 1) lv (.ref x :: st) σ) : J G X ex N k n pc lv st σ := fun H locs ls hW hS hl => lv_aload_n C.1 C.2.1 d rfl (hl.2.2 _ _ h) (kk H locs ls hW hS hl)
theorem j_aload (C : gC G X own cc nL R) {i : Nat} {x : Nat} (d : decode cc pc = .ok (.aload i, 2)) (h : gL lv i = some (.ref x) := by rfl) (kk : J G X ex N k n (pc + 2) lv (.ref x :: st) σ) : J G X ex N k n pc lv st σ := fun H locs ls hW hS hl => lv_aload C.1 C.2.1 d (hl.2.2 _ _ h) (kk H locs ls hW hS hl)
theorem j_astore_n (C : gC G X own cc nL R) {i : Fin 4} {x : Nat} (d : decode cc pc = .ok (.astore_n i, 1)) (hi : i.val < nL := by decide) (h : gN lv i.val = true := by rfl) (kk : J G X ex N k n (pc + 1) (gS lv i.val (some (.ref x))) st σ) : J G X ex N k n pc lv (.ref x :: st) σ := fun H locs ls hW hS hl => lv_astore_n C.1 C.2.1 d rfl hl.has (by rw [C.2.2.1]; exact hi) rfl (fun ls2 hl2 => kk H locs ls2 hW hS (.st1 h hl2))
theorem j_astore (C : gC G X own cc nL R) {i : Nat} {x : Nat} (d : decode cc pc = .ok (.astore i, 2)) (hi : i < nL := by decide) (h : gN lv i = true := by rfl) (kk : J G X ex N k n (pc + 2) (gS lv i (some (.ref x))) st σ) : J G X ex N k n pc lv (.ref x :: st) σ := fun H locs ls hW hS hl => lv_astore C.1 C.2.1 d hl.has (by rw [C.2.2.1]; exact hi) rfl (fun ls2 hl2 => kk H locs ls2 hW hS (.st1 h hl2))
theorem j_dload_n (C : gC G X own cc nL R) {i : Fin 4} {x : UInt64} (d : decode cc pc = .ok (.dload_n i, 1)) (h : gL lv i.val = some (.double x) := by rfl) (kk : J G X ex N k n (pc + 1) lv (.double x :: st) σ) : J G X ex N k n pc lv st σ := fun H locs ls hW hS hl => lv_dload_n C.1 C.2.1 d rfl (hl.2.2 _ _ h) (kk H locs ls hW hS hl)
theorem j_dload (C : gC G X own cc nL R) {i : Nat} {x : UInt64} (d : decode cc pc = .ok (.dload i, 2)) (h : gL lv i = some (.double x) := by rfl) (kk : J G X ex N k n (pc + 2) lv (.double x :: st) σ) : J G X ex N k n pc lv st σ := fun H locs ls hW hS hl => lv_dload C.1 C.2.1 d (hl.2.2 _ _ h) (kk H locs ls hW hS hl)
theorem j_dstore_n (C : gC G X own cc nL R) {i : Fin 4} {x : UInt64} (d : decode cc pc = .ok (.dstore_n i, 1)) (hi : i.val + 1 < nL := by decide) (h : gN lv i.val = true := by rfl) (kk : J G X ex N k n (pc + 1) (gS (gS lv i.val (some (.double x))) (i.val + 1) none) st σ) : J G X ex N k n pc lv (.double x :: st) σ := fun H locs ls hW hS hl => lv_dstore_n C.1 C.2.1 d rfl hl.has (by rw [C.2.2.1]; exact hi) rfl (fun ls2 hl2 => kk H locs ls2 hW hS (.st2 h hl2))
theorem j_dstore (C : gC G X own cc nL R) {i : Nat} {x : UInt64} (d : decode cc pc = .ok (.dstore i, 2)) (hi : i + 1 < nL := by decide) (h : gN lv i = true := by rfl) (kk : J G X ex N k n (pc + 2) (gS (gS lv i (some (.double x))) (i + 1) none) st σ) : J G X ex N k n pc lv (.double x :: st) σ := fun H locs ls hW hS hl => lv_dstore C.1 C.2.1 d hl.has (by rw [C.2.2.1]; exact hi) rfl (fun ls2 hl2 => kk H locs ls2 hW hS (.st2 h hl2))
theorem j_fload_n (C : gC G X own cc nL R) {i : Fin 4} {x : UInt32} (d : decode cc pc = .ok (.fload_n i, 1)) (h : gL lv i.val = some (.float x) := by rfl) (kk : J G X ex N k n (pc + 1) lv (.float x :: st) σ) : J G X ex N k n pc lv st σ := fun H locs ls hW hS hl => lv_fload_n C.1 C.2.1 d rfl (hl.2.2 _ _ h) (kk H locs ls hW hS hl)
theorem j_fload (C : gC G X own cc nL R) {i : Nat} {x : UInt32} (d : decode cc pc = .ok (.fload i, 2)) (h : gL lv i = some (.float x) := by rfl) (kk : J G X ex N k n (pc + 2) lv (.float x :: st) σ) : J G X ex N k n pc lv st σ := fun H locs ls hW hS hl => lv_fload C.1 C.2.1 d (hl.2.2 _ _ h) (kk H locs ls hW hS hl)
theorem j_fstore_n (C : gC G X own cc nL R) {i : Fin 4} {x : UInt32} (d : decode cc pc = .ok (.fstore_n i, 1)) (hi : i.val < nL := by decide) (h : gN lv i.val = true := by rfl) (kk : J G X ex N k n (pc + 1) (gS lv i.val (some (.float x))) st σ) : J G X ex N k n pc lv (.float x :: st) σ := fun H locs ls hW hS hl => lv_fstore_n C.1 C.2.1 d rfl hl.has (by rw [C.2.2.1]; exact hi) rfl (fun ls2 hl2 => kk H locs ls2 hW hS (.st1 h hl2))
theorem j_fstore (C : gC G X own cc nL R) {i : Nat} {x : UInt32} (d : decode cc pc = .ok (.fstore i, 2)) (hi : i < nL := by decide) (h : gN lv i = true := by rfl) (kk : J G X ex N k n (pc + 2) (gS lv i (some (.float x))) st σ) : J G X ex N k n pc lv (.float x :: st) σ := fun H locs ls hW hS hl => lv_fstore C.1 C.2.1 d hl.has (by rw [C.2.2.1]; exact hi) rfl (fun ls2 hl2 => kk H locs ls2 hW hS (.st1 h hl2))
theorem j_iinc (C : gC G X own cc nL R) {i : Nat} {z : Int} {x : Int32} (d : decode cc pc = .ok (.iinc i z, 3)) (h : gL lv i = some (.int x) := by rfl) (hi : i < nL := by decide) (hn : gN lv i = true := by rfl) (kk : J G X ex N k n (pc + 3) (gS lv i (some (.int (x + Int32.ofInt z)))) st σ) : J G X ex N k n pc lv st σ := fun H locs ls hW hS hl => by
  have hm := gPr_mem.mpr h
  obtain ⟨q, hq⟩ := List.getElem?_of_mem hm
  exact lv_iinc C.1 C.2.1 d hl.has hq rfl (by rw [C.2.2.1]; exact hi) rfl (fun ls2 hl2 => kk H locs ls2 hW hS (.st1 hn hl2))
theorem j_iadd (C : gC G X own cc nL R) {x y : Int32} (d : decode cc pc = .ok (.iadd, 1)) (kk : J G X ex N k n (pc + 1) lv (.int (x + y) :: st) σ) : J G X ex N k n pc lv (.int y :: .int x :: st) σ := fun H locs ls hW hS hl => lv_iadd C.1 C.2.1 d (kk H locs ls hW hS hl)
theorem j_isub (C : gC G X own cc nL R) {x y : Int32} (d : decode cc pc = .ok (.isub, 1)) (kk : J G X ex N k n (pc + 1) lv (.int (x - y) :: st) σ) : J G X ex N k n pc lv (.int y :: .int x :: st) σ := fun H locs ls hW hS hl => lv_isub C.1 C.2.1 d (kk H locs ls hW hS hl)
theorem j_imul (C : gC G X own cc nL R) {x y : Int32} (d : decode cc pc = .ok (.imul, 1)) (kk : J G X ex N k n (pc + 1) lv (.int (x * y) :: st) σ) : J G X ex N k n pc lv (.int y :: .int x :: st) σ := fun H locs ls hW hS hl => lv_imul C.1 C.2.1 d (kk H locs ls hW hS hl)
theorem j_iand (C : gC G X own cc nL R) {x y : Int32} (d : decode cc pc = .ok (.iand, 1)) (kk : J G X ex N k n (pc + 1) lv (.int (x &&& y) :: st) σ) : J G X ex N k n pc lv (.int y :: .int x :: st) σ := fun H locs ls hW hS hl => lv_iand C.1 C.2.1 d (kk H locs ls hW hS hl)
theorem j_ior (C : gC G X own cc nL R) {x y : Int32} (d : decode cc pc = .ok (.ior, 1)) (kk : J G X ex N k n (pc + 1) lv (.int (x ||| y) :: st) σ) : J G X ex N k n pc lv (.int y :: .int x :: st) σ := fun H locs ls hW hS hl => lv_ior C.1 C.2.1 d (kk H locs ls hW hS hl)
theorem j_irem (C : gC G X own cc nL R) {x y : Int32} (d : decode cc pc = .ok (.irem, 1)) (hne : ¬ y = 0 := by decide) (kk : J G X ex N k n (pc + 1) lv (.int (x - x / y * y) :: st) σ) : J G X ex N k n pc lv (.int y :: .int x :: st) σ := fun H locs ls hW hS hl => lv_irem C.1 C.2.1 d hne (kk H locs ls hW hS hl)
theorem j_idiv (C : gC G X own cc nL R) {x y : Int32} (d : decode cc pc = .ok (.idiv, 1)) (hne : ¬ y = 0 := by decide) (kk : J G X ex N k n (pc + 1) lv (.int (x / y) :: st) σ) : J G X ex N k n pc lv (.int y :: .int x :: st) σ := fun H locs ls hW hS hl => lv_idiv C.1 C.2.1 d hne (kk H locs ls hW hS hl)
theorem j_ladd (C : gC G X own cc nL R) {x y : Int64} (d : decode cc pc = .ok (.ladd, 1)) (kk : J G X ex N k n (pc + 1) lv (.long (x + y) :: st) σ) : J G X ex N k n pc lv (.long y :: .long x :: st) σ := fun H locs ls hW hS hl => lv_ladd C.1 C.2.1 d (kk H locs ls hW hS hl)
theorem j_lsub (C : gC G X own cc nL R) {x y : Int64} (d : decode cc pc = .ok (.lsub, 1)) (kk : J G X ex N k n (pc + 1) lv (.long (x - y) :: st) σ) : J G X ex N k n pc lv (.long y :: .long x :: st) σ := fun H locs ls hW hS hl => lv_lsub C.1 C.2.1 d (kk H locs ls hW hS hl)
theorem j_lmul (C : gC G X own cc nL R) {x y : Int64} (d : decode cc pc = .ok (.lmul, 1)) (kk : J G X ex N k n (pc + 1) lv (.long (x * y) :: st) σ) : J G X ex N k n pc lv (.long y :: .long x :: st) σ := fun H locs ls hW hS hl => lv_lmul C.1 C.2.1 d (kk H locs ls hW hS hl)
theorem j_land (C : gC G X own cc nL R) {x y : Int64} (d : decode cc pc = .ok (.land, 1)) (kk : J G X ex N k n (pc + 1) lv (.long (x &&& y) :: st) σ) : J G X ex N k n pc lv (.long y :: .long x :: st) σ := fun H locs ls hW hS hl => lv_land C.1 C.2.1 d (kk H locs ls hW hS hl)
theorem j_lor (C : gC G X own cc nL R) {x y : Int64} (d : decode cc pc = .ok (.lor, 1)) (kk : J G X ex N k n (pc + 1) lv (.long (x ||| y) :: st) σ) : J G X ex N k n pc lv (.long y :: .long x :: st) σ := fun H locs ls hW hS hl => lv_lor C.1 C.2.1 d (kk H locs ls hW hS hl)
theorem j_lxor (C : gC G X own cc nL R) {x y : Int64} (d : decode cc pc = .ok (.lxor, 1)) (kk : J G X ex N k n (pc + 1) lv (.long (x ^^^ y) :: st) σ) : J G X ex N k n pc lv (.long y :: .long x :: st) σ := fun H locs ls hW hS hl => lv_lxor C.1 C.2.1 d (kk H locs ls hW hS hl)
theorem j_lushr (C : gC G X own cc nL R) {x : Int64} {y : Int32} (d : decode cc pc = .ok (.lushr, 1)) (kk : J G X ex N k n (pc + 1) lv (.long (x.toUInt64 >>> (y.toInt64.toUInt64 &&& Int64.toUInt64 63)).toInt64 :: st) σ) : J G X ex N k n pc lv (.int y :: .long x :: st) σ := fun H locs ls hW hS hl => lv_lushr C.1 C.2.1 d rfl (kk H locs ls hW hS hl)
theorem j_lshl (C : gC G X own cc nL R) {x : Int64} {y : Int32} (d : decode cc pc = .ok (.lshl, 1)) (kk : J G X ex N k n (pc + 1) lv (.long (x <<< (y.toInt64 &&& 63)) :: st) σ) : J G X ex N k n pc lv (.int y :: .long x :: st) σ := fun H locs ls hW hS hl => lv_lshl C.1 C.2.1 d rfl (kk H locs ls hW hS hl)
theorem j_i2l (C : gC G X own cc nL R) {x : Int32} (d : decode cc pc = .ok (.i2l, 1)) (kk : J G X ex N k n (pc + 1) lv (.long x.toInt64 :: st) σ) : J G X ex N k n pc lv (.int x :: st) σ := fun H locs ls hW hS hl => lv_i2l C.1 C.2.1 d rfl (kk H locs ls hW hS hl)
theorem j_l2i (C : gC G X own cc nL R) {x : Int64} (d : decode cc pc = .ok (.l2i, 1)) (kk : J G X ex N k n (pc + 1) lv (.int x.toInt32 :: st) σ) : J G X ex N k n pc lv (.long x :: st) σ := fun H locs ls hW hS hl => lv_l2i C.1 C.2.1 d rfl (kk H locs ls hW hS hl)
theorem j_i2d (C : gC G X own cc nL R) {x : Int32} (d : decode cc pc = .ok (.i2d, 1)) (kk : J G X ex N k n (pc + 1) lv (.double (FP.i2d x) :: st) σ) : J G X ex N k n pc lv (.int x :: st) σ := fun H locs ls hW hS hl => lv_i2d C.1 C.2.1 d (kk H locs ls hW hS hl)
theorem j_i2f (C : gC G X own cc nL R) {x : Int32} (d : decode cc pc = .ok (.i2f, 1)) (kk : J G X ex N k n (pc + 1) lv (.float (FP.i2f x) :: st) σ) : J G X ex N k n pc lv (.int x :: st) σ := fun H locs ls hW hS hl => lv_i2f C.1 C.2.1 d (kk H locs ls hW hS hl)
theorem j_l2f (C : gC G X own cc nL R) {x : Int64} (d : decode cc pc = .ok (.l2f, 1)) (kk : J G X ex N k n (pc + 1) lv (.float (FP.l2f x) :: st) σ) : J G X ex N k n pc lv (.long x :: st) σ := fun H locs ls hW hS hl => lv_l2f C.1 C.2.1 d (kk H locs ls hW hS hl)
theorem j_fdiv (C : gC G X own cc nL R) {x y : UInt32} (d : decode cc pc = .ok (.fdiv, 1)) (hne : vf_n32 (FP.fdiv x y)) (kk : J G X ex N k n (pc + 1) lv (.float (FP.fdiv x y) :: st) σ) : J G X ex N k n pc lv (.float y :: .float x :: st) σ := fun H locs ls hW hS hl => lv_fdiv C.1 C.2.1 d hne (kk H locs ls hW hS hl)
theorem j_ddiv (C : gC G X own cc nL R) {x y : UInt64} (d : decode cc pc = .ok (.ddiv, 1)) (hne : vf_n64 (FP.ddiv x y)) (kk : J G X ex N k n (pc + 1) lv (.double (FP.ddiv x y) :: st) σ) : J G X ex N k n pc lv (.double y :: .double x :: st) σ := fun H locs ls hW hS hl => lv_ddiv C.1 C.2.1 d hne (kk H locs ls hW hS hl)
theorem j_f2d (C : gC G X own cc nL R) {x : UInt32} (d : decode cc pc = .ok (.f2d, 1)) (hne : vf_n64 (FP.f2d x)) (kk : J G X ex N k n (pc + 1) lv (.double (FP.f2d x) :: st) σ) : J G X ex N k n pc lv (.float x :: st) σ := fun H locs ls hW hS hl => lv_f2d C.1 C.2.1 d hne (kk H locs ls hW hS hl)
theorem j_fcmp (C : gC G X own cc nL R) {x y : UInt32} {op : CmpOp} (d : decode cc pc = .ok (.fcmp op, 1)) (kk : J G X ex N k n (pc + 1) lv (.int (Op.cmpValue (FP.fcmp x y) op) :: st) σ) : J G X ex N k n pc lv (.float y :: .float x :: st) σ := fun H locs ls hW hS hl => lv_fcmp C.1 C.2.1 d (kk H locs ls hW hS hl)
theorem j_dcmp (C : gC G X own cc nL R) {x y : UInt64} {op : CmpOp} (d : decode cc pc = .ok (.dcmp op, 1)) (kk : J G X ex N k n (pc + 1) lv (.int (Op.cmpValue (FP.dcmp x y) op) :: st) σ) : J G X ex N k n pc lv (.double y :: .double x :: st) σ := fun H locs ls hW hS hl => lv_dcmp C.1 C.2.1 d (kk H locs ls hW hS hl)
theorem j_dup (C : gC G X own cc nL R) {v : Value} (d : decode cc pc = .ok (.dup, 1)) (hv : v.category = 1 := by rfl) (kk : J G X ex N k n (pc + 1) lv (v :: v :: st) σ) : J G X ex N k n pc lv (v :: st) σ := fun H locs ls hW hS hl => lv_dup C.1 C.2.1 d hv (kk H locs ls hW hS hl)
theorem j_pop (C : gC G X own cc nL R) {v : Value} (d : decode cc pc = .ok (.pop, 1)) (hv : v.category = 1 := by rfl) (kk : J G X ex N k n (pc + 1) lv st σ) : J G X ex N k n pc lv (v :: st) σ := fun H locs ls hW hS hl => lv_pop C.1 C.2.1 d hv (kk H locs ls hW hS hl)
theorem j_dup2 (C : gC G X own cc nL R) {v w : Value} (d : decode cc pc = .ok (.dup2, 1)) (hv : v.category = 1 := by rfl) (hw : w.category = 1 := by rfl) (kk : J G X ex N k n (pc + 1) lv (v :: w :: v :: w :: st) σ) : J G X ex N k n pc lv (v :: w :: st) σ := fun H locs ls hW hS hl => lv_dup2_11 C.1 C.2.1 d hv hw (kk H locs ls hW hS hl)
theorem j_if_eq (C : gC G X own cc nL R) {x : Int32} {off : Int} (tgt : Nat) (d : decode cc pc = .ok (.ifCond .eq off, 3)) (kt : x = 0 → J G X ex N k n tgt lv st σ) (kf : ¬ (x = 0) → J G X ex N k n (pc + 3) lv st σ) (ht : (pc : Int) + off = (tgt : Int) := by decide) : J G X ex N k n pc lv (.int x :: st) σ := fun H locs ls hW hS hl => lv_if_eq C.1 C.2.1 d ht (fun q => kt q H locs ls hW hS hl) (fun q => kf q H locs ls hW hS hl)
theorem j_icmp_eq (C : gC G X own cc nL R) {x y : Int32} {off : Int} (tgt : Nat) (d : decode cc pc = .ok (.if_icmp .eq off, 3)) (kt : x = y → J G X ex N k n tgt lv st σ) (kf : ¬ (x = y) → J G X ex N k n (pc + 3) lv st σ) (ht : (pc : Int) + off = (tgt : Int) := by decide) : J G X ex N k n pc lv (.int y :: .int x :: st) σ := fun H locs ls hW hS hl => lv_icmp_eq C.1 C.2.1 d ht (fun q => kt q H locs ls hW hS hl) (fun q => kf q H locs ls hW hS hl)
theorem j_if_ne (C : gC G X own cc nL R) {x : Int32} {off : Int} (tgt : Nat) (d : decode cc pc = .ok (.ifCond .ne off, 3)) (kt : ¬ x = 0 → J G X ex N k n tgt lv st σ) (kf : x = 0 → J G X ex N k n (pc + 3) lv st σ) (ht : (pc : Int) + off = (tgt : Int) := by decide) : J G X ex N k n pc lv (.int x :: st) σ := fun H locs ls hW hS hl => lv_if_ne C.1 C.2.1 d ht (fun q => kt q H locs ls hW hS hl) (fun q => kf q H locs ls hW hS hl)
theorem j_icmp_ne (C : gC G X own cc nL R) {x y : Int32} {off : Int} (tgt : Nat) (d : decode cc pc = .ok (.if_icmp .ne off, 3)) (kt : ¬ x = y → J G X ex N k n tgt lv st σ) (kf : x = y → J G X ex N k n (pc + 3) lv st σ) (ht : (pc : Int) + off = (tgt : Int) := by decide) : J G X ex N k n pc lv (.int y :: .int x :: st) σ := fun H locs ls hW hS hl => lv_icmp_ne C.1 C.2.1 d ht (fun q => kt q H locs ls hW hS hl) (fun q => kf q H locs ls hW hS hl)
theorem j_if_lt (C : gC G X own cc nL R) {x : Int32} {off : Int} (tgt : Nat) (d : decode cc pc = .ok (.ifCond .lt off, 3)) (kt : x < 0 → J G X ex N k n tgt lv st σ) (kf : ¬ (x < 0) → J G X ex N k n (pc + 3) lv st σ) (ht : (pc : Int) + off = (tgt : Int) := by decide) : J G X ex N k n pc lv (.int x :: st) σ := fun H locs ls hW hS hl => lv_if_lt C.1 C.2.1 d ht (fun q => kt q H locs ls hW hS hl) (fun q => kf q H locs ls hW hS hl)
theorem j_icmp_lt (C : gC G X own cc nL R) {x y : Int32} {off : Int} (tgt : Nat) (d : decode cc pc = .ok (.if_icmp .lt off, 3)) (kt : x < y → J G X ex N k n tgt lv st σ) (kf : ¬ (x < y) → J G X ex N k n (pc + 3) lv st σ) (ht : (pc : Int) + off = (tgt : Int) := by decide) : J G X ex N k n pc lv (.int y :: .int x :: st) σ := fun H locs ls hW hS hl => lv_icmp_lt C.1 C.2.1 d ht (fun q => kt q H locs ls hW hS hl) (fun q => kf q H locs ls hW hS hl)
theorem j_if_ge (C : gC G X own cc nL R) {x : Int32} {off : Int} (tgt : Nat) (d : decode cc pc = .ok (.ifCond .ge off, 3)) (kt : 0 ≤ x → J G X ex N k n tgt lv st σ) (kf : ¬ (0 ≤ x) → J G X ex N k n (pc + 3) lv st σ) (ht : (pc : Int) + off = (tgt : Int) := by decide) : J G X ex N k n pc lv (.int x :: st) σ := fun H locs ls hW hS hl => lv_if_ge C.1 C.2.1 d ht (fun q => kt q H locs ls hW hS hl) (fun q => kf q H locs ls hW hS hl)
theorem j_icmp_ge (C : gC G X own cc nL R) {x y : Int32} {off : Int} (tgt : Nat) (d : decode cc pc = .ok (.if_icmp .ge off, 3)) (kt : y ≤ x → J G X ex N k n tgt lv st σ) (kf : ¬ (y ≤ x) → J G X ex N k n (pc + 3) lv st σ) (ht : (pc : Int) + off = (tgt : Int) := by decide) : J G X ex N k n pc lv (.int y :: .int x :: st) σ := fun H locs ls hW hS hl => lv_icmp_ge C.1 C.2.1 d ht (fun q => kt q H locs ls hW hS hl) (fun q => kf q H locs ls hW hS hl)
theorem j_if_gt (C : gC G X own cc nL R) {x : Int32} {off : Int} (tgt : Nat) (d : decode cc pc = .ok (.ifCond .gt off, 3)) (kt : 0 < x → J G X ex N k n tgt lv st σ) (kf : ¬ (0 < x) → J G X ex N k n (pc + 3) lv st σ) (ht : (pc : Int) + off = (tgt : Int) := by decide) : J G X ex N k n pc lv (.int x :: st) σ := fun H locs ls hW hS hl => lv_if_gt C.1 C.2.1 d ht (fun q => kt q H locs ls hW hS hl) (fun q => kf q H locs ls hW hS hl)
theorem j_icmp_gt (C : gC G X own cc nL R) {x y : Int32} {off : Int} (tgt : Nat) (d : decode cc pc = .ok (.if_icmp .gt off, 3)) (kt : y < x → J G X ex N k n tgt lv st σ) (kf : ¬ (y < x) → J G X ex N k n (pc + 3) lv st σ) (ht : (pc : Int) + off = (tgt : Int) := by decide) : J G X ex N k n pc lv (.int y :: .int x :: st) σ := fun H locs ls hW hS hl => lv_icmp_gt C.1 C.2.1 d ht (fun q => kt q H locs ls hW hS hl) (fun q => kf q H locs ls hW hS hl)
theorem j_if_le (C : gC G X own cc nL R) {x : Int32} {off : Int} (tgt : Nat) (d : decode cc pc = .ok (.ifCond .le off, 3)) (kt : x ≤ 0 → J G X ex N k n tgt lv st σ) (kf : ¬ (x ≤ 0) → J G X ex N k n (pc + 3) lv st σ) (ht : (pc : Int) + off = (tgt : Int) := by decide) : J G X ex N k n pc lv (.int x :: st) σ := fun H locs ls hW hS hl => lv_if_le C.1 C.2.1 d ht (fun q => kt q H locs ls hW hS hl) (fun q => kf q H locs ls hW hS hl)
theorem j_icmp_le (C : gC G X own cc nL R) {x y : Int32} {off : Int} (tgt : Nat) (d : decode cc pc = .ok (.if_icmp .le off, 3)) (kt : x ≤ y → J G X ex N k n tgt lv st σ) (kf : ¬ (x ≤ y) → J G X ex N k n (pc + 3) lv st σ) (ht : (pc : Int) + off = (tgt : Int) := by decide) : J G X ex N k n pc lv (.int y :: .int x :: st) σ := fun H locs ls hW hS hl => lv_icmp_le C.1 C.2.1 d ht (fun q => kt q H locs ls hW hS hl) (fun q => kf q H locs ls hW hS hl)
theorem j_goto (C : gC G X own cc nL R) {off : Int} (tgt : Nat) (d : decode cc pc = .ok (.goto off, 3)) (kk : J G X ex N k n tgt lv st σ) (ht : (pc : Int) + off = (tgt : Int) := by decide) : J G X ex N k n pc lv st σ := fun H locs ls hW hS hl => lv_goto C.1 C.2.1 d ht (kk H locs ls hW hS hl)
theorem j_ifnonnull (C : gC G X own cc nL R) {x : Nat} {off : Int} (tgt : Nat) (d : decode cc pc = .ok (.ifnonnull off, 3)) (kk : J G X ex N k n tgt lv st σ) (ht : (pc : Int) + off = (tgt : Int) := by decide) : J G X ex N k n pc lv (.ref x :: st) σ := fun H locs ls hW hS hl => lv_ifnonnull C.1 C.2.1 d ht (kk H locs ls hW hS hl)
theorem j_lcmp (C : gC G X own cc nL R) {x y : Int64} (d : decode cc pc = .ok (.lcmp, 1)) (kk : J G X ex N k n (pc + 1) lv (.int (lg_cmp x y) :: st) σ) : J G X ex N k n pc lv (.long y :: .long x :: st) σ := fun H locs ls hW hS hl => W.lcmp C.1 C.2.1 d (kk H locs ls hW hS hl)
theorem j_tableIn (C : gC G X own cc nL R) {dflt lo hi : Int} {offs : Array Int} {len : Nat} {x : Int32} {off : Int} (tgt : Nat) (d : decode cc pc = .ok (.tableswitch dflt lo hi offs, len)) (h1 : ¬ x.toInt < lo) (h2 : ¬ hi < x.toInt) (ho : offs[(x.toInt - lo).toNat]? = some off) (ht : (pc : Int) + off = (tgt : Int)) (kk : J G X ex N k n tgt lv st σ) : J G X ex N k n pc lv (.int x :: st) σ := fun H locs ls hW hS hl => lv_tableIn C.1 C.2.1 d h1 h2 ho ht (kk H locs ls hW hS hl)
theorem j_tableOut (C : gC G X own cc nL R) {dflt lo hi : Int} {offs : Array Int} {len : Nat} {x : Int32} (tgt : Nat) (d : decode cc pc = .ok (.tableswitch dflt lo hi offs, len)) (h : x.toInt < lo ∨ hi < x.toInt) (ht : (pc : Int) + dflt = (tgt : Int)) (kk : J G X ex N k n tgt lv st σ) : J G X ex N k n pc lv (.int x :: st) σ := fun H locs ls hW hS hl => lv_tableOut C.1 C.2.1 d h ht (kk H locs ls hW hS hl)
theorem j_ldc2 (C : gC G X own cc nL R) {idx : Nat} (v : Int64) (hc : Cond.constantLong own idx v ∈ gw) (d : decode cc pc = .ok (.ldc2_w idx, 3)) (kk : J G X ex N k n (pc + 3) lv (.long v :: st) σ) : J G X ex N k n pc lv st σ := fun H locs ls hW hS hl => lv_ldc2 C.1 C.2.1 C.2.2.2.1 (C.2.2.2.2.1 _ hc) d (kk H locs ls hW hS hl)
/-! fields: a kind of object by its number in vwCl, its name, fields, how many -/
def gFd (ci : Nat) (Cn : String) (T : u_T) (F : Nat) (ty : Nat → FieldType) : Prop :=
  vwCl[ci]? = some (Cn, T, F) ∧ (∀ w ∈ u_ws Cn T F, w ∈ gw) ∧ (∀ j, j < F → parseFieldDescriptor (T j).2.2.1 = some (ty j)) ∧ (∀ a, a < F → ∀ b, b < F → a ≠ b → (T a).2.1 ≠ (T b).2.1)
theorem j_get (C : gC G X own cc nL R) {ci F i idx : Nat} {Cn ref : String} {T : u_T} {ty : Nat → FieldType} {fs : List Value} {v : Value} (hF : gFd ci Cn T F ty) (kf : Nat) (hs : σ i = .inr (ci, fs)) (hi : i < N) (hk : kf < F) (hl : Cond.fieldLink own idx ref (T kf).2.1 (T kf).2.2.1 ∈ gw) (hr : (T kf).1 = ref) (hv : fs[kf]? = some v) (d : decode cc pc = .ok (.getfield idx, 3))
    (kk : J G X ex N k n (pc + 3) lv (v :: st) σ) : J G X ex N k n pc lv (.ref (gb G + i) :: st) σ := fun H locs ls hW hS hl2 => by
  have hP : va_P G.2.1 vwCl [(gb G + i, .inr (ci, fs))] H := fun q x hx => by
    have h0 : q < 1 := (List.getElem?_eq_some_iff.mp hx).1
    rw [show q = 0 by omega] at hx
    cases hx
    have := hW.1 i hi
    rw [hs] at this
    exact this
  exact va_get (Ts := gw) C.1 C.2.1 C.2.2.2.2.1 hF.2.1 C.2.2.2.1 C.2.2.2.2.2.2.1.1 hP 0 rfl hF.1 kf hk (C.2.2.2.2.1 _ hl) (fun x hx => by rw [← hr]; exact hx) hv d (kk H locs ls hW hS hl2)
theorem g_at {G : gG} {σ : gE} {H : Heap} {i : Nat} {e : va_E} {ex : Bool} {N : Nat} (hW : gW G ex N σ H) (hi : i < N) (hs : σ i = e) : va_at G.2.1 vwCl (gb G + i, e) H := by
  have := hW.1 i hi
  rw [hs] at this
  exact this
theorem j_put (C : gC G X own cc nL R) {ci F i idx : Nat} {Cn ref : String} {T : u_T} {ty : Nat → FieldType} {fs : List Value} {v : Value} (hF : gFd ci Cn T F ty) (kf : Nat) (hs : σ i = .inr (ci, fs)) (hi : i < N) (hk : kf < F) (hl : Cond.fieldLink own idx ref (T kf).2.1 (T kf).2.2.1 ∈ gw) (hr : (T kf).1 = ref) (hfin : (T kf).2.2.2 = false ∨ ((T kf).2.2.2 = true ∧ (xh X).name = "<init>" ∧ (T kf).1 = own)) (hn : narrow (ty kf) v = v) (hfit : fits (ty kf) v = true) (hlen : kf < fs.length) (d : decode cc pc = .ok (.putfield idx, 3))
    (kk : J G X ex N k n (pc + 3) lv st (va_up σ i (.inr (ci, fs.set kf v)))) : J G X ex N k n pc lv (v :: .ref (gb G + i) :: st) σ := fun H locs ls hW hS hl2 => by
  have hts := C.2.2.2.2.1
  have hK := C.2.2.2.2.2.2.1.1
  have hown := C.2.2.2.1
  have hap := va_apart (own := own) hts hF.2.1 ty hF.2.2.1 hF.2.2.2 hK hF.1
  obtain ⟨r, h1, cell, q1, q2, q3, q4⟩ := g_at hW hi hs
  have hr9 : r = (Cn, T, F) := Option.some.inj (h1.symm.trans hF.1)
  subst hr9
  obtain ⟨hSl, hfc, kC, hkC, hkind⟩ := hK.1 ci _ hF.1
  obtain ⟨cf, kq, fi, f, hif, hsl⟩ := hSl kf hk
  have hsame : (xs X).fieldFound? ref (T kf).2.1 (T kf).2.2.1 = some (cf, kq, fi, f) := by rw [← hr]; exact hif
  have hst := (u_facts hfc hkC (u_lays hts hF.2.1 hk) hif).1
  have hlay := hts _ (hF.2.1 _ (u_in_lay hk))
  unfold u_lay at hlay
  have hA : gA G (gb G + i) := Nat.le_add_right _ _
  have last : ∀ H' : Heap, H'[gb G + i]? = some (cell.setSlot f.slot v) → H'.size = H.size → (∀ q : Nat, q ≠ gb G + i → H'[q]? = H[q]?) →
      W (xp X) G.1 (xe X) (xR X) (xs X) (xm X) (xa X) (xb X) (xh X) (xc X) H' (locs ++ [⟨gb G + i, f.slot⟩]) k n (xQ X) (F0 (xm X) (pc + 3) ls st) := fun H' e1 e2 e3 => by
    rw [hsl] at e1 ⊢
    refine kk H' _ ls (hW.put (e := .inr (ci, fs.set kf v)) ⟨_, hF.1, t_OB.to (V := updV (vp_V fs) kf v) ⟨_, e1, q2, q3, t_set q4 hap hk v⟩ (fun j _ => vp_updV_set hlen v j)⟩ e2 e3) (hS.put e2 e3 hA) hl2
  rcases hfin with hfin | ⟨hfin, hin2, hdecl⟩
  · rw [if_neg (by rw [hfin]; decide)] at hlay
    have h6 := u_store hfc hkC hkind hlay hif (hF.2.2.1 kf hk) hn hfit
    exact W.putK C.1 C.2.1 (f := f) ⟨hown, hts _ hl, ⟨_, _, _, hsame⟩, hst⟩ (by rw [q2]; exact h6) q1 q3 (by rw [hsl]; exact k2_hasslot (q4 kf hk)) rfl rfl d last
  · rw [if_pos hfin] at hlay
    have hcf : (xm X).cls = cf := by
      obtain ⟨_, _, c', _, _, _, -, -, hf', -, -, -, hown2, -⟩ := Cond.laysFinal_spec hlay
      have e1 : c' = cf := by have := hif.symm.trans hf'; simp at this; exact this.1.symm
      rw [hdecl] at hown2
      rw [← e1]; exact Option.some.inj (hown.symm.trans hown2)
    have h6 := u_fits hfc hkC hkind (Or.inr hlay) hif (hF.2.2.1 kf hk) hn hfit
    exact W.putFinK C.1 C.2.1 hown (hts _ hl) hsame hst hcf hin2 (by rw [q2]; exact h6) q1 q3 (by rw [hsl]; exact k2_hasslot (q4 kf hk)) rfl rfl d last
/-! rows of numbers -/
theorem g_P1 {G : gG} {H : Heap} {x : Nat × va_E} (h : va_at G.2.1 vwCl x H) : va_P G.2.1 vwCl [x] H := fun q y hy => by
  have h0 : q < 1 := (List.getElem?_eq_some_iff.mp hy).1
  rw [show q = 0 by omega] at hy
  cases hy
  exact h
theorem j_alen (C : gC G X own cc nL R) {i : Nat} {x : vp_A} {v : Int32} (t : Nat) {cA : ClassId} {ty : FieldType} (ht : (gT G)[t]? = some (cA, ty)) (hs : σ i = .inl (cA, x)) (hi : i < N) (hv : Int32.ofNat x.1 = v) (d : decode cc pc = .ok (.arraylength, 1))
    (kk : J G X ex N k n (pc + 1) lv (.int v :: st) σ) : J G X ex N k n pc lv (.ref (gb G + i) :: st) σ := fun H locs ls hW hS hl =>
  va_alen C.1 C.2.1 C.2.2.2.2.2.2.1.1 (g_P1 (g_at hW hi hs)) 0 t rfl ht hv d (kk H locs ls hW hS hl)
theorem j_iald (C : gC G X own cc nL R) {i m : Nat} {f : Nat → Int32} {j : Int32} (hs : σ i = .inl (G.2.2.1 0, m, .inl f)) (hi : i < N) (hin : vp_in j m) (d : decode cc pc = .ok (.iaload, 1))
    (kk : J G X ex N k n (pc + 1) lv (.int (f j.toNatClampNeg) :: st) σ) : J G X ex N k n pc lv (.int j :: .ref (gb G + i) :: st) σ := fun H locs ls hW hS hl =>
  va_iald C.1 C.2.1 C.2.2.2.2.2.2.1.1 (g_P1 (g_at hW hi hs)) 0 0 rfl rfl hin d (kk H locs ls hW hS hl)
theorem j_lald (C : gC G X own cc nL R) {i m : Nat} {f : Nat → Int64} {j : Int32} (hs : σ i = .inl (G.2.2.1 1, m, .inr (.inl f))) (hi : i < N) (hin : vp_in j m) (d : decode cc pc = .ok (.laload, 1))
    (kk : J G X ex N k n (pc + 1) lv (.long (f j.toNatClampNeg) :: st) σ) : J G X ex N k n pc lv (.int j :: .ref (gb G + i) :: st) σ := fun H locs ls hW hS hl =>
  va_lald C.1 C.2.1 C.2.2.2.2.2.2.1.1 (g_P1 (g_at hW hi hs)) 0 1 rfl rfl hin d (kk H locs ls hW hS hl)
/-- a row of references: of objects -/
theorem j_aald (C : gC G X own cc nL R) {i m : Nat} {f : Nat → Option Nat} {j : Int32} {y : Nat} (t : Nat) (ht : t = 2) (hs : σ i = .inl (G.2.2.1 t, m, .inr (.inr (.inr (.inr f))))) (hi : i < N) (hin : vp_in j m) (hv : f j.toNatClampNeg = some y) (d : decode cc pc = .ok (.aaload, 1))
    (kk : J G X ex N k n (pc + 1) lv (.ref y :: st) σ) : J G X ex N k n pc lv (.int j :: .ref (gb G + i) :: st) σ := fun H locs ls hW hS hl => by
  have hK := C.2.2.2.2.2.2.1.1
  have hlt : j.toNatClampNeg < m := Nat.not_le.mp fun q => hin (Or.inr q)
  have hat := g_at hW hi hs
  have go : ∀ ty : FieldType, (gT G)[t]? = some (G.2.2.1 t, ty) → ty.isReference = true → W (xp X) G.1 (xe X) (xR X) (xs X) (xm X) (xa X) (xb X) (xh X) (xc X) H locs k n (xQ X) (F0 (xm X) pc ls (.int j :: .ref (gb G + i) :: st)) := fun ty h1 h2 =>
    W.aald (v := .ref y) (ty := ty) C.1 C.2.1 hat ((hK.2 t _ h1).1 m (fun j => va_rf (f j))) h2 (fun q => by cases q) (by show ¬ (j < 0 ∨ (arrV _ _ _).slots.size ≤ _); rw [arrV_size]; exact hin) (by show (arrV _ _ _).slots[_]? = _; rw [arrV_read _ _ hlt, hv]; rfl) rfl rfl d (kk H locs ls hW hS hl)
  subst ht
  exact go _ rfl rfl
theorem j_iast (C : gC G X own cc nL R) {i m : Nat} {f : Nat → Int32} {j x : Int32} (hs : σ i = .inl (G.2.2.1 0, m, .inl f)) (hi : i < N) (hin : vp_in j m) (d : decode cc pc = .ok (.iastore, 1))
    (kk : J G X ex N k n (pc + 1) lv st (va_up σ i (.inl (G.2.2.1 0, m, .inl (upd f j.toNatClampNeg x))))) : J G X ex N k n pc lv (.int x :: .int j :: .ref (gb G + i) :: st) σ := fun H locs ls hW hS hl => by
  have hK := C.2.2.2.2.2.2.1.1
  refine W.iast C.1 C.2.1 (g_at hW hi hs) ((hK.2 0 _ rfl).1 m (fun j => .int (f j))) (fun q => by cases q) (by show ¬ (j < 0 ∨ (arrV _ _ _).slots.size ≤ _); rw [arrV_size]; exact hin) rfl rfl d fun H1 e z oq => ?_
  refine kk H1 _ ls (hW.put ?_ z oq) (hS.put z oq (Nat.le_add_right _ _)) hl
  show H1[gb G + i]? = some (vp_cell _ _)
  rw [e]
  rw [vp_cell_i, vp_cell_i, arrV_store]
  congr 2
  funext q
  by_cases hq : q = j.toNatClampNeg
  · subst hq
    simp [updV, upd]
  · simp [updV, upd, hq]
theorem j_last (C : gC G X own cc nL R) {i m : Nat} {f : Nat → Int64} {j : Int32} {x : Int64} (hs : σ i = .inl (G.2.2.1 1, m, .inr (.inl f))) (hi : i < N) (hin : vp_in j m) (d : decode cc pc = .ok (.lastore, 1))
    (kk : J G X ex N k n (pc + 1) lv st (va_up σ i (.inl (G.2.2.1 1, m, .inr (.inl (vp_updL f j.toNatClampNeg x)))))) : J G X ex N k n pc lv (.long x :: .int j :: .ref (gb G + i) :: st) σ := fun H locs ls hW hS hl => by
  have hK := C.2.2.2.2.2.2.1.1
  refine W.last C.1 C.2.1 (g_at hW hi hs) ((hK.2 1 _ rfl).1 m (fun j => .long (f j))) (fun q => by cases q) (by show ¬ (j < 0 ∨ (arrV _ _ _).slots.size ≤ _); rw [arrV_size]; exact hin) rfl rfl d fun H1 e z oq => ?_
  refine kk H1 _ ls (hW.put ?_ z oq) (hS.put z oq (Nat.le_add_right _ _)) hl
  show H1[gb G + i]? = some (vp_cell _ _)
  rw [e]
  rw [vp_cell_l, vp_cell_l, arrV_store]
  congr 2
  funext q
  by_cases hq : q = j.toNatClampNeg
  · subst hq
    simp [updV, vp_updL]
  · simp [updV, vp_updL, hq]
/-- an object of vwCl's kind 5 (Tree) into a row of such -/
theorem j_aast (C : gC G X own cc nL R) {i m v : Nat} {vs : List Value} {f : Nat → Option Nat} {j : Int32} (hs : σ i = .inl (G.2.2.1 2, m, .inr (.inr (.inr (.inr f))))) (hi : i < N) (hv : σ v = .inr (5, vs)) (hvN : v < N) (hin : vp_in j m) (d : decode cc pc = .ok (.aastore, 1))
    (kk : J G X ex N k n (pc + 1) lv st (va_up σ i (.inl (G.2.2.1 2, m, .inr (.inr (.inr (.inr (va_up f j.toNatClampNeg (some (gb G + v))))))))) ) : J G X ex N k n pc lv (.ref (gb G + v) :: .int j :: .ref (gb G + i) :: st) σ := fun H locs ls hW hS hl => by
  have hK := C.2.2.2.2.2.2.1.1
  have hlt : j.toNatClampNeg < m := Nat.not_le.mp fun q => hin (Or.inr q)
  have h0 : ¬ j < 0 := fun q => hin (Or.inl q)
  obtain ⟨r', hr', cellV, g1, g2, g3, -⟩ := g_at hW hvN hv
  have hc : vwCl[5]? = some (RX4, TX4, 1) := rfl
  have hcls := (hK.1 5 _ hc).2
  obtain ⟨kA, comp, k1, k2, k3, -⟩ := (hK.2 2 _ rfl).2
  have hcomp : comp = G.2.1.1 5 := Option.some.inj (k3.symm.trans hcls.1)
  subst hcomp
  obtain ⟨kC, hkC, -⟩ := hcls.2
  refine W.aast C.1 C.2.1 (g_at hW hi hs) (fun q h => by cases h) (fun h => by cases h) k1 k2 rfl hkC ⟨h0, by show _ < (arrV _ _ _).slots.size; rw [arrV_size]; exact hlt⟩ g1 (fun q h => by rw [g3] at h; cases h) (by rw [g2]; exact hkC) (by rw [g2]; exact va_assign hcls) rfl rfl d fun H1 e z oq => ?_
  refine kk H1 _ ls (hW.put ?_ z oq) (hS.put z oq (Nat.le_add_right _ _)) hl
  show H1[gb G + i]? = some (vp_cell _ _)
  rw [e]
  rw [vp_cell_q, vp_cell_q, arrV_store]
  congr 2
  funext q
  by_cases hq : q = j.toNatClampNeg
  · subst hq
    simp [updV, va_up, va_rf]
  · simp [updV, va_up, hq]
/-! new cells, at the end of the world -/
theorem g_S1 {G : gG} {H0 H H1 : Heap} {locs : List Loc} (hS : va_S (gA G) H0 H locs) (z : H1.size = H.size + 1) (oq : ∀ q : Nat, q < H.size → H1[q]? = H[q]?) : va_S (gA G) H0 H1 locs :=
  ⟨Nat.le_trans hS.1 (by omega), fun x h1 h2 => (oq x (Nat.lt_of_lt_of_le h1 hS.1)).trans (hS.2.1 x h1 h2), hS.2.2⟩
theorem j_new (C : gC G X own cc nL R) {ci F idx : Nat} {Cn : String} {T : u_T} {ty : Nat → FieldType} {fs : List Value} (hF : gFd ci Cn T F ty) (hcl : Cond.classLink own idx Cn ∈ gw) (hinst : Cond.instantiable Cn F ∈ gw) (hini : Cond.initialized Cn ∈ gw) (hfs : ∀ j, j < F → defaultValue (ty j) = vp_V fs j) (hcells : k + 1 ≤ R.cells) (hslots : n + F ≤ R.slots) (d : decode cc pc = .ok (.new idx, 3))
    (kk : J G X true (N + 1) (k + 1) (n + F) (pc + 3) lv (.ref (gb G + N) :: st) (va_up σ N (.inr (ci, fs)))) : J G X true N k n pc lv st σ := fun H locs ls hW hS hl => by
  have hts := C.2.2.2.2.1
  have hKn := C.2.2.2.2.2.2.1.1.1 ci _ hF.1
  have hs := hW.2.2 rfl
  have hR : xR X = R := C.2.2.2.2.2.2.2.2
  refine W.newcK C.1 C.2.1 C.2.2.2.1 (hts _ hcl) (hts _ hinst) (hts _ hini) rfl d (by rw [hR]; exact hcells) (by rw [hR]; exact hslots) hKn.2.1 rfl fun H1 kC hkC e1 z1 o1 => ?_
  have hat : va_at G.2.1 vwCl (gb G + N, .inr (ci, fs)) H1 := ⟨_, hF.1, (u_born ty hts hF.2.1 hKn hkC (by rw [hs] at e1; exact e1) hF.2.2.1).to hfs⟩
  have := kk H1 locs ls (hW.new hat z1 o1) (g_S1 hS z1 o1) hl
  rw [← hs] at this
  exact this
theorem g_newa (G : gG) {N : Nat} {σ : gE} {H : Heap} {m : Nat} {cA : ClassId} {x : vp_A} {v : Value} (hW : gW G true N σ H) (hx : vp_cell cA x = arrV cA m (fun _ => v)) :
    gW G true (N + 1) (va_up σ N (.inl (cA, x))) (H.push ({ cls := cA, slots := Array.replicate m v, vm := .none } : Cell)) ∧ (H.push ({ cls := cA, slots := Array.replicate m v, vm := .none } : Cell)).size = H.size + 1 ∧ ∀ q : Nat, q < H.size → (H.push ({ cls := cA, slots := Array.replicate m v, vm := .none } : Cell))[q]? = H[q]? := by
  have hs := hW.2.2 rfl
  generalize hH1 : H.push ({ cls := cA, slots := Array.replicate m v, vm := .none } : Cell) = H1
  have z1 : H1.size = H.size + 1 := by rw [← hH1, Array.size_push]
  have e1 : H1[H.size]? = some (arrV cA m (fun _ => v)) := by rw [← hH1, Array.getElem?_push_size, ← arrV_new]
  have o1 : ∀ q : Nat, q < H.size → H1[q]? = H[q]? := fun q hq => by rw [← hH1, Array.getElem?_push, if_neg (Nat.ne_of_lt hq)]
  refine ⟨hW.new ?_ z1 o1, z1, o1⟩
  show H1[gb G + N]? = some (vp_cell cA x)
  rw [← hs, e1, hx]
theorem j_newa (C : gC G X own cc nL R) {atype : ArrayType} {m : Int32} {M : Nat} {x : vp_A} (t : Nat) (ht : (gT G)[t]? = some (G.2.2.1 t, newarray.typeOf atype)) (hobj : ∀ s, newarray.typeOf atype ≠ .object s) (harr : Cond.arrayClass (newarray.typeOf atype) ∈ gw) (hx : ∀ cA : ClassId, vp_cell cA x = arrV cA M (fun _ => defaultValue (newarray.typeOf atype))) (hm : ¬ m < 0) (hM : m.toNatClampNeg = M) (hbytes : M * componentBytes (newarray.typeOf atype) ≤ 536870912) (hcells : k + 1 ≤ R.cells) (hslots : n + M ≤ R.slots) (d : decode cc pc = .ok (.newarray atype, 2))
    (kk : J G X true (N + 1) (k + 1) (n + M) (pc + 2) lv (.ref (gb G + N) :: st) (va_up σ N (.inl (G.2.2.1 t, x)))) : J G X true N k n pc lv (.int m :: st) σ := fun H locs ls hW hS hl => by
  have hs := hW.2.2 rfl
  have hR : xR X = R := C.2.2.2.2.2.2.2.2
  subst hM
  refine W.newa C.1 C.2.1 (C.2.2.2.2.1 _ harr) rfl d rfl hm hbytes (by rw [hR]; exact hcells) (by rw [hR]; exact hslots) fun cA kA comp f1 f2 f3 => ?_
  have hcA : cA = G.2.2.1 t := by
    have h2 := (C.2.2.2.2.2.2.1.1.2 t _ ht).2
    have h3 : (xs X).vm.findClass ("[" ++ (newarray.typeOf atype).toString) = some (G.2.2.1 t) := by
      generalize newarray.typeOf atype = ty at h2 hobj
      cases ty with
      | object s => exact absurd rfl (hobj s)
      | _ => exact h2
    exact Option.some.inj (f1.symm.trans h3)
  subst hcA
  obtain ⟨w1, w2, w3⟩ := g_newa G hW (hx (G.2.2.1 t))
  have := kk _ locs ls w1 (g_S1 hS w2 w3) hl
  rw [← hs] at this
  exact this
theorem j_anew (C : gC G X own cc nL R) {idx : Nat} {m : Int32} {M : Nat} (hcl : Cond.classLink own idx RX4 ∈ gw) (hm : ¬ m < 0) (hM : m.toNatClampNeg = M) (hbytes : M * 4 ≤ 536870912) (hcells : k + 1 ≤ R.cells) (hslots : n + M ≤ R.slots) (d : decode cc pc = .ok (.anewarray idx, 3))
    (kk : J G X true (N + 1) (k + 1) (n + M) (pc + 3) lv (.ref (gb G + N) :: st) (va_up σ N (.inl (G.2.2.1 2, M, .inr (.inr (.inr (.inr (fun _ => none)))))))) : J G X true N k n pc lv (.int m :: st) σ := fun H locs ls hW hS hl => by
  have hs := hW.2.2 rfl
  have hR : xR X = R := C.2.2.2.2.2.2.2.2
  subst hM
  refine W.anew C.1 C.2.1 C.2.2.2.1 (C.2.2.2.2.1 _ hcl) (va_AO.use C.2.2.2.2.2.2.1.2.2.2.2.2.2) rfl d rfl hm hbytes (by rw [hR]; exact hcells) (by rw [hR]; exact hslots) fun cA kA comp f1 f2 f3 f4 => ?_
  have hcA : cA = G.2.2.1 2 := by
    obtain ⟨_, _, _, _, _, h4⟩ := (C.2.2.2.2.2.2.1.1.2 2 _ rfl).2
    exact Option.some.inj (f1.symm.trans h4)
  subst hcA
  obtain ⟨w1, w2, w3⟩ := g_newa G (cA := G.2.2.1 2) (x := (m.toNatClampNeg, .inr (.inr (.inr (.inr (fun _ => none)))))) hW (vp_cell_q _ _ _)
  have := kk _ locs ls w1 (g_S1 hS w2 w3) hl
  rw [← hs] at this
  exact this
theorem j_objInit (C : gC G X own cc nL R) {idx a : Nat} (hl : Cond.methodLink own idx Lib.objectInit ∈ gw) (hin : Cond.instanceMethod Lib.objectInit ∈ gw) (hc : Cond.code Lib.objectInit ⟨#[0xb1]⟩ 1 none ∈ gw) (hfr : 1 ≤ R.frames) (hlo : 20 ≤ R.locals) (hst : (st.map fun v => v.category).sum ≤ 8) (d : decode cc pc = .ok (.invokespecial idx, 3))
    (kk : J G X ex N k n (pc + 3) lv st σ) : J G X ex N k n pc lv (.ref a :: st) σ := fun H locs ls hW hS hl2 => by
  have hts := C.2.2.2.2.1
  have hR : xR X = R := C.2.2.2.2.2.2.2.2
  refine W.objInit C.1 C.2.1 C.2.2.2.1 (hts _ hl) (hts _ hin) (hts _ hc) rfl hl2.1 rfl d (by rw [hR]; exact hfr) ?_ (kk H locs ls hW hS hl2)
  have : 2 * (F0 (xm X) pc ls (.ref a :: st)).monitorRoom + (st.map fun v => v.category).sum ≤ 8 := lv_room hst
  rw [hR]
  omega
/-! calls -/
theorem g_mono {l : Launch} {y : MethodName} {S : Spec} {P : Array Value → State → Prop} {K : Program → Env → List Frame → State → Array Value → Prop} {Q Q' : Array Value → State → Outcome → State → Prop} (h : MetFree l y S P K Q) (hq : ∀ a st o t, Q a st o t → Q' a st o t) : MetFree l y S P K Q' := by
  intro p e h1 h2 h3 s m args below h4 h5 h6 h7
  obtain ⟨n, o, a1, a2, a3, a4⟩ := h p e h1 h2 h3 s m args below h4 h5 h6 h7
  exact ⟨n, o, a1, a2, a3, hq _ _ _ _ a4⟩
/-- a method that never throws, as the kit has it -/
theorem Sp.met {G : gG} {μ : gM} {rm : Room} {ex : Bool} {N : Nat} {av : List Value} {σ : gE} {Φ : gF} (h : Sp G μ rm ex N av σ Φ) (hx : ∀ E N σ, ¬ Φ (.inr E) N σ) : Met G.1 μ.1 (gWs μ) rm (gPc G ex N av σ) (gQ G ex Φ) rm.cells rm.slots (gA G) := by
  refine g_mono h (fun a st o t hq => ?_)
  rcases hq with hq | ⟨q, -, E, ce, L, ⟨⟨N', σ', hΦ, -⟩, -⟩, -⟩
  · exact hq
  · exact absurd hΦ (hx _ _ _)
theorem j_vx {Φ : gF} {mc ms : Nat} {a0 : Array Value} {stk : List Value}
    (hr : ∀ (H : Heap) (locs : List Loc) (ls : Array Slot), gW G ex N σ H → va_S (gA G) (xs X).heap H locs → gH ls (xc X).maxLocals lv → vx_Run (xp X) G.1 (xe X) (xR X) (xs X) (xm X) (xa X) (xb X) (xh X) (xc X) H locs k n mc ms (F0 (xm X) pc ls stk) st (gQ G ex Φ a0) (gXC G Φ) (gA G))
    (kk : ∀ (v : Option Value) (N' : Nat) (σ' : gE), Φ (.inl v) N' σ' → J G X ex N' (k + mc) (n + ms) (pc + 3) lv (v.toList ++ st) σ')
    (kx : ∀ (E : String) (N' : Nat) (σ' : gE), Φ (.inr E) N' σ' → JX G X N' (k + mc) (n + ms) pc lv st σ' E) : J G X ex N k n pc lv stk σ := by
  intro H locs ls hW hS hl T hT Xs
  rcases hr H locs ls hW hS hl T hT Xs with ⟨v, st₀, t, T', L, h0, X', hL, e1, e2, ⟨⟨v', N', σ', hv, hΦ, hW'⟩, hF⟩, go⟩ | ⟨q, st₀, t, T', L, E, ce, h0, X', hL, e1, e2, ⟨⟨N', σ', hΦ, hW'⟩, hF⟩, hce, hcv, hcl, go⟩
  · cases hv
    have hS' := (vx_keep h0 e1 hS (fun q _ h => h) (fun q h => h) hL hF).2.2
    obtain ⟨t2, a1, b1⟩ := kk v N' σ' hΦ T'.heap (locs ++ L) ls (by rw [e1]; exact hW') hS' hl T' rfl X'
    exact ⟨t2, go t2 a1, b1⟩
  · have hS' := (vx_keep h0 e1 hS (fun q _ h => h) (fun q h => h) hL hF).2.2
    obtain ⟨t2, a1, b1⟩ := kx E N' σ' hΦ T'.heap (locs ++ L) ls q ce (by rw [e1]; exact hW') hS' hl (by rw [e1]; exact hce) hcv hcl T' rfl X'
    exact ⟨t2, go.trans a1, b1⟩
theorem g_pre {μ : gM} {N : Nat} {av : List Value} {σ : gE} {ex : Bool} {H : Heap} {locs : List Loc} (C : gC G X own cc nL R) (hW : gW G ex N σ H) (hS : va_S (gA G) (xs X).heap H locs) : FrameBlind (gPc G ex N av σ) ∧ ∀ U : State, U.heap = H → (xs X).WarmedH U.vm → gPc G ex N av σ av.toArray U :=
  ⟨gPc_blind, fun U hU hw => ⟨rfl, C.2.2.2.2.2.2.1.warm hw, by rw [hU]; exact gZ.moved hw.alike hS C.2.2.2.2.2.2.2.1, by rw [hU]; exact hW⟩⟩
/-- what the tables say of a method that is called -/
def gKn (μ : gM) (na : Nat) : Prop := gCd μ ∈ gw ∧ Cond.initialized μ.1.cls ∈ gw ∧ (μ.1.cls ≠ "java/lang/invoke/MethodHandle" ∧ μ.1.cls ≠ "java/lang/invoke/VarHandle") ∧ (parseMethodDescriptor μ.1.desc).map (fun d => d.parameters.length) = some na
theorem g_goodin {own : String} {L : List Cond} (h : ∀ w ∈ L, w ∈ gw) : GoodIn gw (L ++ gw) := fun w hw => by
  have : w ∈ gw := by
    rcases List.mem_append.mp hw with h1 | h1
    · exact h w h1
    · exact h1
  exact ⟨this, gw_good this⟩
theorem j_callV (C : gC G X own cc nL R) {μ : gM} {rm : Room} {Φ : gF} {As : List Value} {i ci F na idx : Nat} {T : u_T} {fs : List Value} {stk : List Value} (hM : Sp G μ rm ex N (.ref (gb G + i) :: As) σ Φ) (hc : gCd μ = .code μ.1 μ.2.1 μ.2.2.1 μ.2.2.2.1) (hK : gKn μ na) (hin : Cond.instanceMethod μ.1 ∈ gw) (hse : Cond.selects μ.1.cls μ.1 μ.1 ∈ gw) (hlk : Cond.methodLink own idx μ.1 ∈ gw)
    (hs : σ i = .inr (ci, fs)) (hi : i < N) (hci : vwCl[ci]? = some (μ.1.cls, T, F)) (hn : As.length = na) (hstk : stk = As.reverse ++ .ref (gb G + i) :: st) (hcat : (st.map fun v => v.category).sum ≤ 8) (hR : (rm.frames + 1 ≤ R.frames ∧ 8 + (μ.2.2.1 + 11) + rm.locals ≤ R.locals) ∧ k + rm.cells ≤ R.cells ∧ n + rm.slots ≤ R.slots) (d : decode cc pc = .ok (.invokevirtual idx, 3))
    (kk : ∀ (v : Option Value) (N' : Nat) (σ' : gE), Φ (.inl v) N' σ' → J G X ex N' (k + rm.cells) (n + rm.slots) (pc + 3) lv (v.toList ++ st) σ')
    (kx : ∀ (E : String) (N' : Nat) (σ' : gE), Φ (.inr E) N' σ' → JX G X N' (k + rm.cells) (n + rm.slots) pc lv st σ' E) : J G X ex N k n pc lv stk σ := by
  refine j_vx (Φ := Φ) (mc := rm.cells) (ms := rm.slots) (a0 := (Value.ref (gb G + i) :: As).toArray) (fun H locs ls hW hS hl => ?_) kk kx
  have hXR : xR X = R := C.2.2.2.2.2.2.2.2
  have hp := g_pre (μ := μ) (av := .ref (gb G + i) :: As) C hW hS
  have hG : GoodIn gw (wsV own idx μ.1.cls μ.1 (gWs μ)) := by
    have := g_goodin (own := own) (L := [.methodLink own idx μ.1, .instanceMethod μ.1, .selects μ.1.cls μ.1 μ.1, .initialized μ.1.cls, gCd μ]) (fun w hw => by
      simp only [List.mem_cons, List.not_mem_nil, or_false] at hw
      rcases hw with rfl | rfl | rfl | rfl | rfl
      · exact hlk
      · exact hin
      · exact hse
      · exact hK.2.1
      · exact hK.1)
    exact this
  exact vx_runV (Ts := gw) (C := μ.1.cls) (bytes := μ.2.1) (maxL := μ.2.2.1) (ret := μ.2.2.2.1) (n := na) ⟨C.1, C.2.1, C.2.2.1, C.2.2.2.1, C.2.2.2.2.1⟩ hM
    (cwV na C.2.2.2.2.1 hG (ws' := gw) (by rw [← hc]) rfl rfl ⟨rfl, hK.2.2.1.1, hK.2.2.1.2, hK.2.2.2⟩ (by rw [hXR]; exact hR.1))
    ⟨hp.1, va_recv (q := (μ.1.cls, T, F)) C.2.2.2.2.2.2.1.1 (g_P1 (g_at hW hi hs)) hci (q0 := 0) rfl, hp.2⟩ rfl hn (by rw [← C.2.2.1]; exact hl.1) hstk (lv_room hcat) d (by rw [hXR]; exact hR.2)
theorem j_callS (C : gC G X own cc nL R) {μ : gM} {rm : Room} {Φ : gF} {As : List Value} {na idx : Nat} {stk : List Value} (hM : Sp G μ rm ex N As σ Φ) (hc : gCd μ = .code μ.1 μ.2.1 μ.2.2.1 μ.2.2.2.1) (hK : gKn μ na) (hstat : Cond.static μ.1 ∈ gw) (hlk : Cond.methodLink own idx μ.1 ∈ gw)
    (hn : As.length = na) (hstk : stk = As.reverse ++ st) (hcat : (st.map fun v => v.category).sum ≤ 8) (hR : (rm.frames + 1 ≤ R.frames ∧ 8 + (μ.2.2.1 + 11) + rm.locals ≤ R.locals) ∧ k + rm.cells ≤ R.cells ∧ n + rm.slots ≤ R.slots) (d : decode cc pc = .ok (.invokestatic idx, 3))
    (kk : ∀ (v : Option Value) (N' : Nat) (σ' : gE), Φ (.inl v) N' σ' → J G X ex N' (k + rm.cells) (n + rm.slots) (pc + 3) lv (v.toList ++ st) σ')
    (kx : ∀ (E : String) (N' : Nat) (σ' : gE), Φ (.inr E) N' σ' → JX G X N' (k + rm.cells) (n + rm.slots) pc lv st σ' E) : J G X ex N k n pc lv stk σ := by
  refine j_vx (Φ := Φ) (mc := rm.cells) (ms := rm.slots) (a0 := As.toArray) (fun H locs ls hW hS hl => ?_) kk kx
  have hXR : xR X = R := C.2.2.2.2.2.2.2.2
  have hp := g_pre (μ := μ) (av := As) C hW hS
  have hG : GoodIn gw (va_wsS own idx μ.1 (gWs μ)) := by
    have := g_goodin (own := own) (L := [.methodLink own idx μ.1, .static μ.1, .initialized μ.1.cls, gCd μ]) (fun w hw => by
      simp only [List.mem_cons, List.not_mem_nil, or_false] at hw
      rcases hw with rfl | rfl | rfl | rfl
      · exact hlk
      · exact hstat
      · exact hK.2.1
      · exact hK.1)
    exact this
  exact vx_runS (Ts := gw) (own := own) (bytes := μ.2.1) (maxL := μ.2.2.1) (ret := μ.2.2.2.1) (n := na) ⟨C.1, C.2.1, C.2.2.1, C.2.2.2.1, C.2.2.2.2.1⟩ hM
    (va_cwS na C.2.2.2.2.1 hG (ws' := gw) (by rw [← hc]) rfl rfl ⟨hK.2.2.1.1, hK.2.2.1.2, hK.2.2.2⟩ (by rw [hXR]; exact hR.1))
    hp rfl hn (by rw [← C.2.2.1]; exact hl.1) hstk (lv_room hcat) d (by rw [hXR]; exact hR.2)
/-- a call of a method with handlers -/
theorem j_callH (C : gC G X own cc nL R) {μ : gM} {rm : Room} {Φ : gF} {As : List Value} {na idx : Nat} {stk : List Value} (hM : Sp G μ rm ex N As σ Φ) (hc : gCd μ = .codeWith μ.1 μ.2.1 μ.2.2.1 μ.2.2.2.1 μ.2.2.2.2) (hK : gKn μ na) (hstat : Cond.static μ.1 ∈ gw) (hlk : Cond.methodLink own idx μ.1 ∈ gw)
    (hn : As.length = na) (hstk : stk = As.reverse ++ st) (hcat : (st.map fun v => v.category).sum ≤ 8) (hR : (rm.frames + 1 ≤ R.frames ∧ 8 + (μ.2.2.1 + 11) + rm.locals ≤ R.locals) ∧ k + rm.cells ≤ R.cells ∧ n + rm.slots ≤ R.slots) (d : decode cc pc = .ok (.invokestatic idx, 3))
    (kk : ∀ (v : Option Value) (N' : Nat) (σ' : gE), Φ (.inl v) N' σ' → J G X ex N' (k + rm.cells) (n + rm.slots) (pc + 3) lv (v.toList ++ st) σ')
    (kx : ∀ (E : String) (N' : Nat) (σ' : gE), Φ (.inr E) N' σ' → JX G X N' (k + rm.cells) (n + rm.slots) pc lv st σ' E) : J G X ex N k n pc lv stk σ := by
  refine j_vx (Φ := Φ) (mc := rm.cells) (ms := rm.slots) (a0 := As.toArray) (fun H locs ls hW hS hl => ?_) kk kx
  have hXR : xR X = R := C.2.2.2.2.2.2.2.2
  have hp := g_pre (μ := μ) (av := As) C hW hS
  have hG : GoodIn gw (va_wsS own idx μ.1 (gWs μ)) := by
    have := g_goodin (own := own) (L := [.methodLink own idx μ.1, .static μ.1, .initialized μ.1.cls, gCd μ]) (fun w hw => by
      simp only [List.mem_cons, List.not_mem_nil, or_false] at hw
      rcases hw with rfl | rfl | rfl | rfl
      · exact hlk
      · exact hstat
      · exact hK.2.1
      · exact hK.1)
    exact this
  exact vx_runSX (Ts := gw) (own := own) (bytes := μ.2.1) (maxL := μ.2.2.1) (ret := μ.2.2.2.1) (hh := μ.2.2.2.2) (n := na) ⟨C.1, C.2.1, C.2.2.1, C.2.2.2.1, C.2.2.2.2.1⟩ hM
    (vx_cwSW na C.2.2.2.2.1 hG (ws' := gw) (by rw [← hc]) rfl rfl ⟨hK.2.2.1.1, hK.2.2.1.2, hK.2.2.2⟩ (by rw [hXR]; exact hR.1))
    hp rfl hn (by rw [← C.2.2.1]; exact hl.1) hstk (lv_room hcat) d (by rw [hXR]; exact hR.2)
theorem j_callI (C : gC G X own cc nL R) {μ : gM} {rm : Room} {Φ : gF} {As : List Value} {a na idx : Nat} {stk : List Value} (hM : Sp G μ rm ex N (.ref a :: As) σ Φ) (hx : ∀ E N σ, ¬ Φ (.inr E) N σ) (hc : gCd μ = .code μ.1 μ.2.1 μ.2.2.1 none) (hy : μ.1.name = "<init>") (hK : gKn μ na) (hin : Cond.instanceMethod μ.1 ∈ gw) (hlk : Cond.methodLink own idx μ.1 ∈ gw)
    (hn : As.length = na) (hstk : stk = As.reverse ++ .ref a :: st) (hcat : (st.map fun v => v.category).sum ≤ 8) (hR : (rm.frames + 1 ≤ R.frames ∧ 8 + (μ.2.2.1 + 11) + rm.locals ≤ R.locals) ∧ k + rm.cells ≤ R.cells ∧ n + rm.slots ≤ R.slots) (d : decode cc pc = .ok (.invokespecial idx, 3))
    (kk : ∀ (v : Option Value) (N' : Nat) (σ' : gE), Φ (.inl v) N' σ' → J G X ex N' (k + rm.cells) (n + rm.slots) (pc + 3) lv (v.toList ++ st) σ') : J G X ex N k n pc lv stk σ := by
  intro H locs ls hW hS hl T hT Xs
  have hXR : xR X = R := C.2.2.2.2.2.2.2.2
  have hp := g_pre (μ := μ) (av := .ref a :: As) C hW hS
  have hts := C.2.2.2.2.1
  have hG : GoodIn gw (gWs μ) := by
    have := g_goodin (own := own) (L := [gCd μ]) (fun w hw => by
      simp only [List.mem_cons, List.not_mem_nil, or_false] at hw
      rcases hw with rfl
      exact hK.1)
    exact this
  obtain ⟨v, st₀, t, T', L, h0, X', hL, e1, e2, ⟨⟨v', N', σ', hv, hΦ, hW'⟩, hF⟩, go⟩ := va_runI (Ts := gw) (own := own) (bytes := μ.2.1) (maxL := μ.2.2.1) (n := na) (As := As) (rest := st) (g := F0 (xm X) pc ls stk) ⟨C.1, C.2.1, C.2.2.1, C.2.2.2.1, hts⟩ (hM.met hx)
    (cwI na hts hG (ws' := gw) (by rw [← hc]) rfl rfl (hts _ hK.2.1) (hts _ hlk) (hts _ hin) hy ⟨hK.2.2.1.1, hK.2.2.1.2, hK.2.2.2⟩ (by rw [hXR]; exact hR.1))
    hp rfl hn (by rw [← C.2.2.1]; exact hl.1) hstk (lv_room hcat) d (by rw [hXR]; exact hR.2) T hT Xs
  cases hv
  have hS' := (vx_keep h0 e1 hS (fun q _ h => h) (fun q h => h) hL hF).2.2
  obtain ⟨t2, a1, b1⟩ := kk v N' σ' hΦ T'.heap (locs ++ L) ls (by rw [e1]; exact hW') hS' hl T' rfl X'
  exact ⟨t2, go t2 a1, b1⟩
/-! ends -/
theorem g_end {μ : gM} {rm : Room} {Φ : gF} (CM : gCM G X μ rm ex Φ) (hk : k ≤ rm.cells) (hn : n ≤ rm.slots)
    (kk : ∀ (H : Heap) (locs : List Loc) (ls : Array Slot), gW G ex N σ H → va_S (gA G) (xs X).heap H locs → gH ls (xc X).maxLocals lv → W (xp X) G.1 (xe X) (xR X) (xs X) (xm X) (xa X) (xb X) (xh X) (xc X) H locs rm.cells rm.slots (MQ (xb X) (gQ G ex Φ) (xa X) (xs X) rm.cells rm.slots (gA G)) (F0 (xm X) pc ls st)) : J G X ex N k n pc lv st σ := by
  intro H locs ls hW hS hl
  rw [CM.1]
  exact W.widen hk hn (vx_ret (kk H locs ls hW hS hl))
theorem g_post {Φ : gF} {v : Option Value} {H : Heap} {locs : List Loc} (hW : gW G ex N σ H) (hS : va_S (gA G) (xs X).heap H locs) (hΦ : Φ (.inl v) N σ) (t : State) (ht : t.heap = H) (a : Array Value) : gQ G ex Φ a (xs X) (.returned v) t :=
  ⟨⟨v, N, σ, rfl, hΦ, by rw [ht]; exact hW⟩, hS.F ht⟩
theorem j_iret (C : gC G X own cc nL R) {μ : gM} {rm : Room} {Φ : gF} (CM : gCM G X μ rm ex Φ) {v : Int32} (hret : μ.2.2.2.1 = some .int) (hk : k ≤ rm.cells) (hn : n ≤ rm.slots) (d : decode cc pc = .ok (.ireturn, 1)) (hΦ : Φ (.inl (some (.int v))) N σ) : J G X ex N k n pc lv [.int v] σ :=
  g_end CM hk hn fun H locs ls hW hS hl => W.iret C.1 C.2.1 (CM.2.1.trans hret) (fun t ht _ => g_post hW hS hΦ t ht _) hS.2.2 d C.2.2.2.2.2.1
theorem j_zret (C : gC G X own cc nL R) {μ : gM} {rm : Room} {Φ : gF} (CM : gCM G X μ rm ex Φ) {v : Int32} (hret : μ.2.2.2.1 = some .boolean) (hv : narrow .boolean (.int v) = .int v) (hk : k ≤ rm.cells) (hn : n ≤ rm.slots) (d : decode cc pc = .ok (.ireturn, 1)) (hΦ : Φ (.inl (some (.int v))) N σ) : J G X ex N k n pc lv [.int v] σ :=
  g_end CM hk hn fun H locs ls hW hS hl => W.zret C.1 C.2.1 (CM.2.1.trans hret) hv (fun t ht _ => g_post hW hS hΦ t ht _) hS.2.2 d C.2.2.2.2.2.1
theorem j_lret (C : gC G X own cc nL R) {μ : gM} {rm : Room} {Φ : gF} (CM : gCM G X μ rm ex Φ) {v : Int64} (hret : μ.2.2.2.1 = some .long) (hk : k ≤ rm.cells) (hn : n ≤ rm.slots) (d : decode cc pc = .ok (.lreturn, 1)) (hΦ : Φ (.inl (some (.long v))) N σ) : J G X ex N k n pc lv [.long v] σ :=
  g_end CM hk hn fun H locs ls hW hS hl => W.lret C.1 C.2.1 (CM.2.1.trans hret) (fun t ht _ => g_post hW hS hΦ t ht _) hS.2.2 d C.2.2.2.2.2.1
theorem j_fret (C : gC G X own cc nL R) {μ : gM} {rm : Room} {Φ : gF} (CM : gCM G X μ rm ex Φ) {v : UInt32} (hret : μ.2.2.2.1 = some .float) (hk : k ≤ rm.cells) (hn : n ≤ rm.slots) (d : decode cc pc = .ok (.freturn, 1)) (hΦ : Φ (.inl (some (.float v))) N σ) : J G X ex N k n pc lv [.float v] σ :=
  g_end CM hk hn fun H locs ls hW hS hl => W.fret C.1 C.2.1 (CM.2.1.trans hret) (fun t ht _ => g_post hW hS hΦ t ht _) hS.2.2 d C.2.2.2.2.2.1
theorem j_dret (C : gC G X own cc nL R) {μ : gM} {rm : Room} {Φ : gF} (CM : gCM G X μ rm ex Φ) {v : UInt64} (hret : μ.2.2.2.1 = some .double) (hk : k ≤ rm.cells) (hn : n ≤ rm.slots) (d : decode cc pc = .ok (.dreturn, 1)) (hΦ : Φ (.inl (some (.double v))) N σ) : J G X ex N k n pc lv [.double v] σ :=
  g_end CM hk hn fun H locs ls hW hS hl => W.dret C.1 C.2.1 (CM.2.1.trans hret) (fun t ht _ => g_post hW hS hΦ t ht _) hS.2.2 d C.2.2.2.2.2.1
theorem j_aret (C : gC G X own cc nL R) {μ : gM} {rm : Room} {Φ : gF} (CM : gCM G X μ rm ex Φ) {v : Nat} {nm : String} (hret : μ.2.2.2.1 = some (.object nm)) (hk : k ≤ rm.cells) (hn : n ≤ rm.slots) (d : decode cc pc = .ok (.areturn, 1)) (hΦ : Φ (.inl (some (.ref v))) N σ) : J G X ex N k n pc lv [.ref v] σ :=
  g_end CM hk hn fun H locs ls hW hS hl => W.aret C.1 C.2.1 (CM.2.1.trans hret) (Or.inl ⟨nm, rfl⟩) (Or.inr ⟨v, rfl⟩) (fun t ht _ => g_post hW hS hΦ t ht _) hS.2.2 d C.2.2.2.2.2.1
theorem j_vret (C : gC G X own cc nL R) {μ : gM} {rm : Room} {Φ : gF} (CM : gCM G X μ rm ex Φ) (hret : μ.2.2.2.1 = none) (hk : k ≤ rm.cells) (hn : n ≤ rm.slots) (d : decode cc pc = .ok (.return_, 1)) (hΦ : Φ (.inl none) N σ) : J G X ex N k n pc lv [] σ :=
  g_end CM hk hn fun H locs ls hW hS hl => W.vret C.1 C.2.1 (CM.2.1.trans hret) (fun t ht _ => g_post hW hS hΦ t ht _) hS.2.2 d C.2.2.2.2.2.1
/-- a thrown object leaves a method without handlers -/
theorem j_out {μ : gM} {rm : Room} {Φ : gF} {E : String} (C : gC G X own cc nL R) (CM : gCM G X μ rm ex Φ) (hh : μ.2.2.2.2 = []) (hk : k ≤ rm.cells) (hn : n ≤ rm.slots) (hΦ : Φ (.inr E) N σ) : JX G X N k n pc lv st σ E := by
  intro H locs ls q ce hW hS hl hce hv hcl
  rw [CM.1]
  refine vx_out (fun x hx => ?_) C.2.2.2.2.2.1 hce hv hcl (fun t ht hal => ⟨⟨N, σ, hΦ, by rw [ht]; exact hW⟩, hS.F ht⟩) hS.2.2 hk hn
  rw [CM.2.2.1, hh] at hx
  cases hx
theorem g_bad {args : Array Value} {s : State} {cls : String} (hU : gU G s) (hca : (cls, cls) ∈ gCa) : ∀ w ∈ Cond.castable cls cls :: gDc.map Cond.declares, w.before args s = true := by
  refine vx_c ((hU.2.2.2.1 _ hca).use rfl) (fun w hw => ?_)
  obtain ⟨q, hq, rfl⟩ := List.mem_map.mp hw
  exact (hU.2.2.2.2.2.1 q hq).use rfl
/-- throw new E("text") in a method without handlers -/
theorem j_throw {μ : gM} {rm : Room} {Φ : gF} {cls text : String} {names : List String} {ik is ic : Nat} (C : gC G X own cc nL R) (CM : gCM G X μ rm ex Φ) (hh : μ.2.2.2.2 = []) (hcls : Bundle.fit cls = true) (hnames : ∀ n ∈ names, Bundle.fit n = true)
    (hk : Cond.classLink own ik cls ∈ gw) (hini : Cond.initialized cls ∈ gw) (hstr : (own, is, text) ∈ gStr) (hat : ∀ w ∈ (vx_atS own ic cls names).filter goodWord, w ∈ gw) (hat2 : ∀ w ∈ (vx_atS own ic cls names).filter (fun w => !goodWord w), w ∈ Cond.castable cls cls :: gDc.map Cond.declares) (hca : (cls, cls) ∈ gCa)
    (hgood : ∀ w ∈ Cond.classLink own ik cls :: Cond.initialized cls :: vx_atS own ic cls names, vx_ot w = true)
    (d0 : decode cc pc = .ok (.new ik, 3)) (d3 : decode cc (pc + 3) = .ok (.dup, 1)) (d4 : decode cc (pc + 4) = .ok (.ldc is, 2)) (d6 : decode cc (pc + 6) = .ok (.invokespecial ic, 3)) (d9 : decode cc (pc + 9) = .ok (.athrow, 1))
    (hfr : names.length + 3 < R.frames) (hlo : (st.map fun v => v.category).sum + (13 * (names.length + 1) + 43) ≤ R.locals) (hc : k + 1 ≤ R.cells) (hs : n + 6 ≤ R.slots) (hc2 : k + 1 ≤ rm.cells) (hs2 : n + 6 ≤ rm.slots)
    (hΦ : Φ (.inr cls) N σ) : J G X ex N k n pc lv st σ := by
  intro H locs ls hW hS hl
  rw [CM.1]
  have hts := C.2.2.2.2.1
  have hU := C.2.2.2.2.2.2.1
  have hZ := C.2.2.2.2.2.2.2.1
  have hXR : xR X = R := C.2.2.2.2.2.2.2.2
  obtain ⟨sa, hsa⟩ := hU.2.2.1 _ hstr
  refine vx_throwS C.1 C.2.1 hU.2.1 C.2.2.2.1 hcls hnames (hts _ hk) (hts _ hini) hsa (vx_hat (fun w hw => hts w (hat w hw)) hat2 (g_bad hU hca)) hgood hZ.1 hZ.2.1 hS hl.1 d0 d3 d4 d6 d9 (fun x hx => ?_) (by rw [hXR]; exact hfr) (by rw [hXR]; exact hlo) (by rw [hXR]; exact hc) (by rw [hXR]; exact hs) C.2.2.2.2.2.1 (fun t hal hsz hq => ⟨⟨N, σ, hΦ, hW.kept hsz hq⟩, ?_⟩) hS.2.2 hc2 hs2
  · rw [CM.2.2.1, hh] at hx
    cases hx
  · exact ⟨Nat.le_trans hS.1 hsz, fun q h1 h2 => (hq q (Nat.lt_of_lt_of_le h1 hS.1)).trans (hS.2.1 q h1 h2)⟩
/-- the same, where E's maker calls the next one by an index of its own -/
theorem j_throwX {ix : Nat} {rx : ByteArray} (x0 : decode rx 0 = .ok (.aload_n 0, 1)) (x1 : decode rx 1 = .ok (.aload_n 1, 1)) (x2 : decode rx 2 = .ok (.invokespecial ix, 3)) (x5 : decode rx 5 = .ok (.return_, 1)) {μ : gM} {rm : Room} {Φ : gF} {cls text : String} {names : List String} {ik is ic : Nat} (C : gC G X own cc nL R) (CM : gCM G X μ rm ex Φ) (hh : μ.2.2.2.2 = []) (hcls : Bundle.fit cls = true) (hnames : ∀ n ∈ names, Bundle.fit n = true)
    (hk : Cond.classLink own ik cls ∈ gw) (hini : Cond.initialized cls ∈ gw) (hstr : (own, is, text) ∈ gStr) (hat : ∀ w ∈ (gx_at own ic cls ix rx names).filter goodWord, w ∈ gw) (hat2 : ∀ w ∈ (gx_at own ic cls ix rx names).filter (fun w => !goodWord w), w ∈ Cond.castable cls cls :: gDc.map Cond.declares) (hca : (cls, cls) ∈ gCa)
    (hgood : ∀ w ∈ Cond.classLink own ik cls :: Cond.initialized cls :: gx_at own ic cls ix rx names, vx_ot w = true)
    (d0 : decode cc pc = .ok (.new ik, 3)) (d3 : decode cc (pc + 3) = .ok (.dup, 1)) (d4 : decode cc (pc + 4) = .ok (.ldc is, 2)) (d6 : decode cc (pc + 6) = .ok (.invokespecial ic, 3)) (d9 : decode cc (pc + 9) = .ok (.athrow, 1))
    (hfr : names.length + 3 < R.frames) (hlo : (st.map fun v => v.category).sum + (13 * (names.length + 1) + 43) ≤ R.locals) (hc : k + 1 ≤ R.cells) (hs : n + 6 ≤ R.slots) (hc2 : k + 1 ≤ rm.cells) (hs2 : n + 6 ≤ rm.slots)
    (hΦ : Φ (.inr cls) N σ) : J G X ex N k n pc lv st σ := by
  intro H locs ls hW hS hl
  rw [CM.1]
  have hts := C.2.2.2.2.1
  have hU := C.2.2.2.2.2.2.1
  have hZ := C.2.2.2.2.2.2.2.1
  have hXR : xR X = R := C.2.2.2.2.2.2.2.2
  obtain ⟨sa, hsa⟩ := hU.2.2.1 _ hstr
  refine gx_throw x0 x1 x2 x5 C.1 C.2.1 hU.2.1 C.2.2.2.1 hcls hnames (hts _ hk) (hts _ hini) hsa (vx_hat (fun w hw => hts w (hat w hw)) hat2 (g_bad hU hca)) hgood hZ.1 hZ.2.1 hS hl.1 d0 d3 d4 d6 d9 (fun x hx => ?_) (by rw [hXR]; exact hfr) (by rw [hXR]; exact hlo) (by rw [hXR]; exact hc) (by rw [hXR]; exact hs) C.2.2.2.2.2.1 (fun t hal hsz hq => ⟨⟨N, σ, hΦ, hW.kept hsz hq⟩, ?_⟩) hS.2.2 hc2 hs2
  · rw [CM.2.2.1, hh] at hx
    cases hx
  · exact ⟨Nat.le_trans hS.1 hsz, fun q h1 h2 => (hq q (Nat.lt_of_lt_of_le h1 hS.1)).trans (hS.2.1 q h1 h2)⟩
/-- a handler takes it -/
theorem j_catch {μ : gM} {rm : Room} {Φ : gF} {E name : String} (C : gC G X own cc nL R) (CM : gCM G X μ rm ex Φ) (pre : List ExceptionTableEntry) (x : ExceptionTableEntry) (suf : List ExceptionTableEntry) (hsplit : tableOf μ.2.2.2.2 = pre ++ x :: suf)
    (hpass : ∀ z ∈ pre, covers z pc = false ∨ (z.catchType ≠ 0 ∧ ∃ nm : String, Cond.classLink own z.catchType nm ∈ gw ∧ (E, nm) ∈ gNc)) (hx : covers x pc = true) (h0 : x.catchType ≠ 0) (hlink : Cond.classLink own x.catchType name ∈ gw) (hcast : (E, name) ∈ gCa)
    (kk : ∀ q : Nat, J G X false N k n x.handlerPc lv [.ref q] σ) : JX G X N k n pc lv st σ E := by
  intro H locs ls q ce hW hS hl hce hv hcl
  have hts := C.2.2.2.2.1
  have hU := C.2.2.2.2.2.2.1
  refine vx_catch C.2.2.2.1 pre x suf (CM.2.2.1.trans hsplit) (fun z hz => ?_) hx h0 (hts _ hlink) ((hU.2.2.2.1 _ hcast).use rfl) hce hv hcl (kk q H locs ls hW hS hl)
  rcases hpass z hz with h | ⟨h1, nm, h2, h3⟩
  · exact Or.inl h
  · exact Or.inr ⟨h1, nm, hts _ h2, hU.2.2.2.2.1 _ h3⟩
theorem Sp.of {G : gG} {μ : gM} {rm : Room} {ex : Bool} {N : Nat} {av : List Value} {σ : gE} {Φ : gF} (hpl : plainName μ.1.cls = true) (hlen : (lg_sl av).length ≤ μ.2.2.1)
    (h : ∀ X : gX, gC G X μ.1.cls μ.2.1 μ.2.2.1 rm → gCM G X μ rm ex Φ → J G X ex N 0 0 0 (gEnt av μ.2.2.1) [] σ) : Sp G μ rm ex N av σ Φ := by
  have main : ∀ (p : Program) (e : Env) (s : State) (m : MethodId) (args : Array Value) (below : List Frame) (meth : Method) (c : Code) (s₁ : State), BodyLoose p G.1 μ.1 (headSpec (gWs μ) rm) μ.2.1 μ.2.2.1 μ.2.2.2.1 e s m args below meth c s₁ → c.maxLocals = μ.2.2.1 → c.exceptionTable.toList = tableOf μ.2.2.2.2 → gPc G ex N av σ args s →
      W p G.1 e (headSpec (gWs μ) rm).room s m args below meth c s.heap [] 0 0 (vx_MQ below (gQ G ex Φ) (gXC G Φ) args s rm.cells rm.slots (gA G)) (entryFrame m args μ.2.2.1) := by
    intro p e s m args below meth c s₁ B hml htb hv
    obtain ⟨rfl, hU, hZ, hW⟩ := hv
    have hts := atoms_spec (ws := gWs μ) B.pre
    have key := h (p, e, rm, s, m, av.toArray, below, meth, c, vx_MQ below (gQ G ex Φ) (gXC G Φ) av.toArray s rm.cells rm.slots (gA G))
      ⟨B.exec, B.bytes, hml, findClass_of_methodNamed B.named, fun w hw => hts w (List.mem_cons_of_mem _ hw), B.notSynchronized, hU, hZ, rfl⟩
      ⟨rfl, B.returns, htb, (name_of_methodNamed B.named B.method).1⟩
    rw [lg_entry_eq]
    exact key s.heap [] _ hW va_S.rf (by
      have := gH_entry av hlen
      show gH _ c.maxLocals _
      rw [hml]
      exact this)
  cases hh : μ.2.2.2.2 with
  | nil =>
    refine vx_ofW (cc := μ.2.1) (maxL := μ.2.2.1) (ret := μ.2.2.2.1) hpl (ws' := gw) (by show gCd μ :: gw = _; unfold gCd; rw [hh]) ?_
    intro p e s m args below meth c s₁ B hml htb hv
    exact main p e s m args below meth c s₁ B hml (by rw [hh]; exact List.eq_nil_iff_forall_not_mem.mpr (fun x hx => htb x hx)) hv
  | cons a r =>
    have hcd : gCd μ = .codeWith μ.1 μ.2.1 μ.2.2.1 μ.2.2.2.1 μ.2.2.2.2 := by unfold gCd; rw [hh]
    refine vx_ofWH (cc := μ.2.1) (maxL := μ.2.2.1) (ret := μ.2.2.2.1) (hh := μ.2.2.2.2) hpl (ws' := gw) (by show gCd μ :: gw = _; rw [hcd]) ?_
    intro p e s m args below meth c s₁ B hml hv
    have hts := atoms_spec (ws := gWs μ) B.pre
    exact main p e s m args below meth c s₁ B hml (vx_table (x := μ.1) (y := μ.1) B (by rw [← hcd]; exact hts _ List.mem_cons_self)) hv

end JROWS
