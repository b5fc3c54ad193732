/-! Long.bitCount -/
def pc8 (b : Nat) : Nat := cntN (fun i => b.testBit i) 8
def mk8 (c : Nat) : Nat → Nat
  | 0 => 0
  | k + 1 => 256 * mk8 c k + c
theorem and_split {a b c d : Nat} (hb : b < 256) (hd : d < 256) : (256 * a + b) &&& (256 * c + d) = 256 * (a &&& c) + (b &&& d) := by
  have hbd : b &&& d < 2 ^ 8 := Nat.and_lt_two_pow b hd
  apply Nat.eq_of_testBit_eq
  intro j
  rw [Nat.testBit_and, show (256 : Nat) = 2 ^ 8 from rfl, Nat.testBit_two_pow_mul_add a hb, Nat.testBit_two_pow_mul_add c hd, Nat.testBit_two_pow_mul_add _ hbd]
  split
  · rw [Nat.testBit_and]
  · rw [Nat.testBit_and]
def bt1 (m x : Nat) : Nat := x - ((x / 2) &&& m)
def bt2 (m x : Nat) : Nat := (x &&& m) + ((x / 4) &&& m)
def bt3 (m x : Nat) : Nat := (x + x / 16) &&& m
theorem bt1_d : ∀ r, r < 2 → ∀ l, l < 256 → ((r * 128 + l / 2) &&& 85) = ((l / 2) &&& 85) ∧ ((l / 2) &&& 85) ≤ l ∧ r * 128 + l / 2 < 256 := by decide +kernel
theorem bt2_d : ∀ r, r < 4 → ∀ l, l < 256 → ((r * 64 + l / 4) &&& 51) = ((l / 4) &&& 51) ∧ r * 64 + l / 4 < 256 := by decide +kernel
def bz (l : Nat) : Nat := bt2 51 (bt1 85 l)
theorem bz_d : ∀ l, l < 256 → bt1 85 l < 256 ∧ bz l < 256 ∧ bz l % 16 ≤ 4 := by decide +kernel
theorem bt3_d : ∀ r, r < 5 → ∀ l, l < 256 → ((bz l + r * 16 + bz l / 16) &&& 15) = pc8 l ∧ bz l + r * 16 + bz l / 16 < 256 := by decide +kernel
theorem bt1_s {m h l : Nat} (hl : l < 256) : bt1 (256 * m + 85) (256 * h + l) = 256 * bt1 m h + bt1 85 l := by
  obtain ⟨d1, d2, d3⟩ := bt1_d (h % 2) (Nat.mod_lt _ (by decide)) l hl
  unfold bt1
  rw [show (256 * h + l) / 2 = 256 * (h / 2) + (h % 2 * 128 + l / 2) by omega, and_split d3 (by decide), d1]
  have : (h / 2) &&& m ≤ h := Nat.le_trans Nat.and_le_left (Nat.div_le_self _ _)
  omega
theorem bt2_s {m h l : Nat} (hl : l < 256) : bt2 (256 * m + 51) (256 * h + l) = 256 * bt2 m h + bt2 51 l := by
  obtain ⟨d1, d3⟩ := bt2_d (h % 4) (Nat.mod_lt _ (by decide)) l hl
  unfold bt2
  rw [show (256 * h + l) / 4 = 256 * (h / 4) + (h % 4 * 64 + l / 4) by omega, and_split d3 (by decide), and_split hl (by decide), d1]
  omega
def bB (k x : Nat) : Nat := bt2 (mk8 51 k) (bt1 (mk8 85 k) x)
theorem bB_s (k x : Nat) : bB (k + 1) x = 256 * bB k (x / 256) + bz (x % 256) := by
  have hl : x % 256 < 256 := Nat.mod_lt _ (by decide)
  unfold bB
  show bt2 (256 * mk8 51 k + 51) (bt1 (256 * mk8 85 k + 85) x) = _
  have e : x = 256 * (x / 256) + x % 256 := by omega
  rw [show bt1 (256 * mk8 85 k + 85) x = 256 * bt1 (mk8 85 k) (x / 256) + bt1 85 (x % 256) by
    conv => lhs; rw [e]
    exact bt1_s hl]
  rw [bt2_s (bz_d _ hl).1]
  rfl
theorem bB_m (k x : Nat) : bB k x % 16 ≤ 4 := by
  cases k with
  | zero =>
    unfold bB bt2
    simp [mk8]
  | succ k =>
    rw [bB_s]
    have := (bz_d (x % 256) (Nat.mod_lt _ (by decide))).2.2
    omega
def bV : Nat → Nat → Nat
  | 0, _ => 0
  | k + 1, x => 256 * bV k (x / 256) + pc8 (x % 256)
theorem bV_eq : ∀ k x, bt3 (mk8 15 k) (bB k x) = bV k x := by
  intro k
  induction k with
  | zero => intro x; unfold bt3; simp [mk8, bV]
  | succ k ih =>
    intro x
    have hl : x % 256 < 256 := Nat.mod_lt _ (by decide)
    have hm := bB_m k (x / 256)
    obtain ⟨d1, d2⟩ := bt3_d (bB k (x / 256) % 16) (by omega) _ hl
    rw [bB_s]
    show bt3 (256 * mk8 15 k + 15) _ = 256 * bV k (x / 256) + pc8 (x % 256)
    rw [← ih]
    unfold bt3
    rw [show 256 * bB k (x / 256) + bz (x % 256) + (256 * bB k (x / 256) + bz (x % 256)) / 16 = 256 * (bB k (x / 256) + bB k (x / 256) / 16) + (bz (x % 256) + bB k (x / 256) % 16 * 16 + bz (x % 256) / 16) by omega, and_split d2 (by decide), d1]
theorem cnt_add (P : Nat → Bool) (a b : Nat) : cntN P (a + b) = cntN P a + cntN (fun i => P (a + i)) b := by
  induction b with
  | zero => rfl
  | succ b ih => rw [← Nat.add_assoc, cntN_s, cntN_s, ih]; omega
def bSV : Nat → Nat → Nat
  | 0, _ => 0
  | k + 1, x => pc8 (x % 256) + bSV k (x / 256)
theorem bSV_eq : ∀ k x, cntN (fun i => x.testBit i) (8 * k) = bSV k x := by
  intro k
  induction k with
  | zero => intro x; rfl
  | succ k ih =>
    intro x
    rw [show 8 * (k + 1) = 8 + 8 * k by omega, cnt_add]
    show _ = pc8 (x % 256) + bSV k (x / 256)
    rw [← ih]
    congr 1
    · unfold pc8
      apply cnt_congr
      intro i hi
      rw [show (256 : Nat) = 2 ^ 8 from rfl, Nat.testBit_mod_two_pow]
      simp [hi]
    · apply cnt_congr
      intro i hi
      rw [show (256 : Nat) = 2 ^ 8 from rfl, Nat.testBit_div_two_pow]
      rw [Nat.add_comm]
theorem pc8_le (b : Nat) : pc8 b ≤ 8 := cnt_le _ _
theorem bV_div (k x : Nat) : bV (k + 1) x = 256 * bV k (x / 256) + pc8 (x % 256) := rfl
theorem dv_n {a b c r : Nat} (h0 : 0 < b) (h : a = b * c + r) (hr : r < b) : a / b = c := by
  rw [h, Nat.mul_add_div h0, Nat.div_eq_of_lt hr, Nat.add_zero]
theorem md_n {a b c r : Nat} (h : a = b * c + r) (hr : r < b) : a % b = r := by
  rw [h, Nat.mul_add_mod]
  exact Nat.mod_eq_of_lt hr
theorem bs_1 {p0 p1 p2 : Nat} (h0 : p0 ≤ 8) (h1 : p1 ≤ 8) (h2 : p2 ≤ 8) : 256 * p1 + p0 + 256 * p2 + p1 < 65536 := by omega
theorem bs_2 {p0 p1 p2 p3 : Nat} (h0 : p0 ≤ 8) (h1 : p1 ≤ 8) (h2 : p2 ≤ 8) (h3 : p3 ≤ 8) : 16777216 * p3 + 65536 * p2 + 256 * p1 + p0 ≤ 134744072 := by omega
theorem bs_3 {a b c d : Nat} (ha : a ≤ 134744072) (hb : b ≤ 134744072) (hc : c ≤ 134744072) (hd : d ≤ 134744072) : a + b + c + d < 4294967296 := by omega
theorem bs_4 {p0 p1 p2 p3 p4 p5 p6 p7 : Nat} (h0 : p0 ≤ 8) (h1 : p1 ≤ 8) (h2 : p2 ≤ 8) (h3 : p3 ≤ 8) (h4 : p4 ≤ 8) (h5 : p5 ≤ 8) (h6 : p6 ≤ 8) (h7 : p7 ≤ 8) : p0 + p1 + p2 + p3 + p4 + p5 + p6 + p7 < 128 := by omega
theorem bs_5 {v w p B : Nat} (e : v = 256 * w + p) (hw : w ≤ B) (hp : p ≤ 8) : v ≤ 256 * B + 8 := by omega
theorem bs_6 {v0 v1 v2 v3 v4 v5 v6 v7 : Nat} (b0 : v0 ≤ 578721382704613384) (b1 : v1 ≤ 578721382704613384) (b2 : v2 ≤ 578721382704613384) (b3 : v3 ≤ 578721382704613384) (b4 : v4 ≤ 578721382704613384) (b5 : v5 ≤ 578721382704613384) (b6 : v6 ≤ 578721382704613384) (b7 : v7 ≤ 578721382704613384) : v0 + v1 + (v2 + v3) + (v4 + v5 + v6 + v7) < 18446744073709551616 := by omega
theorem bs_7 {v0 v1 v2 v3 v4 p0 p1 p2 p3 : Nat} (e0 : v0 = 256 * v1 + p0) (e1 : v1 = 256 * v2 + p1) (e2 : v2 = 256 * v3 + p2) (e3 : v3 = 256 * v4 + p3) : v0 = 4294967296 * v4 + (16777216 * p3 + 65536 * p2 + 256 * p1 + p0) := by omega
theorem bs_8 {v0 v1 v2 v3 p0 p1 p2 : Nat} (e0 : v0 = 256 * v1 + p0) (e1 : v1 = 256 * v2 + p1) (e2 : v2 = 256 * v3 + p2) : v0 + v1 = 65536 * (v2 + v3) + (256 * p1 + p0 + 256 * p2 + p1) := by omega
theorem bs_9 {v0 v1 v2 v3 v4 v5 v6 v7 a b c d B : Nat} (s0 : v0 = B * v4 + a) (s1 : v1 = B * v5 + b) (s2 : v2 = B * v6 + c) (s3 : v3 = B * v7 + d) : v0 + v1 + (v2 + v3) = B * (v4 + v5 + v6 + v7) + (a + b + c + d) := by
  rw [s0, s1, s2, s3, Nat.mul_add, Nat.mul_add, Nat.mul_add]
  omega
theorem bs_10 {v0 v1 v2 v3 v4 v5 v6 v7 p0 p1 p2 p3 p4 p5 p6 p7 : Nat} (e0 : v0 = 256 * v1 + p0) (e1 : v1 = 256 * v2 + p1) (e2 : v2 = 256 * v3 + p2) (e3 : v3 = 256 * v4 + p3) (e4 : v4 = 256 * v5 + p4) (e5 : v5 = 256 * v6 + p5) (e6 : v6 = 256 * v7 + p6) (e7 : v7 = p7) : v0 + v1 + (v2 + v3) + (v4 + v5 + v6 + v7) = 128 * (2 * (v1 + v2 + v3 + v4 + v5 + v6 + v7)) + (p0 + p1 + p2 + p3 + p4 + p5 + p6 + p7) := by omega
theorem bfin0 {v0 v1 v2 v3 v4 v5 v6 v7 p0 p1 p2 p3 p4 p5 p6 p7 : Nat} (h0 : p0 ≤ 8) (h1 : p1 ≤ 8) (h2 : p2 ≤ 8) (h3 : p3 ≤ 8) (h4 : p4 ≤ 8) (h5 : p5 ≤ 8) (h6 : p6 ≤ 8) (h7 : p7 ≤ 8)
    (e0 : v0 = 256 * v1 + p0) (e1 : v1 = 256 * v2 + p1) (e2 : v2 = 256 * v3 + p2) (e3 : v3 = 256 * v4 + p3) (e4 : v4 = 256 * v5 + p4) (e5 : v5 = 256 * v6 + p5) (e6 : v6 = 256 * v7 + p6) (e7 : v7 = p7) :
    v0 / 256 = v1 ∧ (v0 + v1) / 65536 = v2 + v3 ∧ (v0 + v1 + (v2 + v3)) / 4294967296 = v4 + v5 + v6 + v7 ∧ (v0 + v1 + (v2 + v3) + (v4 + v5 + v6 + v7)) % 128 = p0 + p1 + p2 + p3 + p4 + p5 + p6 + p7 ∧ v0 + v1 + (v2 + v3) + (v4 + v5 + v6 + v7) < 18446744073709551616 := by
  have b7 : v7 ≤ 8 := by rw [e7]; exact h7
  have b6 := bs_5 e6 b7 h6
  have b5 := bs_5 e5 b6 h5
  have b4 := bs_5 e4 b5 h4
  have b3 := bs_5 e3 b4 h3
  have b2 := bs_5 e2 b3 h2
  have b1 := bs_5 e1 b2 h1
  have b0 := bs_5 e0 b1 h0
  have z7 : v7 = 256 * 0 + p7 := by rw [e7, Nat.mul_zero, Nat.zero_add]
  refine ⟨dv_n (Nat.le_of_ble_eq_true rfl) e0 (Nat.lt_of_le_of_lt h0 (Nat.le_of_ble_eq_true rfl)), dv_n (Nat.le_of_ble_eq_true rfl) (bs_8 e0 e1 e2) (bs_1 h0 h1 h2), dv_n (Nat.le_of_ble_eq_true rfl) (bs_9 (bs_7 e0 e1 e2 e3) (bs_7 e1 e2 e3 e4) (bs_7 e2 e3 e4 e5) (bs_7 e3 e4 e5 e6)) (bs_3 (bs_2 h0 h1 h2 h3) (bs_2 h1 h2 h3 h4) (bs_2 h2 h3 h4 h5) (bs_2 h3 h4 h5 h6)), md_n (bs_10 e0 e1 e2 e3 e4 e5 e6 e7) (bs_4 h0 h1 h2 h3 h4 h5 h6 h7), ?_⟩
  exact bs_6 (Nat.le_trans b0 (Nat.le_of_ble_eq_true rfl)) (Nat.le_trans b1 (Nat.le_of_ble_eq_true rfl)) (Nat.le_trans b2 (Nat.le_of_ble_eq_true rfl)) (Nat.le_trans b3 (Nat.le_of_ble_eq_true rfl)) (Nat.le_trans b4 (Nat.le_of_ble_eq_true rfl)) (Nat.le_trans b5 (Nat.le_of_ble_eq_true rfl)) (Nat.le_trans b6 (Nat.le_of_ble_eq_true rfl)) (Nat.le_trans b7 (Nat.le_of_ble_eq_true rfl))
theorem bfin {x v : Nat} (hv : v = bV 8 x) : (v + v / 256 + (v + v / 256) / 65536 + (v + v / 256 + (v + v / 256) / 65536) / 4294967296) % 128 = bSV 8 x ∧ v + v / 256 + (v + v / 256) / 65536 + (v + v / 256 + (v + v / 256) / 65536) / 4294967296 < 18446744073709551616 := by
  obtain ⟨f1, f2, f3, f4, f5⟩ := bfin0 (pc8_le _) (pc8_le _) (pc8_le _) (pc8_le _) (pc8_le _) (pc8_le _) (pc8_le _) (pc8_le _) (hv.trans (bV_div 7 x)) (bV_div 6 _) (bV_div 5 _) (bV_div 4 _) (bV_div 3 _) (bV_div 2 _) (bV_div 1 _) (show bV 1 (x / 256 / 256 / 256 / 256 / 256 / 256 / 256) = pc8 (x / 256 / 256 / 256 / 256 / 256 / 256 / 256 % 256) by rw [bV_div]; show 256 * 0 + _ = _; rw [Nat.mul_zero, Nat.zero_add])
  rw [f1, f2, f3, f4]
  refine ⟨?_, f5⟩
  simp only [bSV]
  omega
def lsh (x : Int64) (k : Nat) : Int64 := (x.toUInt64 >>> ((nI k).toInt64.toUInt64 &&& Int64.toUInt64 63)).toInt64
def bcL (x : Int64) : Int32 :=
  let a := x - (lsh x 1 &&& 6148914691236517205)
  let b := (a &&& 3689348814741910323) + (lsh a 2 &&& 3689348814741910323)
  let c := (b + lsh b 4) &&& 1085102592571150095
  let d := c + lsh c 8
  let e := d + lsh d 16
  let f := e + lsh e 32
  f.toInt32 &&& nI 127
theorem uN_and (x y : Int64) : uN (x &&& y) = uN x &&& uN y := by
  show (x.toUInt64 &&& y.toUInt64).toNat = _
  exact UInt64.toNat_and _ _
theorem uN_sub {x y : Int64} (h : uN y ≤ uN x) : uN (x - y) = uN x - uN y := by
  have h1 := uN_lt x
  show (x.toUInt64 - y.toUInt64).toNat = _
  rw [UInt64.toNat_sub]
  unfold uN at *
  omega
theorem uN_lsh (x : Int64) {k : Nat} (hk : k < 64) : uN (lsh x k) = uN x / 2 ^ k := uN_sk x hk
theorem bcL_eq (x : Int64) : bcL x = nI (cntN (tb x) 64) := by
  have hx := uN_lt x
  have m85 : uN 6148914691236517205 = mk8 85 8 := by decide +kernel
  have m51 : uN 3689348814741910323 = mk8 51 8 := by decide +kernel
  have m15 : uN 1085102592571150095 = mk8 15 8 := by decide +kernel
  simp only [bcL]
  generalize ha : x - (lsh x 1 &&& 6148914691236517205) = a
  generalize hb : (a &&& 3689348814741910323) + (lsh a 2 &&& 3689348814741910323) = b
  generalize hc : (b + lsh b 4) &&& 1085102592571150095 = c
  generalize hd : c + lsh c 8 = d
  generalize he : d + lsh d 16 = e
  generalize hf : e + lsh e 32 = f
  have a1 : uN a = bt1 (mk8 85 8) (uN x) := by
    have hs : uN (lsh x 1 &&& 6148914691236517205) = (uN x / 2) &&& mk8 85 8 := by rw [uN_and, uN_lsh x (by decide), m85]
    rw [← ha, uN_sub (by rw [hs]; exact Nat.le_trans Nat.and_le_left (Nat.div_le_self _ _)), hs]
    rfl
  have b0 : ∀ y, bt2 (mk8 51 8) y < 18446744073709551616 := fun y => by
    unfold bt2
    have q1 : y &&& mk8 51 8 ≤ mk8 51 8 := Nat.and_le_right
    have q2 : (y / 4) &&& mk8 51 8 ≤ mk8 51 8 := Nat.and_le_right
    have q3 : mk8 51 8 = 3689348814741910323 := by decide +kernel
    omega
  have b1 : uN b = bB 8 (uN x) := by
    rw [← hb, uN_add, uN_and, uN_and, uN_lsh a (by decide), m51, a1]
    exact Nat.mod_eq_of_lt (b0 _)
  have bb : bB 8 (uN x) ≤ 7378697629483820646 := by
    unfold bB bt2
    have q1 : bt1 (mk8 85 8) (uN x) &&& mk8 51 8 ≤ mk8 51 8 := Nat.and_le_right
    have q2 : (bt1 (mk8 85 8) (uN x) / 4) &&& mk8 51 8 ≤ mk8 51 8 := Nat.and_le_right
    have q3 : mk8 51 8 = 3689348814741910323 := by decide +kernel
    omega
  have c1 : uN c = bV 8 (uN x) := by
    rw [← hc, uN_and, uN_add, uN_lsh b (by decide), m15, b1, ← bV_eq]
    rw [Nat.mod_eq_of_lt (by omega)]
    rfl
  obtain ⟨f1, f2⟩ := bfin c1
  have d1 : uN d = uN c + uN c / 256 := by
    rw [← hd, uN_add, uN_lsh c (by decide)]
    exact Nat.mod_eq_of_lt (by omega)
  have e1 : uN e = uN d + uN d / 65536 := by
    rw [← he, uN_add, uN_lsh d (by decide), d1]
    exact Nat.mod_eq_of_lt (by omega)
  have g1 : uN f = uN e + uN e / 4294967296 := by
    rw [← hf, uN_add, uN_lsh e (by decide), e1, d1]
    exact Nat.mod_eq_of_lt (by omega)
  have key : uN f % 128 = cntN (tb x) 64 := by
    rw [g1, e1, d1, f1, ← bSV_eq]
    rfl
  show f.toInt32 &&& nI 127 = _
  rw [← key]
  have h1 := pk_and f.toInt32 (m := nI 127) 7 (by decide +kernel)
  rw [h1]
  congr 1
  have h2 : f.toInt32.toBitVec.toNat = uN f % 2 ^ 32 := by
    obtain ⟨z, hz, ez⟩ := wb_of f
    rw [ez, lN_i]
    have q1 : uN (lN z) = z := wb_tn hz
    rw [q1]
    show (BitVec.ofNat 32 z).toNat = _
    exact BitVec.toNat_ofNat ..
  rw [h2]
  omega
set_option maxHeartbeats 4000000 in
set_option maxRecDepth 100000 in
theorem sp_J13_bitCount_95d88 (G : gG) (M : gMem) (x : Int64) : SpR G mJ13_bitCount_95d88 (gRm 0 0) [.long x] M (some (.int (bcL x))) M := by
  refine Sp.of (by decide +kernel) (Nat.le_of_ble_eq_true rfl) (fun X C CM => ?_)
  have C : gC G X RJ13 cJ13_bitCount_95d88 2 (gRm 0 0) := C
  refine j_lload_n C dJ13_bitCount_95d88_0 rfl ?_
  refine j_lload_n C dJ13_bitCount_95d88_1 rfl ?_
  refine j_iconst C (v := nI 1) dJ13_bitCount_95d88_2 rfl ?_
  refine j_lushr C dJ13_bitCount_95d88_3 ?_
  refine j_ldc2 C (6148914691236517205) ll_J13_314 dJ13_bitCount_95d88_4 ?_
  refine j_land C dJ13_bitCount_95d88_7 ?_
  refine j_lsub C dJ13_bitCount_95d88_8 ?_
  refine j_lstore_n C dJ13_bitCount_95d88_9 (by decide) rfl ?_
  refine j_lload_n C dJ13_bitCount_95d88_10 rfl ?_
  refine j_ldc2 C (3689348814741910323) ll_J13_316 dJ13_bitCount_95d88_11 ?_
  refine j_land C dJ13_bitCount_95d88_14 ?_
  refine j_lload_n C dJ13_bitCount_95d88_15 rfl ?_
  refine j_iconst C (v := nI 2) dJ13_bitCount_95d88_16 rfl ?_
  refine j_lushr C dJ13_bitCount_95d88_17 ?_
  refine j_ldc2 C (3689348814741910323) ll_J13_316 dJ13_bitCount_95d88_18 ?_
  refine j_land C dJ13_bitCount_95d88_21 ?_
  refine j_ladd C dJ13_bitCount_95d88_22 ?_
  refine j_lstore_n C dJ13_bitCount_95d88_23 (by decide) rfl ?_
  refine j_lload_n C dJ13_bitCount_95d88_24 rfl ?_
  refine j_lload_n C dJ13_bitCount_95d88_25 rfl ?_
  refine j_iconst C (v := nI 4) dJ13_bitCount_95d88_26 rfl ?_
  refine j_lushr C dJ13_bitCount_95d88_27 ?_
  refine j_ladd C dJ13_bitCount_95d88_28 ?_
  refine j_ldc2 C (1085102592571150095) ll_J13_318 dJ13_bitCount_95d88_29 ?_
  refine j_land C dJ13_bitCount_95d88_32 ?_
  refine j_lstore_n C dJ13_bitCount_95d88_33 (by decide) rfl ?_
  refine j_lload_n C dJ13_bitCount_95d88_34 rfl ?_
  refine j_lload_n C dJ13_bitCount_95d88_35 rfl ?_
  refine j_bipush C (v := nI 8) dJ13_bitCount_95d88_36 rfl ?_
  refine j_lushr C dJ13_bitCount_95d88_38 ?_
  refine j_ladd C dJ13_bitCount_95d88_39 ?_
  refine j_lstore_n C dJ13_bitCount_95d88_40 (by decide) rfl ?_
  refine j_lload_n C dJ13_bitCount_95d88_41 rfl ?_
  refine j_lload_n C dJ13_bitCount_95d88_42 rfl ?_
  refine j_bipush C (v := nI 16) dJ13_bitCount_95d88_43 rfl ?_
  refine j_lushr C dJ13_bitCount_95d88_45 ?_
  refine j_ladd C dJ13_bitCount_95d88_46 ?_
  refine j_lstore_n C dJ13_bitCount_95d88_47 (by decide) rfl ?_
  refine j_lload_n C dJ13_bitCount_95d88_48 rfl ?_
  refine j_lload_n C dJ13_bitCount_95d88_49 rfl ?_
  refine j_bipush C (v := nI 32) dJ13_bitCount_95d88_50 rfl ?_
  refine j_lushr C dJ13_bitCount_95d88_52 ?_
  refine j_ladd C dJ13_bitCount_95d88_53 ?_
  refine j_lstore_n C dJ13_bitCount_95d88_54 (by decide) rfl ?_
  refine j_lload_n C dJ13_bitCount_95d88_55 rfl ?_
  refine j_l2i C dJ13_bitCount_95d88_56 ?_
  refine j_bipush C (v := nI 127) dJ13_bitCount_95d88_57 rfl ?_
  refine j_iand C dJ13_bitCount_95d88_59 ?_
  exact q_iret C CM rfl (by decide) (by decide) dJ13_bitCount_95d88_60 rfl rfl
