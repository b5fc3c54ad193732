/-! floats: what is no NaN -/
def fOk (f : FP.Core.Fmt) : FP.Core.Datum → Prop
  | .nan => False
  | .inf _ => True
  | .fin _ c q => c < 2 ^ f.p ∧ f.qmin ≤ q ∧ q ≤ f.qmax
theorem f_settle {f : FP.Core.Fmt} (h : f.tails < 2 ^ f.p) (s : Bool) (c : Nat) {q : Int} (hq : f.qmin ≤ q) : fOk f (FP.Core.settle f s c q) := by
  unfold FP.Core.settle FP.Core.bound
  split
  · split
    · exact ⟨by assumption, hq, by assumption⟩
    · trivial
  · split
    · exact ⟨h, by omega, by assumption⟩
    · trivial
theorem f_ratio {f : FP.Core.Fmt} (h : f.tails < 2 ^ f.p) (h2 : f.qmin ≤ f.qmax) (s : Bool) (num den : Nat) (e : Int) : fOk f (FP.Core.roundRatio f s num den e) := by
  unfold FP.Core.roundRatio
  split
  · exact ⟨Nat.two_pow_pos _, Int.le_refl _, h2⟩
  · exact f_settle h _ _ (by unfold FP.Core.quantum; omega)
/-- a number -/
def fFin : FP.Core.Datum → Bool
  | .fin _ _ _ => true
  | _ => false
def fPos : FP.Core.Datum → Bool
  | .fin _ c _ => decide (c ≠ 0)
  | _ => false
theorem f_quot {f : FP.Core.Fmt} (h : f.tails < 2 ^ f.p) (h2 : f.qmin ≤ f.qmax) {x y : FP.Core.Datum} (hx : fFin x = true) (hy : fPos y = true) : fOk f (FP.Core.quotient f x y) := by
  cases x with
  | nan => cases hx
  | inf s => cases hx
  | fin s c q =>
    cases y with
    | nan => cases hy
    | inf s => cases hy
    | fin t d r =>
      show fOk f (if d = 0 then _ else _)
      rw [if_neg (of_decide_eq_true hy)]
      exact f_ratio h h2 _ _ _ _
theorem f_round {f : FP.Core.Fmt} (h : f.tails < 2 ^ f.p) (h2 : f.qmin ≤ f.qmax) {x : FP.Core.Datum} (hx : x ≠ .nan) : fOk f (FP.Core.round f x) := by
  cases x with
  | nan => exact absurd rfl hx
  | inf s => trivial
  | fin s c q => exact f_ratio h h2 _ _ _ _
/-- its fields -/
theorem f_enc {f : FP.Core.Fmt} (ht : 2 ^ f.p = 2 * f.tails) (h0 : 0 < f.tails) (he : (f.qmax - f.qmin).toNat + 2 = f.exps - 1) {d : FP.Core.Datum} (hd : fOk f d) : ∃ (s : Bool) (E T : Nat), FP.Core.encode f d = FP.Core.assemble f s E T ∧ T < f.tails ∧ ((E < f.exps - 1) ∨ (E = f.exps - 1 ∧ T = 0)) := by
  cases d with
  | nan => cases hd
  | inf s => exact ⟨s, f.exps - 1, 0, rfl, h0, Or.inr ⟨rfl, rfl⟩⟩
  | fin s c q =>
    obtain ⟨h1, h2, h3⟩ := hd
    by_cases hc : c < f.tails
    · exact ⟨s, 0, c, if_pos hc, hc, Or.inl (by omega)⟩
    · exact ⟨s, (q - f.qmin).toNat + 1, c - f.tails, if_neg hc, by omega, Or.inl (by omega)⟩
theorem f_small32 {s : Bool} {E T : Nat} (hT : T < 2 ^ 23) (hE : E < 255 ∨ (E = 255 ∧ T = 0)) : vf_n32 (UInt32.ofNat (FP.Core.assemble FP.Core.b32 s E T)) := by
  unfold vf_n32
  rw [UInt32.le_iff_toNat_le, UInt32.toNat_and, UInt32.toNat_ofNat']
  show (FP.Core.assemble FP.Core.b32 s E T % 2 ^ 32) &&& (2 ^ 31 - 1) ≤ 0x7f800000
  rw [Nat.and_two_pow_sub_one_eq_mod]
  have e : FP.Core.assemble FP.Core.b32 s E T = (s.toNat * 256 + E) * 8388608 + T := rfl
  rw [e]
  have hs : s.toNat ≤ 1 := by cases s <;> decide
  omega
theorem f_small64 {s : Bool} {E T : Nat} (hT : T < 2 ^ 52) (hE : E < 2047 ∨ (E = 2047 ∧ T = 0)) : vf_n64 (UInt64.ofNat (FP.Core.assemble FP.Core.b64 s E T)) := by
  unfold vf_n64
  rw [UInt64.le_iff_toNat_le, UInt64.toNat_and, UInt64.toNat_ofNat']
  show (FP.Core.assemble FP.Core.b64 s E T % 2 ^ 64) &&& (2 ^ 63 - 1) ≤ 0x7ff0000000000000
  rw [Nat.and_two_pow_sub_one_eq_mod]
  have e : FP.Core.assemble FP.Core.b64 s E T = (s.toNat * 2048 + E) * 4503599627370496 + T := rfl
  rw [e]
  have hs : s.toNat ≤ 1 := by cases s <;> decide
  omega
theorem f_n32 {d : FP.Core.Datum} (hd : fOk FP.Core.b32 d) : vf_n32 (UInt32.ofNat (FP.Core.encode FP.Core.b32 d)) := by
  obtain ⟨s, E, T, h1, h2, h3⟩ := f_enc (by decide) (by decide) (by decide) hd
  rw [h1]
  exact f_small32 h2 h3
theorem f_n64 {d : FP.Core.Datum} (hd : fOk FP.Core.b64 d) : vf_n64 (UInt64.ofNat (FP.Core.encode FP.Core.b64 d)) := by
  obtain ⟨s, E, T, h1, h2, h3⟩ := f_enc (by decide) (by decide) (by decide) hd
  rw [h1]
  exact f_small64 h2 h3
/-- small whole numbers -/
theorem f_ints32 : ∀ k : Nat, k < 1921 → (fFin (FP.Core.decode FP.Core.b32 (UInt32.ofNat (FP.Core.fromInt FP.Core.b32 (k : Int))).toNat) && (decide (k = 0) || fPos (FP.Core.decode FP.Core.b32 (UInt32.ofNat (FP.Core.fromInt FP.Core.b32 (k : Int))).toNat))) = true := by decide +kernel
theorem f_ints64 : ∀ k : Nat, k < 481 → (fFin (FP.Core.decode FP.Core.b64 (UInt64.ofNat (FP.Core.fromInt FP.Core.b64 (k : Int))).toNat) && (decide (k = 0) || fPos (FP.Core.decode FP.Core.b64 (UInt64.ofNat (FP.Core.fromInt FP.Core.b64 (k : Int))).toNat))) = true := by decide +kernel
theorem f_lI {x : Nat} (h : x < 2 ^ 31) : FP.l2f (lI x) = FP.i2f (nI x) := by
  have e : (lI x).toInt = (nI x).toInt := by
    rw [nI_toInt h]
    show (Int64.ofNat x).toInt = (x : Int)
    exact Int64.toInt_ofNat_of_lt (by omega)
  show UInt32.ofNat (FP.Core.fromInt FP.Core.b32 (lI x).toInt) = UInt32.ofNat (FP.Core.fromInt FP.Core.b32 (nI x).toInt)
  rw [e]
theorem f_div32 {a b : Nat} (ha : a < 1921) (hb : b < 1921) (h0 : 0 < b) : vf_n32 (FP.fdiv (FP.i2f (nI a)) (FP.i2f (nI b))) := by
  have ea := f_ints32 a ha
  have eb := f_ints32 b hb
  simp only [Bool.and_eq_true, Bool.or_eq_true, decide_eq_true_eq] at ea eb
  refine f_n32 (f_quot (by decide) (by decide) ?_ ?_)
  · show fFin (FP.Core.decode FP.Core.b32 (UInt32.ofNat (FP.Core.fromInt FP.Core.b32 (nI a).toInt)).toNat) = true
    rw [nI_toInt (by omega)]
    exact ea.1
  · show fPos (FP.Core.decode FP.Core.b32 (UInt32.ofNat (FP.Core.fromInt FP.Core.b32 (nI b).toInt)).toNat) = true
    rw [nI_toInt (by omega)]
    rcases eb.2 with e | e
    · omega
    · exact e
theorem f_div64 {a b : Nat} (ha : a < 481) (hb : b < 481) (h0 : 0 < b) : vf_n64 (FP.ddiv (FP.i2d (nI a)) (FP.i2d (nI b))) := by
  have ea := f_ints64 a ha
  have eb := f_ints64 b hb
  simp only [Bool.and_eq_true, Bool.or_eq_true, decide_eq_true_eq] at ea eb
  refine f_n64 (f_quot (by decide) (by decide) ?_ ?_)
  · show fFin (FP.Core.decode FP.Core.b64 (UInt64.ofNat (FP.Core.fromInt FP.Core.b64 (nI a).toInt)).toNat) = true
    rw [nI_toInt (by omega)]
    exact ea.1
  · show fPos (FP.Core.decode FP.Core.b64 (UInt64.ofNat (FP.Core.fromInt FP.Core.b64 (nI b).toInt)).toNat) = true
    rw [nI_toInt (by omega)]
    rcases eb.2 with e | e
    · omega
    · exact e
