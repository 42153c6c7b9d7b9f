/-! Doubles: the clock and the mark are numbers from +0 to +infinity, the rate is finite: no sum and no product of theirs is a NaN. -/
def tm_pn (x : UInt64) : Prop := x.toNat ≤ 9218868437227405312
def tm_pf (x : UInt64) : Prop := x.toNat < 9218868437227405312
theorem tm_pf.n {x : UInt64} (h : tm_pf x) : tm_pn x := Nat.le_of_lt h
theorem tm_pn.v {x : UInt64} (h : tm_pn x) : vf_n64 x := by
  unfold vf_n64
  rw [UInt64.le_iff_toNat_le, UInt64.toNat_and]
  have h1 : (0x7fffffffffffffff : UInt64).toNat = 2 ^ 63 - 1 := by decide
  have h2 : (0x7ff0000000000000 : UInt64).toNat = 9218868437227405312 := by decide
  rw [h1, h2, Nat.and_two_pow_sub_one_eq_mod]
  have h3 : x.toNat ≤ 9218868437227405312 := h
  omega
theorem tm_dec {n : Nat} (h : n ≤ 9218868437227405312) : FP.Core.decode FP.Core.b64 n = .inf false ∨ ∃ (c : Nat) (q : Int), FP.Core.decode FP.Core.b64 n = .fin false c q := by
  have hS : FP.Core.fieldS FP.Core.b64 n = false := by
    simp only [FP.Core.fieldS, FP.Core.b64, FP.Core.Fmt.tails, FP.Core.Fmt.exps]
    have : n / 2 ^ (53 - 1) / 2 ^ 11 = 0 := by omega
    rw [this]; rfl
  unfold FP.Core.decode
  rw [hS]
  by_cases h1 : FP.Core.fieldE FP.Core.b64 n = FP.Core.b64.exps - 1
  · rw [if_pos h1]
    have h2 : FP.Core.fieldT FP.Core.b64 n = 0 := by
      simp only [FP.Core.fieldE, FP.Core.fieldT, FP.Core.b64, FP.Core.Fmt.tails, FP.Core.Fmt.exps] at h1 ⊢
      omega
    rw [if_pos h2]
    exact Or.inl rfl
  · rw [if_neg h1]
    by_cases h3 : FP.Core.fieldE FP.Core.b64 n = 0
    · rw [if_pos h3]; exact Or.inr ⟨_, _, rfl⟩
    · rw [if_neg h3]; exact Or.inr ⟨_, _, rfl⟩
theorem tm_decf {n : Nat} (h : n < 9218868437227405312) : ∃ (c : Nat) (q : Int), FP.Core.decode FP.Core.b64 n = .fin false c q := by
  rcases tm_dec (Nat.le_of_lt h) with h1 | h1
  · exfalso
    have h2 : ¬ FP.Core.fieldE FP.Core.b64 n = FP.Core.b64.exps - 1 := by
      simp only [FP.Core.fieldE, FP.Core.b64, FP.Core.Fmt.tails, FP.Core.Fmt.exps]
      omega
    unfold FP.Core.decode at h1
    rw [if_neg h2] at h1
    split at h1 <;> cases h1
  · exact h1
theorem tm_encF {c : Nat} {q : Int} (hc : c < 2 ^ 53) (hq : q ≤ 971) : FP.Core.encode FP.Core.b64 (.fin false c q) ≤ 9218868437227405312 := by
  have h1 : (q - (-1074)).toNat ≤ 2045 := by omega
  by_cases h : c < FP.Core.b64.tails
  · have e : FP.Core.encode FP.Core.b64 (.fin false c q) = FP.Core.assemble FP.Core.b64 false 0 c := if_pos h
    have e2 : FP.Core.assemble FP.Core.b64 false 0 c = c := by simp [FP.Core.assemble]
    have h2 : c < 4503599627370496 := h
    rw [e, e2]; omega
  · have e : FP.Core.encode FP.Core.b64 (.fin false c q) = FP.Core.assemble FP.Core.b64 false ((q - FP.Core.b64.qmin).toNat + 1) (c - FP.Core.b64.tails) := if_neg h
    have e2 : FP.Core.assemble FP.Core.b64 false ((q - FP.Core.b64.qmin).toNat + 1) (c - FP.Core.b64.tails) = ((q - (-1074)).toNat + 1) * 4503599627370496 + (c - 4503599627370496) := by
      show (0 * _ + ((q - FP.Core.b64.qmin).toNat + 1)) * 4503599627370496 + (c - 4503599627370496) = _
      rw [Nat.zero_mul, Nat.zero_add, show FP.Core.b64.qmin = -1074 from by decide]
    have h2 : ¬ c < 4503599627370496 := h
    rw [e, e2]; omega
theorem tm_encR (num den : Nat) (e : Int) : FP.Core.encode FP.Core.b64 (FP.Core.roundRatio FP.Core.b64 false num den e) ≤ 9218868437227405312 := by
  have hb : ∀ (c : Nat) (q : Int), c < 2 ^ 53 → FP.Core.encode FP.Core.b64 (FP.Core.bound FP.Core.b64 false c q) ≤ 9218868437227405312 := by
    intro c q hc
    unfold FP.Core.bound
    split
    · rename_i h
      exact tm_encF hc (by simpa [FP.Core.b64, FP.Core.Fmt.qmax, FP.Core.Fmt.emax] using h)
    · decide
  unfold FP.Core.roundRatio
  split
  · decide
  · unfold FP.Core.roundAt FP.Core.settle
    split
    · rename_i h
      exact hb _ _ (by simpa [FP.Core.b64] using h)
    · exact hb _ _ (by decide)
theorem tm_ofNat {n : Nat} (h : n ≤ 9218868437227405312) : tm_pn (UInt64.ofNat n) := by
  unfold tm_pn
  rw [UInt64.toNat_ofNat']
  omega
theorem tm_dadd {x y : UInt64} (hx : tm_pn x) (hy : tm_pn y) : tm_pn (FP.dadd x y) := by
  refine tm_ofNat ?_
  unfold FP.Core.add
  rcases tm_dec hx with h1 | ⟨c, q, h1⟩ <;> rcases tm_dec hy with h2 | ⟨d, r, h2⟩ <;> rw [h1, h2]
  · show FP.Core.encode FP.Core.b64 (.inf false) ≤ _
    decide
  · show FP.Core.encode FP.Core.b64 (.inf false) ≤ _
    decide
  · show FP.Core.encode FP.Core.b64 (.inf false) ≤ _
    decide
  · have hv : FP.Core.sumSign false false (FP.Core.sumUnits false c q false d r (min q r)) = false := by
      have e1 : FP.Core.sumUnits false c q false d r (min q r) = ((FP.Core.inUnits c q (min q r) + FP.Core.inUnits d r (min q r) : Nat) : Int) := by
        simp [FP.Core.sumUnits, FP.Core.signed]
      rw [e1]
      generalize FP.Core.inUnits c q (min q r) + FP.Core.inUnits d r (min q r) = n
      unfold FP.Core.sumSign
      split
      · rfl
      · exact decide_eq_false (by omega)
    simp only [FP.Core.exactSum, FP.Core.round, hv]
    exact tm_encR _ _ _
theorem tm_dmul {x y : UInt64} (hx : tm_pf x) (hy : tm_pf y) : tm_pn (FP.dmul x y) := by
  refine tm_ofNat ?_
  unfold FP.Core.mul
  obtain ⟨c, q, h1⟩ := tm_decf hx
  obtain ⟨d, r, h2⟩ := tm_decf hy
  rw [h1, h2]
  exact tm_encR _ _ _
theorem tm_i2d : ∀ k : Nat, k < 101 → tm_pf (FP.i2d (nI k)) := by
  unfold tm_pf
  decide +kernel
theorem tm_self {x : UInt64} (h : tm_pn x) : FP.dcmp x x = some .eq := by
  show FP.Core.order (FP.Core.decode FP.Core.b64 x.toNat) (FP.Core.decode FP.Core.b64 x.toNat) = some .eq
  rcases tm_dec h with h1 | ⟨c, q, h1⟩
  · rw [h1]; rfl
  · rw [h1]; simp [FP.Core.order]
/-- a product that isn't above 4.0 is finite -/
theorem tm_fin4 {x : UInt64} (h : tm_pn x) (h4 : ¬ (0 : Int32) < Op.cmpValue (FP.dcmp x 4616189618054758400) .g) : tm_pf x := by
  rcases Nat.lt_or_ge x.toNat 9218868437227405312 with h1 | h1
  · exact h1
  · exfalso
    have h2 : x.toNat = 9218868437227405312 := Nat.le_antisymm h h1
    have h3 : x = 9218868437227405312 := UInt64.toNat_inj.mp h2
    subst h3
    exact h4 (by decide +kernel)
