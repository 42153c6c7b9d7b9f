section S32
variable {l : Launch} {dC : Nat → ClassId} {dI : Nat → Nat → Nat} {gs : Nat → Nat} {ad : Nat → Nat} {cc cr : Nat → ClassId} {cd : ClassId}
def tm_Q (u v : tm_S) : Prop := u.1 = v.1 ∧ u.2.2 = v.2.2 ∧ (∀ a i, a ≠ 5 → a ≠ 14 → u.2.1 a i = v.2.1 a i) ∧ (∀ i, ¬ u.2.1 4 i = 0 → u.2.1 5 i = v.2.1 5 i)
def tm_V (u : tm_S) : Prop := tm_pf (u.2.2 2) ∧ tm_pn (u.2.2 1) ∧ tm_pn (u.2.2 0) ∧ (0 ≤ u.2.1 10 0 ∨ u.2.1 10 0 = (-1))
/-- class and reference stand alike -/
def tm_R (u v : tm_S) : Prop := tm_Q u v ∧ tm_V u
theorem tm_Rv {u v : tm_S} (h : tm_R u v) : ∃ vI : Nat → Nat → Int32, v = (u.1, vI, u.2.2) ∧ (∀ a i, a ≠ 5 → a ≠ 14 → u.2.1 a i = vI a i) ∧ (∀ i, ¬ u.2.1 4 i = 0 → u.2.1 5 i = vI 5 i) := by
  obtain ⟨⟨h1, h2, h3, h4⟩, -⟩ := h
  refine ⟨v.2.1, ?_, h3, h4⟩
  rw [h1, h2]
theorem tm_ix (x : Int32) {n : Nat} (hn : n < 2 ^ 31) : (x < 0 ∨ nI n ≤ x) ∨ ∃ j : Nat, j < n ∧ x = nI j := by
  rcases pk_ix x hn with h | h | h
  · exact Or.inl (Or.inl h)
  · exact Or.inl (Or.inr h)
  · exact Or.inr h
theorem tm_ixr {x : Int32} {n : Nat} (h : x < 0 ∨ nI (n + 1) ≤ x) (hn : n + 1 < 2 ^ 31) : x < 0 ∨ ¬ x ≤ nI n := by
  rcases h with h | h
  · exact Or.inl h
  · right
    have := tm_le3 h (by omega) hn
    rw [pk_sub (by omega)] at this
    simpa using this
theorem tm_fitV {q r : Int32} {n : Nat} (hn : n < 4) (h : tm_fit q (nI n) r) (hq : 0 ≤ q ∨ q = (-1)) : 0 ≤ r ∨ r = (-1) := by
  rcases h with ⟨h, rfl⟩ | ⟨h, h2, rfl⟩
  · exact Or.inr h
  · left
    rcases hq with hq | hq
    · have h3 := Int32.le_iff_toInt_le.mp hq
      have h4 := Int32.le_iff_toInt_le.mp h2
      rw [nI_toInt (by omega)] at h4
      rw [Int32.le_iff_toInt_le, Int32.toInt_sub, nI_toInt (by omega)]
      have h5 : (0 : Int32).toInt = 0 := by decide
      rw [h5] at h3 ⊢
      have h6 : q.toInt < 2 ^ 31 := by have := Int32.toInt_lt q; omega
      rw [Int.bmod_eq_of_le (by omega) (by omega)]
      omega
    · exact absurd hq h
theorem tm_fitC (q : Int32) (n : Int32) (hq : 0 ≤ q ∨ q = (-1)) (hn : 0 ≤ n) : (¬ q = (-1) ∧ ¬ n ≤ q ∧ 0 ≤ q ∧ q < n) ∨ ∃ r, tm_fit q n r := by
  by_cases h : q = (-1)
  · exact Or.inr ⟨q, Or.inl ⟨h, rfl⟩⟩
  · by_cases h2 : n ≤ q
    · exact Or.inr ⟨q - n, Or.inr ⟨h, h2, rfl⟩⟩
    · rcases hq with hq | hq
      · exact Or.inl ⟨h, h2, hq, Int32.not_le.mp h2⟩
      · exact absurd hq h
theorem tm_free (u : tm_S) : (∀ i, i < 4 → ¬ u.2.1 0 i = 0) ∨ ∃ k, k < 4 ∧ u.2.1 0 k = 0 ∧ ∀ i, i < k → ¬ u.2.1 0 i = 0 := by
  by_cases h0 : u.2.1 0 0 = 0
  · exact Or.inr ⟨0, by omega, h0, fun i hi => absurd hi (by omega)⟩
  by_cases h1 : u.2.1 0 1 = 0
  · refine Or.inr ⟨1, by omega, h1, fun i hi => ?_⟩
    match i, hi with
    | 0, _ => exact h0
  by_cases h2 : u.2.1 0 2 = 0
  · refine Or.inr ⟨2, by omega, h2, fun i hi => ?_⟩
    match i, hi with
    | 0, _ => exact h0
    | 1, _ => exact h1
  by_cases h3 : u.2.1 0 3 = 0
  · refine Or.inr ⟨3, by omega, h3, fun i hi => ?_⟩
    match i, hi with
    | 0, _ => exact h0
    | 1, _ => exact h1
    | 2, _ => exact h2
  refine Or.inl (fun i hi => ?_)
  match i, hi with
  | 0, _ => exact h0
  | 1, _ => exact h1
  | 2, _ => exact h2
  | 3, _ => exact h3
theorem tm_pw {x : Int32} (h : ¬ x < (-1)) : 0 ≤ x ∨ x = (-1) := by
  by_cases h0 : x = (-1)
  · exact Or.inr h0
  · left
    have h1 : ¬ x.toInt < (-1 : Int32).toInt := fun q => h (Int32.lt_iff_toInt_lt.mpr q)
    have h2 : (-1 : Int32).toInt = -1 := by decide
    have h3 : x.toInt ≠ -1 := fun q => h0 (Int32.toInt_inj.mp (by rw [q, h2]))
    rw [Int32.le_iff_toInt_le]
    have h4 : (0 : Int32).toInt = 0 := by decide
    rw [h4]
    omega
theorem tm_pxv {u : tm_S} {vI : Nat → Nat → Int32} {b : Nat} {mk : Int32} (n : Nat) : tm_px (u.1, vI, u.2.2) b mk n = tm_px u b mk n := by
  induction n with
  | zero => rfl
  | succ n ih => simp only [tm_px]; rw [ih]
theorem tm_cntv {u : tm_S} {vI : Nat → Nat → Int32} (hI : ∀ a i, a ≠ 5 → a ≠ 14 → u.2.1 a i = vI a i) {a : Nat} (h5 : a ≠ 5) (h14 : a ≠ 14) (n : Nat) : tm_cnt (u.1, vI, u.2.2) a n = tm_cnt u a n := by
  induction n with
  | zero => rfl
  | succ n ih =>
    have e := hI a n h5 h14
    simp only [tm_cnt, ih, e]
theorem tm_fg_Q (n : Nat) : ∀ (u v : tm_S), tm_Q u v → tm_Q (tm_fg n u) (tm_fg n v) ∧ (tm_fg n v).2.1 14 0 = v.2.1 14 0 := by
  induction n with
  | zero => intro u v h; exact ⟨h, rfl⟩
  | succ n ih =>
    intro u v h
    have h13 := h.2.2.1 13 0 (by decide) (by decide)
    simp only [tm_fg]
    rw [← h13, ← h.2.1]
    split
    · exact ⟨h, rfl⟩
    · split
      · exact ⟨h, rfl⟩
      · have := ih (tm_D (tm_I u 13 0 (u.2.1 13 0 - nI 1)) 0 (FP.dadd (u.2.2 0) 4621819117588971520)) (tm_D (tm_I v 13 0 (u.2.1 13 0 - nI 1)) 0 (FP.dadd (u.2.2 0) 4621819117588971520)) ?_
        · refine ⟨this.1, this.2.trans ?_⟩
          simp [tm_D, tm_I]
        · obtain ⟨q1, q2, q3, q4⟩ := h
          refine ⟨?_, ?_, ?_, ?_⟩
          · simpa [tm_D, tm_I] using q1
          · simp only [tm_D, tm_I]; rw [q2]
          · intro a i h5 h14; simp only [tm_D, tm_I]; rw [q3 a i h5 h14]
          · intro i h4
            simp only [tm_D, tm_I] at h4 ⊢
            simpa using q4 i (by simpa using h4)
theorem tm_fg_pn (n : Nat) : ∀ u : tm_S, tm_pn (u.2.2 0) → tm_pn ((tm_fg n u).2.2 0) := by
  induction n with
  | zero => intro u h; exact h
  | succ n ih =>
    intro u h
    simp only [tm_fg]
    split
    · exact h
    · split
      · exact h
      · exact ih _ (by simpa [tm_D, tm_I] using tm_dadd h tm_p10)
theorem tm_fg_I (n : Nat) : ∀ (u : tm_S) (a i : Nat), a ≠ 13 → (tm_fg n u).2.1 a i = u.2.1 a i := by
  induction n with
  | zero => intro u a i _; rfl
  | succ n ih =>
    intro u a i ha
    simp only [tm_fg]
    split
    · rfl
    · split
      · rfl
      · rw [ih _ a i ha]; simp [tm_D, tm_I, ha]
theorem tm_pacef {o w : UInt64} (ho : tm_pf o) (hw : tm_pn w) : tm_pf (tm_pace o w) := by
  unfold tm_pace
  split
  · exact ho
  · split
    · exact ho
    · rename_i h1 h2
      rcases Nat.lt_or_ge w.toNat 9218868437227405312 with h | h
      · exact h
      · exfalso
        have e : w = 9218868437227405312 := by
          apply UInt64.toNat_inj.mp
          have : w.toNat ≤ 9218868437227405312 := hw
          rw [show (9218868437227405312 : UInt64).toNat = 9218868437227405312 from by decide]
          omega
        rw [e] at h2
        exact h2 (by decide +kernel)

end S32
