/-! The two new objects stand alike. -/
section LRA
theorem tm_sfrf (sd : Int32) : tm_sf sd = tm_rf sd := rfl
set_option maxRecDepth 100000 in
theorem tm_R0 (sd : Int32) : tm_R (tm_u0 sd) (tm_v0 sd) := by
  have hn0 := nI_0
  refine ⟨⟨?_, ?_, ?_, ?_⟩, ?_, ?_, ?_, ?_⟩
  · funext a i
    by_cases h0 : a = 0
    · subst h0; simp [tm_u0, tm_v0, tm_u1, tm_v1, tm_L, tm_I, tm_D, tm_sfrf]
    by_cases h1 : a = 1
    · subst h1; simp [tm_u0, tm_v0, tm_u1, tm_v1, tm_L, tm_I, tm_D]
    by_cases h6 : a = 6
    · subst h6; simp [tm_u0, tm_v0, tm_u1, tm_v1, tm_L, tm_I, tm_D]
    simp [tm_u0, tm_v0, tm_u1, tm_v1, tm_L, tm_I, tm_D, h0, h1, h6]
  · funext a
    by_cases h0 : a = 0
    · subst h0; simp [tm_u0, tm_v0, tm_u1, tm_v1, tm_L, tm_I, tm_D]
    by_cases h2 : a = 2
    · subst h2; simp [tm_u0, tm_v0, tm_u1, tm_v1, tm_L, tm_I, tm_D]
    simp [tm_u0, tm_v0, tm_u1, tm_v1, tm_L, tm_I, tm_D, h0, h2]
  · intro a i h5 h14
    by_cases h0 : a = 0
    · subst h0; simp [tm_u0, tm_v0, tm_u1, tm_v1, tm_L, tm_I, tm_D]
    by_cases h4 : a = 4
    · subst h4; simp [tm_u0, tm_v0, tm_u1, tm_v1, tm_L, tm_I, tm_D]
    by_cases h9 : a = 9
    · subst h9; simp [tm_u0, tm_v0, tm_u1, tm_v1, tm_L, tm_I, tm_D]
    by_cases h10 : a = 10
    · subst h10; simp [tm_u0, tm_v0, tm_u1, tm_v1, tm_L, tm_I, tm_D]
    by_cases h11 : a = 11
    · subst h11; simp [tm_u0, tm_v0, tm_u1, tm_v1, tm_L, tm_I, tm_D]
    simp [tm_u0, tm_v0, tm_u1, tm_v1, tm_L, tm_I, tm_D, h0, h4, h9, h10, h11, h5, h14]
  · intro q h4
    exfalso
    apply h4
    simp [tm_u0, tm_u1, tm_L, tm_I, tm_D, hn0]
  · have : (tm_u0 sd).2.2 2 = FP.dconst1 := by simp [tm_u0, tm_u1, tm_L, tm_I, tm_D]
    rw [this]; unfold tm_pf; decide +kernel
  · have : (tm_u0 sd).2.2 1 = 0 := by simp [tm_u0, tm_u1, tm_L, tm_I, tm_D]
    rw [this]; unfold tm_pn; decide +kernel
  · have : (tm_u0 sd).2.2 0 = 0 := by simp [tm_u0, tm_u1, tm_L, tm_I, tm_D]
    rw [this]; unfold tm_pn; decide +kernel
  · right; simp [tm_u0, tm_u1, tm_L, tm_I, tm_D]
end LRA
