section S25
variable {l : Launch} {dC : Nat → ClassId} {dI : Nat → Nat → Nat} {gs : Nat → Nat} {ad : Nat → Nat} {cc : Nat → ClassId}
set_option maxHeartbeats 8000000 in
set_option maxRecDepth 100000 in
theorem tc_makeD {a : Nat → Nat} {cx : Nat → ClassId} {sd : Int32} {A : Nat → Prop} (u : tm_S) (hD : va_D A (tc_L a cx sd)) : va_D A (tc_w a cx u) := by
  have hq : ∀ k, k < 36 → ∃ e, (tc_L a cx sd)[tc_pi k]? = some (a k, e) := by
    intro k hk
    match k, hk with
    | 0, _ => exact ⟨_, rfl⟩
    | 1, _ => exact ⟨_, rfl⟩
    | 2, _ => exact ⟨_, rfl⟩
    | 3, _ => exact ⟨_, rfl⟩
    | 4, _ => exact ⟨_, rfl⟩
    | 5, _ => exact ⟨_, rfl⟩
    | 6, _ => exact ⟨_, rfl⟩
    | 7, _ => exact ⟨_, rfl⟩
    | 8, _ => exact ⟨_, rfl⟩
    | 9, _ => exact ⟨_, rfl⟩
    | 10, _ => exact ⟨_, rfl⟩
    | 11, _ => exact ⟨_, rfl⟩
    | 12, _ => exact ⟨_, rfl⟩
    | 13, _ => exact ⟨_, rfl⟩
    | 14, _ => exact ⟨_, rfl⟩
    | 15, _ => exact ⟨_, rfl⟩
    | 16, _ => exact ⟨_, rfl⟩
    | 17, _ => exact ⟨_, rfl⟩
    | 18, _ => exact ⟨_, rfl⟩
    | 19, _ => exact ⟨_, rfl⟩
    | 20, _ => exact ⟨_, rfl⟩
    | 21, _ => exact ⟨_, rfl⟩
    | 22, _ => exact ⟨_, rfl⟩
    | 23, _ => exact ⟨_, rfl⟩
    | 24, _ => exact ⟨_, rfl⟩
    | 25, _ => exact ⟨_, rfl⟩
    | 26, _ => exact ⟨_, rfl⟩
    | 27, _ => exact ⟨_, rfl⟩
    | 28, _ => exact ⟨_, rfl⟩
    | 29, _ => exact ⟨_, rfl⟩
    | 30, _ => exact ⟨_, rfl⟩
    | 31, _ => exact ⟨_, rfl⟩
    | 32, _ => exact ⟨_, rfl⟩
    | 33, _ => exact ⟨_, rfl⟩
    | 34, _ => exact ⟨_, rfl⟩
    | 35, _ => exact ⟨_, rfl⟩
    | k + 36, h => exact absurd h (by omega)
  have hz : ∀ (k : Nat) (q : Nat × va_E), (tc_w a cx u)[k]? = some q → k < 36 ∧ q.1 = a k := by
    intro k q hk
    have h36 : k < 36 := by
      have := (List.getElem?_eq_some_iff.mp hk).1
      simpa [tm_w] using this
    rw [tm_at h36 rfl] at hk
    cases hk
    exact ⟨h36, rfl⟩
  refine ⟨fun i j p q hi hj he => ?_, fun k q hk => ?_⟩
  · obtain ⟨h1, e1⟩ := hz i p hi
    obtain ⟨h2, e2⟩ := hz j q hj
    obtain ⟨x, hx⟩ := hq i h1
    obtain ⟨y, hy⟩ := hq j h2
    exact tc_inj i h1 j h2 (hD.1 _ _ _ _ hx hy (by show a i = a j; rw [← e1, ← e2, he]))
  · obtain ⟨h1, e1⟩ := hz k q hk
    obtain ⟨x, hx⟩ := hq k h1
    rw [e1]
    exact hD.2 _ _ hx
end S25
