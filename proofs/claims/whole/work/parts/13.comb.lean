section S13
variable {l : Launch} {dC : Nat → ClassId} {dI : Nat → Nat → Nat} {gs : Nat → Nat} {ad : Nat → Nat} {cc : Nat → ClassId}
theorem c_refuseUnlessBelow_no (hl9 : l.stackTraces = false) (u : tm_S) {x : Int32} {n : Nat} (h : x < 0 ∨ nI n ≤ x) (h0 : 0 < n) (hn : n < 2 ^ 31) : kc_T l dC dI gs ad cc yX4_refuseUnlessBelow wsX4_refuseUnlessBelow { frames := 7, cells := 1, slots := 6, locals := 104 } [.int x, .int (nI n)] u u "java/lang/IllegalArgumentException" := by
  rcases h with h | h
  · exact c_refuseUnlessBelow_n1 hl9 u h
  · exact c_refuseUnlessBelow_n2 hl9 u h h0 hn
theorem c_refuseOutside_no (hl9 : l.stackTraces = false) (u : tm_S) {x lo hi : Int32} (h : x < lo ∨ ¬ x ≤ hi) : kc_T l dC dI gs ad cc yX4_refuseOutside wsX4_refuseOutside { frames := 6, cells := 1, slots := 6, locals := 82 } [.int x, .int lo, .int hi] u u "java/lang/IllegalArgumentException" := by
  by_cases h1 : x < lo
  · exact c_refuseOutside_n1 hl9 u x lo hi h1
  · rcases h with h | h
    · exact absurd h h1
    · exact c_refuseOutside_n2 hl9 u x lo hi h1 h
/-- power that suffices: what is left -/
def tm_fit (q n r : Int32) : Prop := (q = (-1) ∧ r = q) ∨ (¬ q = (-1) ∧ n ≤ q ∧ r = q - n)
theorem tm_I_id (u : tm_S) (a i : Nat) : tm_I u a i (u.2.1 a i) = u := by
  obtain ⟨x, y, z⟩ := u
  simp only [tm_I]
  congr 2
  funext p q
  by_cases h : p = a ∧ q = i
  · rw [if_pos h, h.1, h.2]
  · rw [if_neg h]
theorem tm_D_id (u : tm_S) (a : Nat) : tm_D u a (u.2.2 a) = u := by
  obtain ⟨x, y, z⟩ := u
  simp only [tm_D]
  congr 2
  funext p
  by_cases h : p = a
  · rw [if_pos h, h]
  · rw [if_neg h]
theorem c_useParts_fit (u : tm_S) (n r : Int32) (h : tm_fit (u.2.1 10 0) n r) : kc_M l dC dI gs ad cc yX4_useParts wsX4_useParts { frames := 6, cells := 0, slots := 0, locals := 82 } [.ref (ad 0), .int n] u (tm_I u 10 0 r) none := by
  rcases h with ⟨h, rfl⟩ | ⟨h, h2, rfl⟩
  · rw [tm_I_id]; exact c_useParts_free u n h
  · exact c_useParts_ok u n h h2
theorem c_allowBySession_ok (u : tm_S) {k : Nat} (hk : k < 3) (po : Int64) (h : ¬ po = 0) (h2 : u.1 6 k = po) (h3 : ¬ u.2.1 4 k = 0 → u.2.1 5 k = u.2.1 9 0) : kc_M l dC dI gs ad cc yX4_allowBySession wsX4_allowBySession { frames := 6, cells := 0, slots := 0, locals := 82 } [.ref (ad 0), .long po, .ref (ad (k + 29))] u u none := by
  by_cases h4 : u.2.1 4 k = 0
  · exact c_allowBySession_ok0 u hk po h h2 h4
  · exact c_allowBySession_ok1 u hk po h h2 h4 (h3 h4)
end S13
