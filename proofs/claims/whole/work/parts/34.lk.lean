/-! The law's own rows: its script, its small calls' words; count and rate beside the reference's. -/
section LKA
theorem tm_GSW {own : String} {idx : Nat} {y : MethodName} {cb : ByteArray} {n : Nat} {r : Option FieldType} {hh : List (Nat × Nat × Nat × Nat)} (h1 : Cond.methodLink own idx y ∈ tm_B) (h2 : Cond.static y ∈ tm_B) (h3 : Cond.initialized y.cls ∈ tm_B) (h4 : Cond.codeWith y cb n r hh ∈ tm_B) : GoodIn tm_B (va_wsS own idx y (Cond.codeWith y cb n r hh :: tm_B)) := by
  intro w hw
  unfold va_wsS at hw
  simp only [List.cons_append, List.nil_append, List.mem_cons] at hw
  rcases hw with rfl | rfl | rfl | rfl | hw
  · exact tm_gd h1
  · exact tm_gd h2
  · exact tm_gd h3
  · exact tm_gd h4
  · exact tm_gd hw
variable {p : Program} {l : Launch} {e : Env} {R : Room} {s : State} {m : MethodId} {args : Array Value} {below : List Frame} {meth : Method} {c : Code} {H : Heap} {locs : List Loc} {cells slots : Nat} {Q : State → Prop} {cb : ByteArray} {pc : Nat} {ls : Array Slot} {rest : List Value} {A : Nat → Prop}
theorem ks_ld {b L : Nat} {xs : Nat → Int32} (hx : p.tables.exec = Jvm.exec) (hb : c.code = cb) (hT : va_T .int b L (fun j => .int (xs j)) A s s.heap) (hS : va_S A s.heap H locs) (hL : L ≤ 4097) {j : Nat} (hj : j < L) (hdg : decode cb pc = .ok (.iaload, 1))
    (kk : W p l e R s m args below meth c H locs cells slots Q (F0 m (pc + 1) ls (.int (xs j) :: rest))) : W p l e R s m args below meth c H locs cells slots Q (F0 m pc ls (.int (nI j) :: .ref b :: rest)) :=
  va_ti hx hb hT hS (i := nI j) (v := .int (xs j)) (vp_in_nI hj (by omega)) (by rw [nI_clamp (by omega)]) hdg kk
theorem tm_gt8 {i L : Nat} (h : L < i + 8) (hL : L ≤ 4097) (hi : i ≤ L + 8) : nI i > nI L - nI 8 := by
  rw [gt_iff_lt, Int32.lt_iff_toInt_lt, pk_sub_toInt (by omega) (by omega), nI_toInt (by omega)]
  omega
theorem tm_ngt8 {i L : Nat} (h : i + 8 ≤ L) (hL : L ≤ 4097) : ¬ nI i > nI L - nI 8 := by
  rw [gt_iff_lt, Int32.lt_iff_toInt_lt, pk_sub_toInt (by omega) (by omega), nI_toInt (by omega)]
  omega
end LKA
section LKB
variable {l : Launch} {dC : Nat → ClassId} {dI : Nat → Nat → Nat} {gs : Nat → Nat} {ad : Nat → Nat} {cc cr : Nat → ClassId}
theorem tm_R14 {u v : tm_S} (hR : tm_R u v) (x : Int32) : tm_R u (tm_I v 14 0 x) := by
  obtain ⟨⟨h1, h2, h3, h4⟩, hV⟩ := hR
  refine ⟨⟨h1, h2, fun a i h5 h14 => ?_, fun i hi => ?_⟩, hV⟩
  · rw [h3 a i h5 h14]; simp [tm_I, h14]
  · rw [h4 i hi]; simp [tm_I]
theorem op_rate {u v : tm_S} (hR : tm_R u v) : ∃ v' : tm_S, kc_M l dC dI gs ad cc yX4_rate wsX4_rate { frames := 0, cells := 0, slots := 0, locals := 0 } [.ref (ad 0)] u u (some (.double (u.2.2 2))) ∧ kr_M l dC dI (tr_ad ad) cr yX5_rate wsX5_rate { frames := 0, cells := 0, slots := 0, locals := 0 } [.ref (tr_ad ad 0)] v v' (some (.double (u.2.2 2))) ∧ tm_R u v' := by
  refine ⟨tm_I v 14 0 (nI 0), m_rate_ok u, ?_, tm_R14 hR _⟩
  have z := p_rate_ok (l := l) (dC := dC) (dI := dI) (ad := tr_ad ad) (cc := cr) v
  rw [hR.1.2.1]
  exact z
theorem op_count {u v : tm_S} (hR : tm_R u v) (x : Int32) : ∃ (r : Int32) (v' : tm_S), kc_M l dC dI gs ad cc yX4_count wsX4_count { frames := 1, cells := 0, slots := 0, locals := 22 } [.ref (ad 0), .int x] u u (some (.int r)) ∧ kr_M l dC dI (tr_ad ad) cr yX5_count wsX5_count { frames := 0, cells := 0, slots := 0, locals := 0 } [.ref (tr_ad ad 0), .int x] v v' (some (.int r)) ∧ tm_R u v' := by
  have hR0 := hR
  obtain ⟨vI, rfl, hI, hS⟩ := tm_Rv hR
  rcases tm_ix x (n := 8) (by decide) with h | ⟨j, hj, rfl⟩
  · have h7 : x.toInt < 0 ∨ 7 < x.toInt := by
      rcases h with h | h
      · exact Or.inl (by have := Int32.lt_iff_toInt_lt.mp h; simpa using this)
      · right
        have := Int32.le_iff_toInt_le.mp h
        rw [nI_toInt (by omega)] at this
        omega
    exact ⟨_, tm_I (u.1, vI, u.2.2) 14 0 (nI 0), m_count_d u x h7, p_count_d (u.1, vI, u.2.2) x h7, tm_R14 hR0 _⟩
  match j, hj with
  | 0, _ =>
    have z := p_count_0 (l := l) (dC := dC) (dI := dI) (ad := tr_ad ad) (cc := cr) (u.1, vI, u.2.2)
    rw [tm_cntv hI (by decide) (by decide) 4] at z
    exact ⟨_, tm_I (u.1, vI, u.2.2) 14 0 (nI 0), m_count_0 u, z, tm_R14 hR0 _⟩
  | 1, _ =>
    have z := p_count_1 (l := l) (dC := dC) (dI := dI) (ad := tr_ad ad) (cc := cr) (u.1, vI, u.2.2)
    have e := hI 13 0 (by decide) (by decide)
    simp only [← e] at z
    exact ⟨_, tm_I (u.1, vI, u.2.2) 14 0 (nI 0), m_count_1 u, z, tm_R14 hR0 _⟩
  | 2, _ =>
    have z := p_count_2 (l := l) (dC := dC) (dI := dI) (ad := tr_ad ad) (cc := cr) (u.1, vI, u.2.2)
    have e := hI 9 0 (by decide) (by decide)
    simp only [← e] at z
    exact ⟨_, tm_I (u.1, vI, u.2.2) 14 0 (nI 0), m_count_2 u, z, tm_R14 hR0 _⟩
  | 3, _ =>
    have z := p_count_3 (l := l) (dC := dC) (dI := dI) (ad := tr_ad ad) (cc := cr) (u.1, vI, u.2.2)
    have e := hI 10 0 (by decide) (by decide)
    simp only [← e] at z
    exact ⟨_, tm_I (u.1, vI, u.2.2) 14 0 (nI 0), m_count_3 u, z, tm_R14 hR0 _⟩
  | 4, _ =>
    by_cases h : u.2.1 11 0 = 0
    · exact ⟨_, tm_I (u.1, vI, u.2.2) 14 0 (nI 0), m_count_4a u h, p_count_4a (u.1, vI, u.2.2) (by show vI 11 0 = 0; rw [← hI 11 0 (by decide) (by decide)]; exact h), tm_R14 hR0 _⟩
    · exact ⟨_, tm_I (u.1, vI, u.2.2) 14 0 (nI 0), m_count_4b u h, p_count_4b (u.1, vI, u.2.2) (by show ¬ vI 11 0 = 0; rw [← hI 11 0 (by decide) (by decide)]; exact h), tm_R14 hR0 _⟩
  | 5, _ =>
    have z := p_count_5 (l := l) (dC := dC) (dI := dI) (ad := tr_ad ad) (cc := cr) (u.1, vI, u.2.2)
    rw [tm_cntv hI (by decide) (by decide) 4] at z
    exact ⟨_, tm_I (u.1, vI, u.2.2) 14 0 (nI 0), m_count_5 u, z, tm_R14 hR0 _⟩
  | 6, _ =>
    have z := p_count_6 (l := l) (dC := dC) (dI := dI) (ad := tr_ad ad) (cc := cr) (u.1, vI, u.2.2)
    rw [tm_cntv hI (by decide) (by decide) 8] at z
    exact ⟨_, tm_I (u.1, vI, u.2.2) 14 0 (nI 0), m_count_6 u, z, tm_R14 hR0 _⟩
  | 7, _ =>
    have z := p_count_7 (l := l) (dC := dC) (dI := dI) (ad := tr_ad ad) (cc := cr) (u.1, vI, u.2.2)
    have e := hI 12 0 (by decide) (by decide)
    simp only [← e] at z
    exact ⟨_, tm_I (u.1, vI, u.2.2) 14 0 (nI 0), m_count_7 u, z, tm_R14 hR0 _⟩
end LKB
