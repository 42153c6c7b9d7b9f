section S33
variable {l : Launch} {dC : Nat → ClassId} {dI : Nat → Nat → Nat} {gs : Nat → Nat} {ad : Nat → Nat} {cc cr : Nat → ClassId} {cd : ClassId}
set_option maxHeartbeats 4000000 in
set_option maxRecDepth 100000 in
theorem op_power (hl9 : l.stackTraces = false) {u v : tm_S} (o : Int64 × UInt64) (hR : tm_R u v) (p0 : Int32) : ∃ (k : Int32) (u' v' : tm_S) (o' : Int64 × UInt64), kl_M l dC dI gs ad cc cr cd yL_power wsL_power { frames := 8, cells := 1, slots := 6, locals := 125 } [.ref (ad 0), .int p0] u v o u' v o' k ∧ kr_M l dC dI (tr_ad ad) cr yX5_power wsX5_power { frames := 2, cells := 0, slots := 0, locals := 47 } [.ref (tr_ad ad 0), .int p0] v v' none ∧ v'.2.1 14 0 = k ∧ tm_R u' v' := by
  have hV := hR.2
  have hn0 := nI_0
  obtain ⟨vI, rfl, hI, hS⟩ := tm_Rv hR
  have hJ : ∀ a i, a ≠ 5 → a ≠ 14 → vI a i = u.2.1 a i := fun a i h5 h14 => (hI a i h5 h14).symm
  by_cases h1 : p0 < (-1)
  · refine ⟨_, _, _, _, w_power_x1 p0 (m_power_bad hl9 u p0 (Or.inl h1)), (p_power_b1 (u.1, vI, u.2.2) p0 h1), ?_, ?_⟩
    · simp [tm_L, tm_I, tm_D]
    · refine ⟨⟨?_, ?_, ?_, ?_⟩, ?_, ?_, ?_, ?_⟩
      · first | (simp [tm_L, tm_I, tm_D, hJ]; done) | (funext a i; simp only [tm_L, tm_I, tm_D]; grind)
      · first | (simp only [tm_L, tm_I, tm_D]; done) | rfl | (funext a; simp only [tm_L, tm_I, tm_D]; grind)
      · intro a i h5 h14; have h9 := hI a i h5 h14; simp only [tm_L, tm_I, tm_D]; grind
      · intro q h4; have h9 := hS q; simp only [tm_L, tm_I, tm_D] at h4 ⊢; first | grind | simp_all
      · simpa [tm_L, tm_I, tm_D] using hV.1
      · simpa [tm_L, tm_I, tm_D] using hV.2.1
      · simpa [tm_L, tm_I, tm_D] using hV.2.2.1
      · simpa [tm_L, tm_I, tm_D] using hV.2.2.2
  by_cases h2 : p0 ≤ nI 100
  rotate_left
  · refine ⟨_, _, _, _, w_power_x1 p0 (m_power_bad hl9 u p0 (Or.inr h2)), (p_power_b2 (u.1, vI, u.2.2) p0 h1 h2), ?_, ?_⟩
    · simp [tm_L, tm_I, tm_D]
    · refine ⟨⟨?_, ?_, ?_, ?_⟩, ?_, ?_, ?_, ?_⟩
      · first | (simp [tm_L, tm_I, tm_D, hJ]; done) | (funext a i; simp only [tm_L, tm_I, tm_D]; grind)
      · first | (simp only [tm_L, tm_I, tm_D]; done) | rfl | (funext a; simp only [tm_L, tm_I, tm_D]; grind)
      · intro a i h5 h14; have h9 := hI a i h5 h14; simp only [tm_L, tm_I, tm_D]; grind
      · intro q h4; have h9 := hS q; simp only [tm_L, tm_I, tm_D] at h4 ⊢; first | grind | simp_all
      · simpa [tm_L, tm_I, tm_D] using hV.1
      · simpa [tm_L, tm_I, tm_D] using hV.2.1
      · simpa [tm_L, tm_I, tm_D] using hV.2.2.1
      · simpa [tm_L, tm_I, tm_D] using hV.2.2.2
  refine ⟨_, _, _, _, w_power_ok p0 (m_power_ok u p0 h1 h2), (p_power_ok (u.1, vI, u.2.2) p0 h1 h2), ?_, ?_⟩
  · simp [tm_L, tm_I, tm_D]
  · refine ⟨⟨?_, ?_, ?_, ?_⟩, ?_, ?_, ?_, ?_⟩
    · funext a i; by_cases h0 : a = 0 <;> by_cases h1 : a = 1 <;> by_cases h6 : a = 6 <;> simp [tm_L, tm_I, tm_D, h0, h1, h6]
    · first | (simp only [tm_L, tm_I, tm_D]; done) | rfl | (funext a; simp only [tm_L, tm_I, tm_D]; grind)
    · intro a i h5 h14
      have h9 := hI a i h5 h14
      by_cases z0 : a = 0
      · subst z0; simp [tm_L, tm_I, tm_D, h9]
      by_cases z4 : a = 4
      · subst z4; simp [tm_L, tm_I, tm_D, h9]
      by_cases z9 : a = 9
      · subst z9; simp [tm_L, tm_I, tm_D, h9]
      by_cases z10 : a = 10
      · subst z10; simp [tm_L, tm_I, tm_D, h9]
      by_cases z11 : a = 11
      · subst z11; simp [tm_L, tm_I, tm_D, h9]
      simp [tm_L, tm_I, tm_D, z0, z4, z9, z10, z11, h5, h14, h9]
    · intro q h4
      by_cases z0 : q = 0
      · subst z0; exact absurd (by simp [tm_L, tm_I, tm_D, hn0]) h4
      by_cases z1 : q = 1
      · subst z1; exact absurd (by simp [tm_L, tm_I, tm_D, hn0]) h4
      by_cases z2 : q = 2
      · subst z2; exact absurd (by simp [tm_L, tm_I, tm_D, hn0]) h4
      have h9 := hS q (by simpa [tm_L, tm_I, tm_D, z0, z1, z2] using h4)
      simpa [tm_L, tm_I, tm_D, z0, z1, z2] using h9
    · simpa [tm_L, tm_I, tm_D] using hV.1
    · simpa [tm_L, tm_I, tm_D] using hV.2.1
    · simpa [tm_L, tm_I, tm_D] using hV.2.1
    · simpa [tm_L, tm_I, tm_D] using tm_pw h1
set_option maxHeartbeats 4000000 in
set_option maxRecDepth 100000 in
theorem op_extend (hl9 : l.stackTraces = false) {u v : tm_S} (o : Int64 × UInt64) (hR : tm_R u v) (p0 : Int32) (p1 : Int32) (p2 : Int64) : ∃ (k : Int32) (u' v' : tm_S) (o' : Int64 × UInt64) (b : Int64), kl_M l dC dI gs ad cc cr cd yL_extend wsL_extend { frames := 9, cells := 1, slots := 6, locals := 149 } [.ref (ad 0), .int p0, .int p1, .long p2, .ref (ad 55)] u v o u' v o' k ∧ kr_M l dC dI (tr_ad ad) cr yX5_extend wsX5_extend { frames := 1, cells := 0, slots := 0, locals := 26 } [.ref (tr_ad ad 0), .int p0, .int p1, .long p2] v v' (some (.long b)) ∧ v'.2.1 14 0 = k ∧ (k = nI 0 → o'.1 = b) ∧ tm_R u' v' := by
  have hV := hR.2
  have hn0 := nI_0
  obtain ⟨vI, rfl, hI, hS⟩ := tm_Rv hR
  have hJ : ∀ a i, a ≠ 5 → a ≠ 14 → vI a i = u.2.1 a i := fun a i h5 h14 => (hI a i h5 h14).symm
  rcases tm_ix p0 (n := 2) (by decide) with h | ⟨j, hj, rfl⟩
  · refine ⟨_, _, _, _, _, w_extend_x1 p0 p1 p2 (m_extend_b1 hl9 u p0 h p1 p2), (p_extend_b1 (u.1, vI, u.2.2) p0 (tm_ixr h (by decide)) p1 p2), ?_, ?_, ?_⟩
    · simp [tm_L, tm_I, tm_D]
    · intro h9; exact absurd h9 (by decide)
    · refine ⟨⟨?_, ?_, ?_, ?_⟩, ?_, ?_, ?_, ?_⟩
      · first | (simp [tm_L, tm_I, tm_D, hJ]; done) | (funext a i; simp only [tm_L, tm_I, tm_D]; grind)
      · first | (simp only [tm_L, tm_I, tm_D]; done) | rfl | (funext a; simp only [tm_L, tm_I, tm_D]; grind)
      · intro a i h5 h14; have h9 := hI a i h5 h14; simp only [tm_L, tm_I, tm_D]; grind
      · intro q h4; have h9 := hS q; simp only [tm_L, tm_I, tm_D] at h4 ⊢; first | grind | simp_all
      · simpa [tm_L, tm_I, tm_D] using hV.1
      · simpa [tm_L, tm_I, tm_D] using hV.2.1
      · simpa [tm_L, tm_I, tm_D] using hV.2.2.1
      · simpa [tm_L, tm_I, tm_D] using hV.2.2.2
  rcases tm_ix p1 (n := 8) (by decide) with h | ⟨i, hi, rfl⟩
  · refine ⟨_, _, _, _, _, w_extend_x1 (nI j) p1 p2 (m_extend_b2 hl9 u hj p1 h p2), (p_extend_b2 (u.1, vI, u.2.2) hj p1 (tm_ixr h (by decide)) p2), ?_, ?_, ?_⟩
    · simp [tm_L, tm_I, tm_D]
    · intro h9; exact absurd h9 (by decide)
    · refine ⟨⟨?_, ?_, ?_, ?_⟩, ?_, ?_, ?_, ?_⟩
      · first | (simp [tm_L, tm_I, tm_D, hJ]; done) | (funext a i; simp only [tm_L, tm_I, tm_D]; grind)
      · first | (simp only [tm_L, tm_I, tm_D]; done) | rfl | (funext a; simp only [tm_L, tm_I, tm_D]; grind)
      · intro a i h5 h14; have h9 := hI a i h5 h14; simp only [tm_L, tm_I, tm_D]; grind
      · intro q h4; have h9 := hS q; simp only [tm_L, tm_I, tm_D] at h4 ⊢; first | grind | simp_all
      · simpa [tm_L, tm_I, tm_D] using hV.1
      · simpa [tm_L, tm_I, tm_D] using hV.2.1
      · simpa [tm_L, tm_I, tm_D] using hV.2.2.1
      · simpa [tm_L, tm_I, tm_D] using hV.2.2.2
  by_cases hnl : u.2.1 11 0 = 0
  rotate_left
  · have hlo := hnl
    refine ⟨_, _, _, _, _, w_extend_x2 (nI j) (nI i) p2 (m_extend_lo hl9 u hj hi p2 hlo), (p_extend_lo (u.1, vI, u.2.2) hj hi p2 (by simpa [hJ] using hlo)), ?_, ?_, ?_⟩
    · simp [tm_L, tm_I, tm_D]
    · intro h9; exact absurd h9 (by decide)
    · refine ⟨⟨?_, ?_, ?_, ?_⟩, ?_, ?_, ?_, ?_⟩
      · first | (simp [tm_L, tm_I, tm_D, hJ]; done) | (funext a i; simp only [tm_L, tm_I, tm_D]; grind)
      · first | (simp only [tm_L, tm_I, tm_D]; done) | rfl | (funext a; simp only [tm_L, tm_I, tm_D]; grind)
      · intro a i h5 h14; have h9 := hI a i h5 h14; simp only [tm_L, tm_I, tm_D]; grind
      · intro q h4; have h9 := hS q; simp only [tm_L, tm_I, tm_D] at h4 ⊢; first | grind | simp_all
      · simpa [tm_L, tm_I, tm_D] using hV.1
      · simpa [tm_L, tm_I, tm_D] using hV.2.1
      · simpa [tm_L, tm_I, tm_D] using hV.2.2.1
      · simpa [tm_L, tm_I, tm_D] using hV.2.2.2
  refine ⟨_, _, _, _, _, w_extend_ok (nI j) (nI i) p2 (m_extend_ok u hj hi p2 hnl), (p_extend_ok (u.1, vI, u.2.2) hj hi p2 (by simpa [hJ] using hnl)), ?_, ?_, ?_⟩
  · simp [tm_L, tm_I, tm_D]
  · intro _; simp [hJ, tm_L, tm_I, tm_D]
  · refine ⟨⟨?_, ?_, ?_, ?_⟩, ?_, ?_, ?_, ?_⟩
    · first | (simp [tm_L, tm_I, tm_D, hJ]; done) | (funext a i; simp only [tm_L, tm_I, tm_D]; grind)
    · first | (simp only [tm_L, tm_I, tm_D]; done) | rfl | (funext a; simp only [tm_L, tm_I, tm_D]; grind)
    · intro a i h5 h14; have h9 := hI a i h5 h14; simp only [tm_L, tm_I, tm_D]; grind
    · intro q h4; have h9 := hS q; simp only [tm_L, tm_I, tm_D] at h4 ⊢; first | grind | simp_all
    · simpa [tm_L, tm_I, tm_D] using hV.1
    · simpa [tm_L, tm_I, tm_D] using hV.2.1
    · simpa [tm_L, tm_I, tm_D] using hV.2.2.1
    · simpa [tm_L, tm_I, tm_D] using hV.2.2.2
set_option maxHeartbeats 4000000 in
set_option maxRecDepth 100000 in
theorem op_primary (hl9 : l.stackTraces = false) {u v : tm_S} (o : Int64 × UInt64) (hR : tm_R u v) (p0 : Int32) (p1 : Int64) : ∃ (k : Int32) (u' v' : tm_S) (o' : Int64 × UInt64) (b : Int32), kl_M l dC dI gs ad cc cr cd yL_primary wsL_primary { frames := 9, cells := 1, slots := 6, locals := 149 } [.ref (ad 0), .int p0, .long p1, .ref (ad 55)] u v o u' v o' k ∧ kr_M l dC dI (tr_ad ad) cr yX5_primary wsX5_primary { frames := 2, cells := 0, slots := 0, locals := 50 } [.ref (tr_ad ad 0), .int p0, .long p1] v v' (some (.int b)) ∧ v'.2.1 14 0 = k ∧ (k = nI 0 → o'.1 = b.toInt64) ∧ tm_R u' v' := by
  have hV := hR.2
  have hn0 := nI_0
  obtain ⟨vI, rfl, hI, hS⟩ := tm_Rv hR
  have hJ : ∀ a i, a ≠ 5 → a ≠ 14 → vI a i = u.2.1 a i := fun a i h5 h14 => (hI a i h5 h14).symm
  rcases tm_ix p0 (n := 3) (by decide) with h | ⟨j, hj, rfl⟩
  · refine ⟨_, _, _, _, _, w_primary_x1 p0 p1 (m_primary_b1 hl9 u p0 h p1), (p_primary_b1 (u.1, vI, u.2.2) p0 (tm_ixr h (by decide)) p1), ?_, ?_, ?_⟩
    · simp [tm_L, tm_I, tm_D]
    · intro h9; exact absurd h9 (by decide)
    · refine ⟨⟨?_, ?_, ?_, ?_⟩, ?_, ?_, ?_, ?_⟩
      · first | (simp [tm_L, tm_I, tm_D, hJ]; done) | (funext a i; simp only [tm_L, tm_I, tm_D]; grind)
      · first | (simp only [tm_L, tm_I, tm_D]; done) | rfl | (funext a; simp only [tm_L, tm_I, tm_D]; grind)
      · intro a i h5 h14; have h9 := hI a i h5 h14; simp only [tm_L, tm_I, tm_D]; grind
      · intro q h4; have h9 := hS q; simp only [tm_L, tm_I, tm_D] at h4 ⊢; first | grind | simp_all
      · simpa [tm_L, tm_I, tm_D] using hV.1
      · simpa [tm_L, tm_I, tm_D] using hV.2.1
      · simpa [tm_L, tm_I, tm_D] using hV.2.2.1
      · simpa [tm_L, tm_I, tm_D] using hV.2.2.2
  by_cases hnl : u.2.1 11 0 = 0
  rotate_left
  · have hlo := hnl
    refine ⟨_, _, _, _, _, w_primary_x2 (nI j) p1 (m_primary_lo hl9 u hj p1 hlo), (p_primary_lo (u.1, vI, u.2.2) hj p1 (by simpa [hJ] using hlo)), ?_, ?_, ?_⟩
    · simp [tm_L, tm_I, tm_D]
    · intro h9; exact absurd h9 (by decide)
    · refine ⟨⟨?_, ?_, ?_, ?_⟩, ?_, ?_, ?_, ?_⟩
      · first | (simp [tm_L, tm_I, tm_D, hJ]; done) | (funext a i; simp only [tm_L, tm_I, tm_D]; grind)
      · first | (simp only [tm_L, tm_I, tm_D]; done) | rfl | (funext a; simp only [tm_L, tm_I, tm_D]; grind)
      · intro a i h5 h14; have h9 := hI a i h5 h14; simp only [tm_L, tm_I, tm_D]; grind
      · intro q h4; have h9 := hS q; simp only [tm_L, tm_I, tm_D] at h4 ⊢; first | grind | simp_all
      · simpa [tm_L, tm_I, tm_D] using hV.1
      · simpa [tm_L, tm_I, tm_D] using hV.2.1
      · simpa [tm_L, tm_I, tm_D] using hV.2.2.1
      · simpa [tm_L, tm_I, tm_D] using hV.2.2.2
  rcases tm_free u with hf | ⟨k, hk, hf, ha⟩
  · refine ⟨_, _, _, _, _, w_primary_x2 (nI j) p1 (m_primary_full hl9 u hj p1 hnl hf), (p_primary_full (u.1, vI, u.2.2) hj p1 (by simpa [hJ] using hnl) (fun i hi => by have z := hf i hi; simpa [hJ] using z)), ?_, ?_, ?_⟩
    · simp [tm_L, tm_I, tm_D]
    · intro h9; exact absurd h9 (by decide)
    · refine ⟨⟨?_, ?_, ?_, ?_⟩, ?_, ?_, ?_, ?_⟩
      · first | (simp [tm_L, tm_I, tm_D, hJ]; done) | (funext a i; simp only [tm_L, tm_I, tm_D]; grind)
      · first | (simp only [tm_L, tm_I, tm_D]; done) | rfl | (funext a; simp only [tm_L, tm_I, tm_D]; grind)
      · intro a i h5 h14; have h9 := hI a i h5 h14; simp only [tm_L, tm_I, tm_D]; grind
      · intro q h4; have h9 := hS q; simp only [tm_L, tm_I, tm_D] at h4 ⊢; first | grind | simp_all
      · simpa [tm_L, tm_I, tm_D] using hV.1
      · simpa [tm_L, tm_I, tm_D] using hV.2.1
      · simpa [tm_L, tm_I, tm_D] using hV.2.2.1
      · simpa [tm_L, tm_I, tm_D] using hV.2.2.2
  refine ⟨_, _, _, _, _, w_primary_ok (nI j) p1 (m_primary_ok u hj p1 hnl hk hf ha), (p_primary_ok (u.1, vI, u.2.2) hj p1 (by simpa [hJ] using hnl) hk (by simpa [hJ] using hf) (fun i hi => by have z := ha i hi; simpa [hJ] using z)), ?_, ?_, ?_⟩
  · simp [tm_L, tm_I, tm_D]
  · intro _; simp [hJ, tm_L, tm_I, tm_D]
  · refine ⟨⟨?_, ?_, ?_, ?_⟩, ?_, ?_, ?_, ?_⟩
    · first | (simp [tm_L, tm_I, tm_D, hJ]; done) | (funext a i; simp only [tm_L, tm_I, tm_D]; grind)
    · first | (simp only [tm_L, tm_I, tm_D]; done) | rfl | (funext a; simp only [tm_L, tm_I, tm_D]; grind)
    · intro a i h5 h14; have h9 := hI a i h5 h14; simp only [tm_L, tm_I, tm_D]; grind
    · intro q h4; have h9 := hS q; simp only [tm_L, tm_I, tm_D] at h4 ⊢; first | grind | simp_all
    · simpa [tm_L, tm_I, tm_D] using hV.1
    · simpa [tm_L, tm_I, tm_D] using hV.2.1
    · simpa [tm_L, tm_I, tm_D] using hV.2.2.1
    · simpa [tm_L, tm_I, tm_D] using hV.2.2.2
set_option maxHeartbeats 4000000 in
set_option maxRecDepth 100000 in
theorem op_create (hl9 : l.stackTraces = false) {u v : tm_S} (o : Int64 × UInt64) (hR : tm_R u v) (p0 : Int32) (p1 : Int32) (p2 : Int64) (p3 : Int32) (p4 : Int64) : ∃ (k : Int32) (u' v' : tm_S) (o' : Int64 × UInt64), kl_M l dC dI gs ad cc cr cd yL_create wsL_create { frames := 9, cells := 1, slots := 6, locals := 153 } [.ref (ad 0), .int p0, .int p1, .long p2, .int p3, .long p4] u v o u' v o' k ∧ kr_M l dC dI (tr_ad ad) cr yX5_create wsX5_create { frames := 2, cells := 0, slots := 0, locals := 48 } [.ref (tr_ad ad 0), .int p0, .int p1, .long p2, .int p3, .long p4] v v' none ∧ v'.2.1 14 0 = k ∧ tm_R u' v' := by
  have hV := hR.2
  have hn0 := nI_0
  obtain ⟨vI, rfl, hI, hS⟩ := tm_Rv hR
  have hJ : ∀ a i, a ≠ 5 → a ≠ 14 → vI a i = u.2.1 a i := fun a i h5 h14 => (hI a i h5 h14).symm
  rcases tm_ix p0 (n := 4) (by decide) with h | ⟨j, hj, rfl⟩
  · refine ⟨_, _, _, _, w_create_x1 p0 p1 p2 p3 p4 (m_create_b1 hl9 u p0 h p1 p2 p3 p4), (p_create_b1 (u.1, vI, u.2.2) p0 (tm_ixr h (by decide)) p1 p2 p3 p4), ?_, ?_⟩
    · simp [tm_L, tm_I, tm_D]
    · refine ⟨⟨?_, ?_, ?_, ?_⟩, ?_, ?_, ?_, ?_⟩
      · first | (simp [tm_L, tm_I, tm_D, hJ]; done) | (funext a i; simp only [tm_L, tm_I, tm_D]; grind)
      · first | (simp only [tm_L, tm_I, tm_D]; done) | rfl | (funext a; simp only [tm_L, tm_I, tm_D]; grind)
      · intro a i h5 h14; have h9 := hI a i h5 h14; simp only [tm_L, tm_I, tm_D]; grind
      · intro q h4; have h9 := hS q; simp only [tm_L, tm_I, tm_D] at h4 ⊢; first | grind | simp_all
      · simpa [tm_L, tm_I, tm_D] using hV.1
      · simpa [tm_L, tm_I, tm_D] using hV.2.1
      · simpa [tm_L, tm_I, tm_D] using hV.2.2.1
      · simpa [tm_L, tm_I, tm_D] using hV.2.2.2
  rcases tm_ix p1 (n := 8) (by decide) with h | ⟨i, hi, rfl⟩
  · refine ⟨_, _, _, _, w_create_x1 (nI j) p1 p2 p3 p4 (m_create_b2 hl9 u hj p1 h p2 p3 p4), (p_create_b2 (u.1, vI, u.2.2) hj p1 (tm_ixr h (by decide)) p2 p3 p4), ?_, ?_⟩
    · simp [tm_L, tm_I, tm_D]
    · refine ⟨⟨?_, ?_, ?_, ?_⟩, ?_, ?_, ?_, ?_⟩
      · first | (simp [tm_L, tm_I, tm_D, hJ]; done) | (funext a i; simp only [tm_L, tm_I, tm_D]; grind)
      · first | (simp only [tm_L, tm_I, tm_D]; done) | rfl | (funext a; simp only [tm_L, tm_I, tm_D]; grind)
      · intro a i h5 h14; have h9 := hI a i h5 h14; simp only [tm_L, tm_I, tm_D]; grind
      · intro q h4; have h9 := hS q; simp only [tm_L, tm_I, tm_D] at h4 ⊢; first | grind | simp_all
      · simpa [tm_L, tm_I, tm_D] using hV.1
      · simpa [tm_L, tm_I, tm_D] using hV.2.1
      · simpa [tm_L, tm_I, tm_D] using hV.2.2.1
      · simpa [tm_L, tm_I, tm_D] using hV.2.2.2
  by_cases hnl : u.2.1 11 0 = 0
  rotate_left
  · have hlo := hnl
    refine ⟨_, _, _, _, w_create_x2 (nI j) (nI i) p2 p3 p4 (m_create_lo hl9 u hj hi p2 p3 p4 hlo), (p_create_lo (u.1, vI, u.2.2) hj hi p2 p3 p4 (by simpa [hJ] using hlo)), ?_, ?_⟩
    · simp [tm_L, tm_I, tm_D]
    · refine ⟨⟨?_, ?_, ?_, ?_⟩, ?_, ?_, ?_, ?_⟩
      · first | (simp [tm_L, tm_I, tm_D, hJ]; done) | (funext a i; simp only [tm_L, tm_I, tm_D]; grind)
      · first | (simp only [tm_L, tm_I, tm_D]; done) | rfl | (funext a; simp only [tm_L, tm_I, tm_D]; grind)
      · intro a i h5 h14; have h9 := hI a i h5 h14; simp only [tm_L, tm_I, tm_D]; grind
      · intro q h4; have h9 := hS q; simp only [tm_L, tm_I, tm_D] at h4 ⊢; first | grind | simp_all
      · simpa [tm_L, tm_I, tm_D] using hV.1
      · simpa [tm_L, tm_I, tm_D] using hV.2.1
      · simpa [tm_L, tm_I, tm_D] using hV.2.2.1
      · simpa [tm_L, tm_I, tm_D] using hV.2.2.2
  by_cases hh : u.2.1 0 j = 0
  · refine ⟨_, _, _, _, w_create_x3 (nI j) (nI i) p2 p3 p4 (m_create_free hl9 u hj hi p2 p3 p4 hnl hh), (p_create_free (u.1, vI, u.2.2) hj hi p2 p3 p4 (by simpa [hJ] using hnl) (by simpa [hJ] using hh)), ?_, ?_⟩
    · simp [tm_L, tm_I, tm_D]
    · refine ⟨⟨?_, ?_, ?_, ?_⟩, ?_, ?_, ?_, ?_⟩
      · first | (simp [tm_L, tm_I, tm_D, hJ]; done) | (funext a i; simp only [tm_L, tm_I, tm_D]; grind)
      · first | (simp only [tm_L, tm_I, tm_D]; done) | rfl | (funext a; simp only [tm_L, tm_I, tm_D]; grind)
      · intro a i h5 h14; have h9 := hI a i h5 h14; simp only [tm_L, tm_I, tm_D]; grind
      · intro q h4; have h9 := hS q; simp only [tm_L, tm_I, tm_D] at h4 ⊢; first | grind | simp_all
      · simpa [tm_L, tm_I, tm_D] using hV.1
      · simpa [tm_L, tm_I, tm_D] using hV.2.1
      · simpa [tm_L, tm_I, tm_D] using hV.2.2.1
      · simpa [tm_L, tm_I, tm_D] using hV.2.2.2
  by_cases hp : u.2.1 2 j = 0
  · refine ⟨_, _, _, _, w_create_x4 (nI j) (nI i) p2 p3 p4 (m_create_nop hl9 u hj hi p2 p3 p4 hnl hh hp), (p_create_nop (u.1, vI, u.2.2) hj hi p2 p3 p4 (by simpa [hJ] using hnl) (by simpa [hJ] using hh) (by simpa [hJ] using hp)), ?_, ?_⟩
    · simp [tm_L, tm_I, tm_D]
    · refine ⟨⟨?_, ?_, ?_, ?_⟩, ?_, ?_, ?_, ?_⟩
      · first | (simp [tm_L, tm_I, tm_D, hJ]; done) | (funext a i; simp only [tm_L, tm_I, tm_D]; grind)
      · first | (simp only [tm_L, tm_I, tm_D]; done) | rfl | (funext a; simp only [tm_L, tm_I, tm_D]; grind)
      · intro a i h5 h14; have h9 := hI a i h5 h14; simp only [tm_L, tm_I, tm_D]; grind
      · intro q h4; have h9 := hS q; simp only [tm_L, tm_I, tm_D] at h4 ⊢; first | grind | simp_all
      · simpa [tm_L, tm_I, tm_D] using hV.1
      · simpa [tm_L, tm_I, tm_D] using hV.2.1
      · simpa [tm_L, tm_I, tm_D] using hV.2.2.1
      · simpa [tm_L, tm_I, tm_D] using hV.2.2.2
  refine ⟨_, _, _, _, w_create_ok (nI j) (nI i) p2 p3 p4 (m_create_ok u hj hi p2 p3 p4 hnl hh hp), (p_create_ok (u.1, vI, u.2.2) hj hi p2 p3 p4 (by simpa [hJ] using hnl) (by simpa [hJ] using hh) (by simpa [hJ] using hp)), ?_, ?_⟩
  · simp [tm_L, tm_I, tm_D]
  · refine ⟨⟨?_, ?_, ?_, ?_⟩, ?_, ?_, ?_, ?_⟩
    · first | (simp [tm_L, tm_I, tm_D, hJ]; done) | (funext a i; simp only [tm_L, tm_I, tm_D]; grind)
    · first | (simp only [tm_L, tm_I, tm_D]; done) | rfl | (funext a; simp only [tm_L, tm_I, tm_D]; grind)
    · intro a i h5 h14; have h9 := hI a i h5 h14; simp only [tm_L, tm_I, tm_D]; grind
    · intro q h4; have h9 := hS q; simp only [tm_L, tm_I, tm_D] at h4 ⊢; first | grind | simp_all
    · simpa [tm_L, tm_I, tm_D] using hV.1
    · simpa [tm_L, tm_I, tm_D] using hV.2.1
    · simpa [tm_L, tm_I, tm_D] using hV.2.2.1
    · simpa [tm_L, tm_I, tm_D] using hV.2.2.2
set_option maxHeartbeats 4000000 in
set_option maxRecDepth 100000 in
theorem op_load (hl9 : l.stackTraces = false) {u v : tm_S} (o : Int64 × UInt64) (hR : tm_R u v) (p0 : Int32) (p1 : Int32) : ∃ (k : Int32) (u' v' : tm_S) (o' : Int64 × UInt64) (b : Int32), kl_M l dC dI gs ad cc cr cd yL_load wsL_load { frames := 9, cells := 1, slots := 6, locals := 152 } [.ref (ad 0), .int p0, .int p1, .ref (ad 55)] u v o u' v o' k ∧ kr_M l dC dI (tr_ad ad) cr yX5_load wsX5_load { frames := 2, cells := 0, slots := 0, locals := 50 } [.ref (tr_ad ad 0), .int p0, .int p1] v v' (some (.int b)) ∧ v'.2.1 14 0 = k ∧ (k = nI 0 → o'.1 = b.toInt64) ∧ tm_R u' v' := by
  have hV := hR.2
  have hn0 := nI_0
  obtain ⟨vI, rfl, hI, hS⟩ := tm_Rv hR
  have hJ : ∀ a i, a ≠ 5 → a ≠ 14 → vI a i = u.2.1 a i := fun a i h5 h14 => (hI a i h5 h14).symm
  rcases tm_ix p0 (n := 4) (by decide) with h | ⟨j, hj, rfl⟩
  · refine ⟨_, _, _, _, _, w_load_x1 p0 p1 (m_load_b1 hl9 u p0 h p1), (p_load_b1 (u.1, vI, u.2.2) p0 (tm_ixr h (by decide)) p1), ?_, ?_, ?_⟩
    · simp [tm_L, tm_I, tm_D]
    · intro h9; exact absurd h9 (by decide)
    · refine ⟨⟨?_, ?_, ?_, ?_⟩, ?_, ?_, ?_, ?_⟩
      · first | (simp [tm_L, tm_I, tm_D, hJ]; done) | (funext a i; simp only [tm_L, tm_I, tm_D]; grind)
      · first | (simp only [tm_L, tm_I, tm_D]; done) | rfl | (funext a; simp only [tm_L, tm_I, tm_D]; grind)
      · intro a i h5 h14; have h9 := hI a i h5 h14; simp only [tm_L, tm_I, tm_D]; grind
      · intro q h4; have h9 := hS q; simp only [tm_L, tm_I, tm_D] at h4 ⊢; first | grind | simp_all
      · simpa [tm_L, tm_I, tm_D] using hV.1
      · simpa [tm_L, tm_I, tm_D] using hV.2.1
      · simpa [tm_L, tm_I, tm_D] using hV.2.2.1
      · simpa [tm_L, tm_I, tm_D] using hV.2.2.2
  rcases tm_ix p1 (n := 8) (by decide) with h | ⟨i, hi, rfl⟩
  · refine ⟨_, _, _, _, _, w_load_x1 (nI j) p1 (m_load_b2 hl9 u hj p1 h), (p_load_b2 (u.1, vI, u.2.2) hj p1 (tm_ixr h (by decide))), ?_, ?_, ?_⟩
    · simp [tm_L, tm_I, tm_D]
    · intro h9; exact absurd h9 (by decide)
    · refine ⟨⟨?_, ?_, ?_, ?_⟩, ?_, ?_, ?_, ?_⟩
      · first | (simp [tm_L, tm_I, tm_D, hJ]; done) | (funext a i; simp only [tm_L, tm_I, tm_D]; grind)
      · first | (simp only [tm_L, tm_I, tm_D]; done) | rfl | (funext a; simp only [tm_L, tm_I, tm_D]; grind)
      · intro a i h5 h14; have h9 := hI a i h5 h14; simp only [tm_L, tm_I, tm_D]; grind
      · intro q h4; have h9 := hS q; simp only [tm_L, tm_I, tm_D] at h4 ⊢; first | grind | simp_all
      · simpa [tm_L, tm_I, tm_D] using hV.1
      · simpa [tm_L, tm_I, tm_D] using hV.2.1
      · simpa [tm_L, tm_I, tm_D] using hV.2.2.1
      · simpa [tm_L, tm_I, tm_D] using hV.2.2.2
  by_cases hnl : u.2.1 11 0 = 0
  rotate_left
  · have hlo := hnl
    refine ⟨_, _, _, _, _, w_load_x2 (nI j) (nI i) (m_load_lo hl9 u hj hi hlo), (p_load_lo (u.1, vI, u.2.2) hj hi (by simpa [hJ] using hlo)), ?_, ?_, ?_⟩
    · simp [tm_L, tm_I, tm_D]
    · intro h9; exact absurd h9 (by decide)
    · refine ⟨⟨?_, ?_, ?_, ?_⟩, ?_, ?_, ?_, ?_⟩
      · first | (simp [tm_L, tm_I, tm_D, hJ]; done) | (funext a i; simp only [tm_L, tm_I, tm_D]; grind)
      · first | (simp only [tm_L, tm_I, tm_D]; done) | rfl | (funext a; simp only [tm_L, tm_I, tm_D]; grind)
      · intro a i h5 h14; have h9 := hI a i h5 h14; simp only [tm_L, tm_I, tm_D]; grind
      · intro q h4; have h9 := hS q; simp only [tm_L, tm_I, tm_D] at h4 ⊢; first | grind | simp_all
      · simpa [tm_L, tm_I, tm_D] using hV.1
      · simpa [tm_L, tm_I, tm_D] using hV.2.1
      · simpa [tm_L, tm_I, tm_D] using hV.2.2.1
      · simpa [tm_L, tm_I, tm_D] using hV.2.2.2
  by_cases hh : u.2.1 0 j = 0
  · refine ⟨_, _, _, _, _, w_load_x3 (nI j) (nI i) (m_load_free hl9 u hj hi hnl hh), (p_load_free (u.1, vI, u.2.2) hj hi (by simpa [hJ] using hnl) (by simpa [hJ] using hh)), ?_, ?_, ?_⟩
    · simp [tm_L, tm_I, tm_D]
    · intro h9; exact absurd h9 (by decide)
    · refine ⟨⟨?_, ?_, ?_, ?_⟩, ?_, ?_, ?_, ?_⟩
      · first | (simp [tm_L, tm_I, tm_D, hJ]; done) | (funext a i; simp only [tm_L, tm_I, tm_D]; grind)
      · first | (simp only [tm_L, tm_I, tm_D]; done) | rfl | (funext a; simp only [tm_L, tm_I, tm_D]; grind)
      · intro a i h5 h14; have h9 := hI a i h5 h14; simp only [tm_L, tm_I, tm_D]; grind
      · intro q h4; have h9 := hS q; simp only [tm_L, tm_I, tm_D] at h4 ⊢; first | grind | simp_all
      · simpa [tm_L, tm_I, tm_D] using hV.1
      · simpa [tm_L, tm_I, tm_D] using hV.2.1
      · simpa [tm_L, tm_I, tm_D] using hV.2.2.1
      · simpa [tm_L, tm_I, tm_D] using hV.2.2.2
  by_cases hm : u.2.1 3 i = 0
  · refine ⟨_, _, _, _, _, w_load_x3 (nI j) (nI i) (m_load_none hl9 u hj hi hnl hh hm), (p_load_none (u.1, vI, u.2.2) hj hi (by simpa [hJ] using hnl) (by simpa [hJ] using hh) (by simpa [hJ] using hm)), ?_, ?_, ?_⟩
    · simp [tm_L, tm_I, tm_D]
    · intro h9; exact absurd h9 (by decide)
    · refine ⟨⟨?_, ?_, ?_, ?_⟩, ?_, ?_, ?_, ?_⟩
      · first | (simp [tm_L, tm_I, tm_D, hJ]; done) | (funext a i; simp only [tm_L, tm_I, tm_D]; grind)
      · first | (simp only [tm_L, tm_I, tm_D]; done) | rfl | (funext a; simp only [tm_L, tm_I, tm_D]; grind)
      · intro a i h5 h14; have h9 := hI a i h5 h14; simp only [tm_L, tm_I, tm_D]; grind
      · intro q h4; have h9 := hS q; simp only [tm_L, tm_I, tm_D] at h4 ⊢; first | grind | simp_all
      · simpa [tm_L, tm_I, tm_D] using hV.1
      · simpa [tm_L, tm_I, tm_D] using hV.2.1
      · simpa [tm_L, tm_I, tm_D] using hV.2.2.1
      · simpa [tm_L, tm_I, tm_D] using hV.2.2.2
  by_cases hp : u.2.1 2 j = 0
  · refine ⟨_, _, _, _, _, w_load_x4 (nI j) (nI i) (m_load_nop hl9 u hj hi hnl hh hm hp), (p_load_nop (u.1, vI, u.2.2) hj hi (by simpa [hJ] using hnl) (by simpa [hJ] using hh) (by simpa [hJ] using hm) (by simpa [hJ] using hp)), ?_, ?_, ?_⟩
    · simp [tm_L, tm_I, tm_D]
    · intro h9; exact absurd h9 (by decide)
    · refine ⟨⟨?_, ?_, ?_, ?_⟩, ?_, ?_, ?_, ?_⟩
      · first | (simp [tm_L, tm_I, tm_D, hJ]; done) | (funext a i; simp only [tm_L, tm_I, tm_D]; grind)
      · first | (simp only [tm_L, tm_I, tm_D]; done) | rfl | (funext a; simp only [tm_L, tm_I, tm_D]; grind)
      · intro a i h5 h14; have h9 := hI a i h5 h14; simp only [tm_L, tm_I, tm_D]; grind
      · intro q h4; have h9 := hS q; simp only [tm_L, tm_I, tm_D] at h4 ⊢; first | grind | simp_all
      · simpa [tm_L, tm_I, tm_D] using hV.1
      · simpa [tm_L, tm_I, tm_D] using hV.2.1
      · simpa [tm_L, tm_I, tm_D] using hV.2.2.1
      · simpa [tm_L, tm_I, tm_D] using hV.2.2.2
  by_cases ht : u.1 5 (4 * i + 3) = tm_h (tm_h (u.1 2 j) 3) (tm_h (tm_h (u.1 5 (4 * i + 0)) (u.1 5 (4 * i + 1))) (u.1 5 (4 * i + 2)))
  rotate_left
  · refine ⟨_, _, _, _, _, w_load_x5 (nI j) (nI i) (m_load_tam hl9 u hj hi hnl hh hm hp ht), (p_load_tam (u.1, vI, u.2.2) hj hi (by simpa [hJ] using hnl) (by simpa [hJ] using hh) (by simpa [hJ] using hm) (by simpa [hJ] using hp) ht), ?_, ?_, ?_⟩
    · simp [tm_L, tm_I, tm_D]
    · intro h9; exact absurd h9 (by decide)
    · refine ⟨⟨?_, ?_, ?_, ?_⟩, ?_, ?_, ?_, ?_⟩
      · first | (simp [tm_L, tm_I, tm_D, hJ]; done) | (funext a i; simp only [tm_L, tm_I, tm_D]; grind)
      · first | (simp only [tm_L, tm_I, tm_D]; done) | rfl | (funext a; simp only [tm_L, tm_I, tm_D]; grind)
      · intro a i h5 h14; have h9 := hI a i h5 h14; simp only [tm_L, tm_I, tm_D]; grind
      · intro q h4; have h9 := hS q; simp only [tm_L, tm_I, tm_D] at h4 ⊢; first | grind | simp_all
      · simpa [tm_L, tm_I, tm_D] using hV.1
      · simpa [tm_L, tm_I, tm_D] using hV.2.1
      · simpa [tm_L, tm_I, tm_D] using hV.2.2.1
      · simpa [tm_L, tm_I, tm_D] using hV.2.2.2
  rcases tm_free u with hf | ⟨k, hk, hf, ha⟩
  · by_cases he : ((u.1 5 (4 * i + 0)) ^^^ (tm_h (u.1 2 j) 1)) &&& 1 = 0
    · refine ⟨_, _, _, _, _, w_load_x2 (nI j) (nI i) (m_load_full hl9 u hj hi hnl hh hm hp ht hf), (p_load_fulleven (u.1, vI, u.2.2) hj hi (by simpa [hJ] using hnl) (by simpa [hJ] using hh) (by simpa [hJ] using hm) (by simpa [hJ] using hp) ht (fun i hi => by have z := hf i hi; simpa [hJ] using z) he), ?_, ?_, ?_⟩
      · simp [tm_L, tm_I, tm_D]
      · intro h9; exact absurd h9 (by decide)
      · refine ⟨⟨?_, ?_, ?_, ?_⟩, ?_, ?_, ?_, ?_⟩
        · first | (simp [tm_L, tm_I, tm_D, hJ]; done) | (funext a i; simp only [tm_L, tm_I, tm_D]; grind)
        · first | (simp only [tm_L, tm_I, tm_D]; done) | rfl | (funext a; simp only [tm_L, tm_I, tm_D]; grind)
        · intro a i h5 h14; have h9 := hI a i h5 h14; simp only [tm_L, tm_I, tm_D]; grind
        · intro q h4; have h9 := hS q; simp only [tm_L, tm_I, tm_D] at h4 ⊢; first | grind | simp_all
        · simpa [tm_L, tm_I, tm_D] using hV.1
        · simpa [tm_L, tm_I, tm_D] using hV.2.1
        · simpa [tm_L, tm_I, tm_D] using hV.2.2.1
        · simpa [tm_L, tm_I, tm_D] using hV.2.2.2
    · refine ⟨_, _, _, _, _, w_load_x2 (nI j) (nI i) (m_load_full hl9 u hj hi hnl hh hm hp ht hf), (p_load_fullodd (u.1, vI, u.2.2) hj hi (by simpa [hJ] using hnl) (by simpa [hJ] using hh) (by simpa [hJ] using hm) (by simpa [hJ] using hp) ht (fun i hi => by have z := hf i hi; simpa [hJ] using z) he), ?_, ?_, ?_⟩
      · simp [tm_L, tm_I, tm_D]
      · intro h9; exact absurd h9 (by decide)
      · refine ⟨⟨?_, ?_, ?_, ?_⟩, ?_, ?_, ?_, ?_⟩
        · first | (simp [tm_L, tm_I, tm_D, hJ]; done) | (funext a i; simp only [tm_L, tm_I, tm_D]; grind)
        · first | (simp only [tm_L, tm_I, tm_D]; done) | rfl | (funext a; simp only [tm_L, tm_I, tm_D]; grind)
        · intro a i h5 h14; have h9 := hI a i h5 h14; simp only [tm_L, tm_I, tm_D]; grind
        · intro q h4; have h9 := hS q; simp only [tm_L, tm_I, tm_D] at h4 ⊢; first | grind | simp_all
        · simpa [tm_L, tm_I, tm_D] using hV.1
        · simpa [tm_L, tm_I, tm_D] using hV.2.1
        · simpa [tm_L, tm_I, tm_D] using hV.2.2.1
        · simpa [tm_L, tm_I, tm_D] using hV.2.2.2
  · by_cases he : ((u.1 5 (4 * i + 0)) ^^^ (tm_h (u.1 2 j) 1)) &&& 1 = 0
    · refine ⟨_, _, _, _, _, w_load_ok (nI j) (nI i) (m_load_even u hj hi hnl hh hm hp ht hk hf ha he), (p_load_even (u.1, vI, u.2.2) hj hi (by simpa [hJ] using hnl) (by simpa [hJ] using hh) (by simpa [hJ] using hm) (by simpa [hJ] using hp) ht hk (by simpa [hJ] using hf) (fun i hi => by have z := ha i hi; simpa [hJ] using z) he), ?_, ?_, ?_⟩
      · simp [tm_L, tm_I, tm_D]
      · intro _; simp [hJ, tm_L, tm_I, tm_D]
      · refine ⟨⟨?_, ?_, ?_, ?_⟩, ?_, ?_, ?_, ?_⟩
        · first | (simp [tm_L, tm_I, tm_D, hJ]; done) | (funext a i; simp only [tm_L, tm_I, tm_D]; grind)
        · first | (simp only [tm_L, tm_I, tm_D]; done) | rfl | (funext a; simp only [tm_L, tm_I, tm_D]; grind)
        · intro a i h5 h14; have h9 := hI a i h5 h14; simp only [tm_L, tm_I, tm_D]; grind
        · intro q h4; have h9 := hS q; simp only [tm_L, tm_I, tm_D] at h4 ⊢; first | grind | simp_all
        · simpa [tm_L, tm_I, tm_D] using hV.1
        · simpa [tm_L, tm_I, tm_D] using hV.2.1
        · simpa [tm_L, tm_I, tm_D] using hV.2.2.1
        · simpa [tm_L, tm_I, tm_D] using hV.2.2.2
    · refine ⟨_, _, _, _, _, w_load_ok (nI j) (nI i) (m_load_odd u hj hi hnl hh hm hp ht hk hf ha he), (p_load_odd (u.1, vI, u.2.2) hj hi (by simpa [hJ] using hnl) (by simpa [hJ] using hh) (by simpa [hJ] using hm) (by simpa [hJ] using hp) ht hk (by simpa [hJ] using hf) (fun i hi => by have z := ha i hi; simpa [hJ] using z) he), ?_, ?_, ?_⟩
      · simp [tm_L, tm_I, tm_D]
      · intro _; simp [hJ, tm_L, tm_I, tm_D]
      · refine ⟨⟨?_, ?_, ?_, ?_⟩, ?_, ?_, ?_, ?_⟩
        · first | (simp [tm_L, tm_I, tm_D, hJ]; done) | (funext a i; simp only [tm_L, tm_I, tm_D]; grind)
        · first | (simp only [tm_L, tm_I, tm_D]; done) | rfl | (funext a; simp only [tm_L, tm_I, tm_D]; grind)
        · intro a i h5 h14; have h9 := hI a i h5 h14; simp only [tm_L, tm_I, tm_D]; grind
        · intro q h4; have h9 := hS q; simp only [tm_L, tm_I, tm_D] at h4 ⊢; first | grind | simp_all
        · simpa [tm_L, tm_I, tm_D] using hV.1
        · simpa [tm_L, tm_I, tm_D] using hV.2.1
        · simpa [tm_L, tm_I, tm_D] using hV.2.2.1
        · simpa [tm_L, tm_I, tm_D] using hV.2.2.2
set_option maxHeartbeats 4000000 in
set_option maxRecDepth 100000 in
theorem op_tamper (hl9 : l.stackTraces = false) {u v : tm_S} (o : Int64 × UInt64) (hR : tm_R u v) (p0 : Int32) (p1 : Int32) (p2 : Int64) : ∃ (k : Int32) (u' v' : tm_S) (o' : Int64 × UInt64), kl_M l dC dI gs ad cc cr cd yL_tamper wsL_tamper { frames := 9, cells := 1, slots := 6, locals := 150 } [.ref (ad 0), .int p0, .int p1, .long p2] u v o u' v o' k ∧ kr_M l dC dI (tr_ad ad) cr yX5_tamper wsX5_tamper { frames := 1, cells := 0, slots := 0, locals := 22 } [.ref (tr_ad ad 0), .int p0, .int p1, .long p2] v v' none ∧ v'.2.1 14 0 = k ∧ tm_R u' v' := by
  have hV := hR.2
  have hn0 := nI_0
  obtain ⟨vI, rfl, hI, hS⟩ := tm_Rv hR
  have hJ : ∀ a i, a ≠ 5 → a ≠ 14 → vI a i = u.2.1 a i := fun a i h5 h14 => (hI a i h5 h14).symm
  rcases tm_ix p0 (n := 8) (by decide) with h | ⟨j, hj, rfl⟩
  · refine ⟨_, _, _, _, w_tamper_x1 p0 p1 p2 (m_tamper_b1 hl9 u p0 h p1 p2), (p_tamper_b1 (u.1, vI, u.2.2) p0 (tm_ixr h (by decide)) p1 p2), ?_, ?_⟩
    · simp [tm_L, tm_I, tm_D]
    · refine ⟨⟨?_, ?_, ?_, ?_⟩, ?_, ?_, ?_, ?_⟩
      · first | (simp [tm_L, tm_I, tm_D, hJ]; done) | (funext a i; simp only [tm_L, tm_I, tm_D]; grind)
      · first | (simp only [tm_L, tm_I, tm_D]; done) | rfl | (funext a; simp only [tm_L, tm_I, tm_D]; grind)
      · intro a i h5 h14; have h9 := hI a i h5 h14; simp only [tm_L, tm_I, tm_D]; grind
      · intro q h4; have h9 := hS q; simp only [tm_L, tm_I, tm_D] at h4 ⊢; first | grind | simp_all
      · simpa [tm_L, tm_I, tm_D] using hV.1
      · simpa [tm_L, tm_I, tm_D] using hV.2.1
      · simpa [tm_L, tm_I, tm_D] using hV.2.2.1
      · simpa [tm_L, tm_I, tm_D] using hV.2.2.2
  rcases tm_ix p1 (n := 4) (by decide) with h | ⟨i, hi, rfl⟩
  · refine ⟨_, _, _, _, w_tamper_x1 (nI j) p1 p2 (m_tamper_b2 hl9 u hj p1 h p2), (p_tamper_b2 (u.1, vI, u.2.2) hj p1 (tm_ixr h (by decide)) p2), ?_, ?_⟩
    · simp [tm_L, tm_I, tm_D]
    · refine ⟨⟨?_, ?_, ?_, ?_⟩, ?_, ?_, ?_, ?_⟩
      · first | (simp [tm_L, tm_I, tm_D, hJ]; done) | (funext a i; simp only [tm_L, tm_I, tm_D]; grind)
      · first | (simp only [tm_L, tm_I, tm_D]; done) | rfl | (funext a; simp only [tm_L, tm_I, tm_D]; grind)
      · intro a i h5 h14; have h9 := hI a i h5 h14; simp only [tm_L, tm_I, tm_D]; grind
      · intro q h4; have h9 := hS q; simp only [tm_L, tm_I, tm_D] at h4 ⊢; first | grind | simp_all
      · simpa [tm_L, tm_I, tm_D] using hV.1
      · simpa [tm_L, tm_I, tm_D] using hV.2.1
      · simpa [tm_L, tm_I, tm_D] using hV.2.2.1
      · simpa [tm_L, tm_I, tm_D] using hV.2.2.2
  by_cases hm : u.2.1 3 j = 0
  · refine ⟨_, _, _, _, w_tamper_x2 (nI j) (nI i) p2 (m_tamper_none hl9 u hj hi p2 hm), (p_tamper_none (u.1, vI, u.2.2) hj hi p2 (by simpa [hJ] using hm)), ?_, ?_⟩
    · simp [tm_L, tm_I, tm_D]
    · refine ⟨⟨?_, ?_, ?_, ?_⟩, ?_, ?_, ?_, ?_⟩
      · first | (simp [tm_L, tm_I, tm_D, hJ]; done) | (funext a i; simp only [tm_L, tm_I, tm_D]; grind)
      · first | (simp only [tm_L, tm_I, tm_D]; done) | rfl | (funext a; simp only [tm_L, tm_I, tm_D]; grind)
      · intro a i h5 h14; have h9 := hI a i h5 h14; simp only [tm_L, tm_I, tm_D]; grind
      · intro q h4; have h9 := hS q; simp only [tm_L, tm_I, tm_D] at h4 ⊢; first | grind | simp_all
      · simpa [tm_L, tm_I, tm_D] using hV.1
      · simpa [tm_L, tm_I, tm_D] using hV.2.1
      · simpa [tm_L, tm_I, tm_D] using hV.2.2.1
      · simpa [tm_L, tm_I, tm_D] using hV.2.2.2
  refine ⟨_, _, _, _, w_tamper_ok (nI j) (nI i) p2 (m_tamper_ok u hj hi p2 hm), (p_tamper_ok (u.1, vI, u.2.2) hj hi p2 (by simpa [hJ] using hm)), ?_, ?_⟩
  · simp [tm_L, tm_I, tm_D]
  · refine ⟨⟨?_, ?_, ?_, ?_⟩, ?_, ?_, ?_, ?_⟩
    · first | (simp [tm_L, tm_I, tm_D, hJ]; done) | (funext a i; simp only [tm_L, tm_I, tm_D]; grind)
    · first | (simp only [tm_L, tm_I, tm_D]; done) | rfl | (funext a; simp only [tm_L, tm_I, tm_D]; grind)
    · intro a i h5 h14; have h9 := hI a i h5 h14; simp only [tm_L, tm_I, tm_D]; grind
    · intro q h4; have h9 := hS q; simp only [tm_L, tm_I, tm_D] at h4 ⊢; first | grind | simp_all
    · simpa [tm_L, tm_I, tm_D] using hV.1
    · simpa [tm_L, tm_I, tm_D] using hV.2.1
    · simpa [tm_L, tm_I, tm_D] using hV.2.2.1
    · simpa [tm_L, tm_I, tm_D] using hV.2.2.2
set_option maxHeartbeats 4000000 in
set_option maxRecDepth 100000 in
theorem op_flush (hl9 : l.stackTraces = false) {u v : tm_S} (o : Int64 × UInt64) (hR : tm_R u v) (p0 : Int32) : ∃ (k : Int32) (u' v' : tm_S) (o' : Int64 × UInt64), kl_M l dC dI gs ad cc cr cd yL_flush wsL_flush { frames := 9, cells := 1, slots := 6, locals := 146 } [.ref (ad 0), .int p0] u v o u' v o' k ∧ kr_M l dC dI (tr_ad ad) cr yX5_flush wsX5_flush { frames := 1, cells := 0, slots := 0, locals := 22 } [.ref (tr_ad ad 0), .int p0] v v' none ∧ v'.2.1 14 0 = k ∧ tm_R u' v' := by
  have hV := hR.2
  have hn0 := nI_0
  obtain ⟨vI, rfl, hI, hS⟩ := tm_Rv hR
  have hJ : ∀ a i, a ≠ 5 → a ≠ 14 → vI a i = u.2.1 a i := fun a i h5 h14 => (hI a i h5 h14).symm
  rcases tm_ix p0 (n := 4) (by decide) with h | ⟨j, hj, rfl⟩
  · refine ⟨_, _, _, _, w_flush_x1 p0 (m_flush_b1 hl9 u p0 h), (p_flush_b1 (u.1, vI, u.2.2) p0 (tm_ixr h (by decide))), ?_, ?_⟩
    · simp [tm_L, tm_I, tm_D]
    · refine ⟨⟨?_, ?_, ?_, ?_⟩, ?_, ?_, ?_, ?_⟩
      · first | (simp [tm_L, tm_I, tm_D, hJ]; done) | (funext a i; simp only [tm_L, tm_I, tm_D]; grind)
      · first | (simp only [tm_L, tm_I, tm_D]; done) | rfl | (funext a; simp only [tm_L, tm_I, tm_D]; grind)
      · intro a i h5 h14; have h9 := hI a i h5 h14; simp only [tm_L, tm_I, tm_D]; grind
      · intro q h4; have h9 := hS q; simp only [tm_L, tm_I, tm_D] at h4 ⊢; first | grind | simp_all
      · simpa [tm_L, tm_I, tm_D] using hV.1
      · simpa [tm_L, tm_I, tm_D] using hV.2.1
      · simpa [tm_L, tm_I, tm_D] using hV.2.2.1
      · simpa [tm_L, tm_I, tm_D] using hV.2.2.2
  by_cases hnl : u.2.1 11 0 = 0
  rotate_left
  · have hlo := hnl
    refine ⟨_, _, _, _, w_flush_x2 (nI j) (m_flush_lo hl9 u hj hlo), (p_flush_lo (u.1, vI, u.2.2) hj (by simpa [hJ] using hlo)), ?_, ?_⟩
    · simp [tm_L, tm_I, tm_D]
    · refine ⟨⟨?_, ?_, ?_, ?_⟩, ?_, ?_, ?_, ?_⟩
      · first | (simp [tm_L, tm_I, tm_D, hJ]; done) | (funext a i; simp only [tm_L, tm_I, tm_D]; grind)
      · first | (simp only [tm_L, tm_I, tm_D]; done) | rfl | (funext a; simp only [tm_L, tm_I, tm_D]; grind)
      · intro a i h5 h14; have h9 := hI a i h5 h14; simp only [tm_L, tm_I, tm_D]; grind
      · intro q h4; have h9 := hS q; simp only [tm_L, tm_I, tm_D] at h4 ⊢; first | grind | simp_all
      · simpa [tm_L, tm_I, tm_D] using hV.1
      · simpa [tm_L, tm_I, tm_D] using hV.2.1
      · simpa [tm_L, tm_I, tm_D] using hV.2.2.1
      · simpa [tm_L, tm_I, tm_D] using hV.2.2.2
  by_cases hh : u.2.1 0 j = 0
  · refine ⟨_, _, _, _, w_flush_x3 (nI j) (m_flush_free hl9 u hj hnl hh), (p_flush_free (u.1, vI, u.2.2) hj (by simpa [hJ] using hnl) (by simpa [hJ] using hh)), ?_, ?_⟩
    · simp [tm_L, tm_I, tm_D]
    · refine ⟨⟨?_, ?_, ?_, ?_⟩, ?_, ?_, ?_, ?_⟩
      · first | (simp [tm_L, tm_I, tm_D, hJ]; done) | (funext a i; simp only [tm_L, tm_I, tm_D]; grind)
      · first | (simp only [tm_L, tm_I, tm_D]; done) | rfl | (funext a; simp only [tm_L, tm_I, tm_D]; grind)
      · intro a i h5 h14; have h9 := hI a i h5 h14; simp only [tm_L, tm_I, tm_D]; grind
      · intro q h4; have h9 := hS q; simp only [tm_L, tm_I, tm_D] at h4 ⊢; first | grind | simp_all
      · simpa [tm_L, tm_I, tm_D] using hV.1
      · simpa [tm_L, tm_I, tm_D] using hV.2.1
      · simpa [tm_L, tm_I, tm_D] using hV.2.2.1
      · simpa [tm_L, tm_I, tm_D] using hV.2.2.2
  refine ⟨_, _, _, _, w_flush_ok (nI j) (m_flush_ok u hj hnl hh), (p_flush_ok (u.1, vI, u.2.2) hj (by simpa [hJ] using hnl) (by simpa [hJ] using hh)), ?_, ?_⟩
  · simp [tm_L, tm_I, tm_D]
  · refine ⟨⟨?_, ?_, ?_, ?_⟩, ?_, ?_, ?_, ?_⟩
    · first | (simp [tm_L, tm_I, tm_D, hJ]; done) | (funext a i; simp only [tm_L, tm_I, tm_D]; grind)
    · first | (simp only [tm_L, tm_I, tm_D]; done) | rfl | (funext a; simp only [tm_L, tm_I, tm_D]; grind)
    · intro a i h5 h14; have h9 := hI a i h5 h14; simp only [tm_L, tm_I, tm_D]; grind
    · intro q h4; have h9 := hS q; simp only [tm_L, tm_I, tm_D] at h4 ⊢; first | grind | simp_all
    · simpa [tm_L, tm_I, tm_D] using hV.1
    · simpa [tm_L, tm_I, tm_D] using hV.2.1
    · simpa [tm_L, tm_I, tm_D] using hV.2.2.1
    · simpa [tm_L, tm_I, tm_D] using hV.2.2.2
end S33
