section S33
variable {l : Launch} {dC : Nat → ClassId} {dI : Nat → Nat → Nat} {gs : Nat → Nat} {ad : Nat → Nat} {cc cr : Nat → ClassId} {cd : ClassId}
set_option maxHeartbeats 4000000 in
set_option maxRecDepth 100000 in
theorem op_define (hl9 : l.stackTraces = false) {u v : tm_S} (o : Int64 × UInt64) (hR : tm_R u v) (p0 : Int32) (p1 : Int32) (p2 : Int64) (hco : p1 = nI 0 ∨ p1 = nI 1) : ∃ (k : Int32) (u' v' : tm_S) (o' : Int64 × UInt64), kl_M l dC dI gs ad cc cr cd yL_define wsL_define { frames := 9, cells := 1, slots := 6, locals := 149 } [.ref (ad 0), .int p0, .int p1, .long p2] u v o u' v o' k ∧ kr_M l dC dI (tr_ad ad) cr yX5_define wsX5_define { frames := 1, cells := 0, slots := 0, locals := 22 } [.ref (tr_ad ad 0), .int p0, .int p1, .long p2] v v' none ∧ v'.2.1 14 0 = k ∧ tm_R u' v' := by
  have hV := hR.2
  have hn0 := nI_0
  obtain ⟨vI, rfl, hI, hS⟩ := tm_Rv hR
  have hJ : ∀ a i, a ≠ 5 → a ≠ 14 → vI a i = u.2.1 a i := fun a i h5 h14 => (hI a i h5 h14).symm
  rcases tm_ix p0 (n := 4) (by decide) with h | ⟨j, hj, rfl⟩
  · refine ⟨_, _, _, _, w_define_x1 p0 p1 p2 (m_define_b1 hl9 u p0 h p1 p2), (p_define_b1 (u.1, vI, u.2.2) p0 (tm_ixr h (by decide)) p1 p2), ?_, ?_⟩
    · simp [tm_L, tm_I, tm_D]
    · refine ⟨⟨?_, ?_, ?_, ?_⟩, ?_, ?_, ?_, ?_⟩
      · first | (simp [tm_L, tm_I, tm_D, hJ]; done) | (funext a i; simp only [tm_L, tm_I, tm_D]; grind)
      · first | (simp only [tm_L, tm_I, tm_D]; done) | rfl | (funext a; simp only [tm_L, tm_I, tm_D]; grind)
      · intro a i h5 h14; have h9 := hI a i h5 h14; simp only [tm_L, tm_I, tm_D]; grind
      · intro q h4; have h9 := hS q; simp only [tm_L, tm_I, tm_D] at h4 ⊢; first | grind | simp_all
      · simpa [tm_L, tm_I, tm_D] using hV.1
      · simpa [tm_L, tm_I, tm_D] using hV.2.1
      · simpa [tm_L, tm_I, tm_D] using hV.2.2.1
      · simpa [tm_L, tm_I, tm_D] using hV.2.2.2
  by_cases hnl : u.2.1 11 0 = 0
  rotate_left
  · have hlo := hnl
    refine ⟨_, _, _, _, w_define_x2 (nI j) p1 p2 (m_define_lo hl9 u hj p1 p2 hlo), (p_define_lo (u.1, vI, u.2.2) hj p1 p2 (by simpa [hJ] using hlo)), ?_, ?_⟩
    · simp [tm_L, tm_I, tm_D]
    · refine ⟨⟨?_, ?_, ?_, ?_⟩, ?_, ?_, ?_, ?_⟩
      · first | (simp [tm_L, tm_I, tm_D, hJ]; done) | (funext a i; simp only [tm_L, tm_I, tm_D]; grind)
      · first | (simp only [tm_L, tm_I, tm_D]; done) | rfl | (funext a; simp only [tm_L, tm_I, tm_D]; grind)
      · intro a i h5 h14; have h9 := hI a i h5 h14; simp only [tm_L, tm_I, tm_D]; grind
      · intro q h4; have h9 := hS q; simp only [tm_L, tm_I, tm_D] at h4 ⊢; first | grind | simp_all
      · simpa [tm_L, tm_I, tm_D] using hV.1
      · simpa [tm_L, tm_I, tm_D] using hV.2.1
      · simpa [tm_L, tm_I, tm_D] using hV.2.2.1
      · simpa [tm_L, tm_I, tm_D] using hV.2.2.2
  by_cases hd : u.2.1 6 j = 0
  rotate_left
  · refine ⟨_, _, _, _, w_define_x2 (nI j) p1 p2 (m_define_def hl9 u hj p1 p2 hnl hd), (p_define_def (u.1, vI, u.2.2) hj p1 p2 (by simpa [hJ] using hnl) (by simpa [hJ] using hd)), ?_, ?_⟩
    · simp [tm_L, tm_I, tm_D]
    · refine ⟨⟨?_, ?_, ?_, ?_⟩, ?_, ?_, ?_, ?_⟩
      · first | (simp [tm_L, tm_I, tm_D, hJ]; done) | (funext a i; simp only [tm_L, tm_I, tm_D]; grind)
      · first | (simp only [tm_L, tm_I, tm_D]; done) | rfl | (funext a; simp only [tm_L, tm_I, tm_D]; grind)
      · intro a i h5 h14; have h9 := hI a i h5 h14; simp only [tm_L, tm_I, tm_D]; grind
      · intro q h4; have h9 := hS q; simp only [tm_L, tm_I, tm_D] at h4 ⊢; first | grind | simp_all
      · simpa [tm_L, tm_I, tm_D] using hV.1
      · simpa [tm_L, tm_I, tm_D] using hV.2.1
      · simpa [tm_L, tm_I, tm_D] using hV.2.2.1
      · simpa [tm_L, tm_I, tm_D] using hV.2.2.2
  rcases tm_fitC (u.2.1 10 0) (nI 2) hV.2.2.2 (by decide) with ⟨hq, hq2, hw, hq3⟩ | ⟨pr, hq⟩
  · refine ⟨_, _, _, _, w_define_x2 (nI j) p1 p2 (m_define_out hl9 u hj p1 p2 hnl hd hq hq2), (p_define_out (u.1, vI, u.2.2) hj p1 p2 (by simpa [hJ] using hnl) (by simpa [hJ] using hd) (by simp only [hJ 10 0 (by decide) (by decide)]; exact hw) (by simp only [hJ 10 0 (by decide) (by decide)]; exact hq3)), ?_, ?_⟩
    · simp [tm_L, tm_I, tm_D]
    · refine ⟨⟨?_, ?_, ?_, ?_⟩, ?_, ?_, ?_, ?_⟩
      · first | (simp [tm_L, tm_I, tm_D, hJ]; done) | (funext a i; simp only [tm_L, tm_I, tm_D]; grind)
      · first | (simp only [tm_L, tm_I, tm_D]; done) | rfl | (funext a; simp only [tm_L, tm_I, tm_D]; grind)
      · intro a i h5 h14; have h9 := hI a i h5 h14; simp only [tm_L, tm_I, tm_D]; grind
      · intro q h4; have h9 := hS q; simp only [tm_L, tm_I, tm_D] at h4 ⊢; first | grind | simp_all
      · simpa [tm_L, tm_I, tm_D] using hV.1
      · simpa [tm_L, tm_I, tm_D] using hV.2.1
      · simpa [tm_L, tm_I, tm_D] using hV.2.2.1
      · first | (left; simp [tm_L, tm_I, tm_D]; decide) | (left; decide)
  refine ⟨_, _, _, _, w_define_ok (nI j) p1 p2 (m_define_ok u hj p1 p2 hco hnl hd pr hq), (p_define_ok (u.1, vI, u.2.2) hj p1 p2 hco (by simpa [hJ] using hnl) (by simpa [hJ] using hd) pr (by simp only [hJ 10 0 (by decide) (by decide)]; exact hV.2.2.2) (by simp only [hJ 10 0 (by decide) (by decide)]; exact hq)), ?_, ?_⟩
  · simp [tm_L, tm_I, tm_D]
  · refine ⟨⟨?_, ?_, ?_, ?_⟩, ?_, ?_, ?_, ?_⟩
    · first | (simp [tm_L, tm_I, tm_D, hJ]; done) | (funext a i; simp only [tm_L, tm_I, tm_D]; grind)
    · first | (simp only [tm_L, tm_I, tm_D]; done) | rfl | (funext a; simp only [tm_L, tm_I, tm_D]; grind)
    · intro a i h5 h14; have h9 := hI a i h5 h14; simp only [tm_L, tm_I, tm_D]; grind
    · intro q h4; have h9 := hS q; simp only [tm_L, tm_I, tm_D] at h4 ⊢; first | grind | simp_all
    · simpa [tm_L, tm_I, tm_D] using hV.1
    · simpa [tm_L, tm_I, tm_D] using hV.2.1
    · simpa [tm_L, tm_I, tm_D] using hV.2.2.1
    · simpa [tm_L, tm_I, tm_D] using tm_fitV (n := 2) (by decide) hq hV.2.2.2
set_option maxHeartbeats 4000000 in
set_option maxRecDepth 100000 in
theorem op_remove (hl9 : l.stackTraces = false) {u v : tm_S} (o : Int64 × UInt64) (hR : tm_R u v) (p0 : Int32) : ∃ (k : Int32) (u' v' : tm_S) (o' : Int64 × UInt64), kl_M l dC dI gs ad cc cr cd yL_remove wsL_remove { frames := 9, cells := 1, slots := 6, locals := 147 } [.ref (ad 0), .int p0] u v o u' v o' k ∧ kr_M l dC dI (tr_ad ad) cr yX5_remove wsX5_remove { frames := 1, cells := 0, slots := 0, locals := 22 } [.ref (tr_ad ad 0), .int p0] v v' none ∧ v'.2.1 14 0 = k ∧ tm_R u' v' := by
  have hV := hR.2
  have hn0 := nI_0
  obtain ⟨vI, rfl, hI, hS⟩ := tm_Rv hR
  have hJ : ∀ a i, a ≠ 5 → a ≠ 14 → vI a i = u.2.1 a i := fun a i h5 h14 => (hI a i h5 h14).symm
  rcases tm_ix p0 (n := 4) (by decide) with h | ⟨j, hj, rfl⟩
  · refine ⟨_, _, _, _, w_remove_x1 p0 (m_remove_b1 hl9 u p0 h), (p_remove_b1 (u.1, vI, u.2.2) p0 (tm_ixr h (by decide))), ?_, ?_⟩
    · simp [tm_L, tm_I, tm_D]
    · refine ⟨⟨?_, ?_, ?_, ?_⟩, ?_, ?_, ?_, ?_⟩
      · first | (simp [tm_L, tm_I, tm_D, hJ]; done) | (funext a i; simp only [tm_L, tm_I, tm_D]; grind)
      · first | (simp only [tm_L, tm_I, tm_D]; done) | rfl | (funext a; simp only [tm_L, tm_I, tm_D]; grind)
      · intro a i h5 h14; have h9 := hI a i h5 h14; simp only [tm_L, tm_I, tm_D]; grind
      · intro q h4; have h9 := hS q; simp only [tm_L, tm_I, tm_D] at h4 ⊢; first | grind | simp_all
      · simpa [tm_L, tm_I, tm_D] using hV.1
      · simpa [tm_L, tm_I, tm_D] using hV.2.1
      · simpa [tm_L, tm_I, tm_D] using hV.2.2.1
      · simpa [tm_L, tm_I, tm_D] using hV.2.2.2
  by_cases hnl : u.2.1 11 0 = 0
  rotate_left
  · have hlo := hnl
    refine ⟨_, _, _, _, w_remove_x2 (nI j) (m_remove_lo hl9 u hj hlo), (p_remove_lo (u.1, vI, u.2.2) hj (by simpa [hJ] using hlo)), ?_, ?_⟩
    · simp [tm_L, tm_I, tm_D]
    · refine ⟨⟨?_, ?_, ?_, ?_⟩, ?_, ?_, ?_, ?_⟩
      · first | (simp [tm_L, tm_I, tm_D, hJ]; done) | (funext a i; simp only [tm_L, tm_I, tm_D]; grind)
      · first | (simp only [tm_L, tm_I, tm_D]; done) | rfl | (funext a; simp only [tm_L, tm_I, tm_D]; grind)
      · intro a i h5 h14; have h9 := hI a i h5 h14; simp only [tm_L, tm_I, tm_D]; grind
      · intro q h4; have h9 := hS q; simp only [tm_L, tm_I, tm_D] at h4 ⊢; first | grind | simp_all
      · simpa [tm_L, tm_I, tm_D] using hV.1
      · simpa [tm_L, tm_I, tm_D] using hV.2.1
      · simpa [tm_L, tm_I, tm_D] using hV.2.2.1
      · simpa [tm_L, tm_I, tm_D] using hV.2.2.2
  by_cases hd : u.2.1 6 j = 0
  · refine ⟨_, _, _, _, w_remove_x3 (nI j) (m_remove_und hl9 u hj hnl hd), (p_remove_und (u.1, vI, u.2.2) hj (by simpa [hJ] using hnl) (by simpa [hJ] using hd)), ?_, ?_⟩
    · simp [tm_L, tm_I, tm_D]
    · refine ⟨⟨?_, ?_, ?_, ?_⟩, ?_, ?_, ?_, ?_⟩
      · first | (simp [tm_L, tm_I, tm_D, hJ]; done) | (funext a i; simp only [tm_L, tm_I, tm_D]; grind)
      · first | (simp only [tm_L, tm_I, tm_D]; done) | rfl | (funext a; simp only [tm_L, tm_I, tm_D]; grind)
      · intro a i h5 h14; have h9 := hI a i h5 h14; simp only [tm_L, tm_I, tm_D]; grind
      · intro q h4; have h9 := hS q; simp only [tm_L, tm_I, tm_D] at h4 ⊢; first | grind | simp_all
      · simpa [tm_L, tm_I, tm_D] using hV.1
      · simpa [tm_L, tm_I, tm_D] using hV.2.1
      · simpa [tm_L, tm_I, tm_D] using hV.2.2.1
      · simpa [tm_L, tm_I, tm_D] using hV.2.2.2
  rcases tm_fitC (u.2.1 10 0) (nI 2) hV.2.2.2 (by decide) with ⟨hq, hq2, hw, hq3⟩ | ⟨pr, hq⟩
  · refine ⟨_, _, _, _, w_remove_x2 (nI j) (m_remove_out hl9 u hj hnl hd hq hq2), (p_remove_out (u.1, vI, u.2.2) hj (by simpa [hJ] using hnl) (by simpa [hJ] using hd) (by simp only [hJ 10 0 (by decide) (by decide)]; exact hw) (by simp only [hJ 10 0 (by decide) (by decide)]; exact hq3)), ?_, ?_⟩
    · simp [tm_L, tm_I, tm_D]
    · refine ⟨⟨?_, ?_, ?_, ?_⟩, ?_, ?_, ?_, ?_⟩
      · first | (simp [tm_L, tm_I, tm_D, hJ]; done) | (funext a i; simp only [tm_L, tm_I, tm_D]; grind)
      · first | (simp only [tm_L, tm_I, tm_D]; done) | rfl | (funext a; simp only [tm_L, tm_I, tm_D]; grind)
      · intro a i h5 h14; have h9 := hI a i h5 h14; simp only [tm_L, tm_I, tm_D]; grind
      · intro q h4; have h9 := hS q; simp only [tm_L, tm_I, tm_D] at h4 ⊢; first | grind | simp_all
      · simpa [tm_L, tm_I, tm_D] using hV.1
      · simpa [tm_L, tm_I, tm_D] using hV.2.1
      · simpa [tm_L, tm_I, tm_D] using hV.2.2.1
      · first | (left; simp [tm_L, tm_I, tm_D]; decide) | (left; decide)
  refine ⟨_, _, _, _, w_remove_ok (nI j) (m_remove_ok u hj hnl hd pr hq), (p_remove_ok (u.1, vI, u.2.2) hj (by simpa [hJ] using hnl) (by simpa [hJ] using hd) pr (by simp only [hJ 10 0 (by decide) (by decide)]; exact hV.2.2.2) (by simp only [hJ 10 0 (by decide) (by decide)]; exact hq)), ?_, ?_⟩
  · simp [tm_L, tm_I, tm_D]
  · refine ⟨⟨?_, ?_, ?_, ?_⟩, ?_, ?_, ?_, ?_⟩
    · first | (simp [tm_L, tm_I, tm_D, hJ]; done) | (funext a i; simp only [tm_L, tm_I, tm_D]; grind)
    · first | (simp only [tm_L, tm_I, tm_D]; done) | rfl | (funext a; simp only [tm_L, tm_I, tm_D]; grind)
    · intro a i h5 h14; have h9 := hI a i h5 h14; simp only [tm_L, tm_I, tm_D]; grind
    · intro q h4; have h9 := hS q; simp only [tm_L, tm_I, tm_D] at h4 ⊢; first | grind | simp_all
    · simpa [tm_L, tm_I, tm_D] using hV.1
    · simpa [tm_L, tm_I, tm_D] using hV.2.1
    · simpa [tm_L, tm_I, tm_D] using hV.2.2.1
    · simpa [tm_L, tm_I, tm_D] using tm_fitV (n := 2) (by decide) hq hV.2.2.2
set_option maxHeartbeats 4000000 in
set_option maxRecDepth 100000 in
theorem op_write (hl9 : l.stackTraces = false) {u v : tm_S} (o : Int64 × UInt64) (hR : tm_R u v) (p0 : Int32) (p1 : Int32) (p2 : Int64) : ∃ (k : Int32) (u' v' : tm_S) (o' : Int64 × UInt64) (b : Int64), kl_M l dC dI gs ad cc cr cd yL_write wsL_write { frames := 9, cells := 1, slots := 6, locals := 150 } [.ref (ad 0), .int p0, .int p1, .long p2, .ref (ad 55)] u v o u' v o' k ∧ kr_M l dC dI (tr_ad ad) cr yX5_write wsX5_write { frames := 1, cells := 0, slots := 0, locals := 23 } [.ref (tr_ad ad 0), .int p0, .int p1, .long p2] v v' (some (.long b)) ∧ v'.2.1 14 0 = k ∧ (k = nI 0 → o'.1 = b) ∧ tm_R u' v' := by
  have hV := hR.2
  have hn0 := nI_0
  obtain ⟨vI, rfl, hI, hS⟩ := tm_Rv hR
  have hJ : ∀ a i, a ≠ 5 → a ≠ 14 → vI a i = u.2.1 a i := fun a i h5 h14 => (hI a i h5 h14).symm
  rcases tm_ix p0 (n := 4) (by decide) with h | ⟨j, hj, rfl⟩
  · refine ⟨_, _, _, _, _, w_write_x1 p0 p1 p2 (m_write_b1 hl9 u p0 h p1 p2), (p_write_b1 (u.1, vI, u.2.2) p0 (tm_ixr h (by decide)) p1 p2), ?_, ?_, ?_⟩
    · simp [tm_L, tm_I, tm_D]
    · intro h9; exact absurd h9 (by decide)
    · refine ⟨⟨?_, ?_, ?_, ?_⟩, ?_, ?_, ?_, ?_⟩
      · first | (simp [tm_L, tm_I, tm_D, hJ]; done) | (funext a i; simp only [tm_L, tm_I, tm_D]; grind)
      · first | (simp only [tm_L, tm_I, tm_D]; done) | rfl | (funext a; simp only [tm_L, tm_I, tm_D]; grind)
      · intro a i h5 h14; have h9 := hI a i h5 h14; simp only [tm_L, tm_I, tm_D]; grind
      · intro q h4; have h9 := hS q; simp only [tm_L, tm_I, tm_D] at h4 ⊢; first | grind | simp_all
      · simpa [tm_L, tm_I, tm_D] using hV.1
      · simpa [tm_L, tm_I, tm_D] using hV.2.1
      · simpa [tm_L, tm_I, tm_D] using hV.2.2.1
      · simpa [tm_L, tm_I, tm_D] using hV.2.2.2
  rcases tm_ix p1 (n := 3) (by decide) with h | ⟨i, hi, rfl⟩
  · refine ⟨_, _, _, _, _, w_write_x1 (nI j) p1 p2 (m_write_b2 hl9 u hj p1 h p2), (p_write_b2 (u.1, vI, u.2.2) hj p1 (tm_ixr h (by decide)) p2), ?_, ?_, ?_⟩
    · simp [tm_L, tm_I, tm_D]
    · intro h9; exact absurd h9 (by decide)
    · refine ⟨⟨?_, ?_, ?_, ?_⟩, ?_, ?_, ?_, ?_⟩
      · first | (simp [tm_L, tm_I, tm_D, hJ]; done) | (funext a i; simp only [tm_L, tm_I, tm_D]; grind)
      · first | (simp only [tm_L, tm_I, tm_D]; done) | rfl | (funext a; simp only [tm_L, tm_I, tm_D]; grind)
      · intro a i h5 h14; have h9 := hI a i h5 h14; simp only [tm_L, tm_I, tm_D]; grind
      · intro q h4; have h9 := hS q; simp only [tm_L, tm_I, tm_D] at h4 ⊢; first | grind | simp_all
      · simpa [tm_L, tm_I, tm_D] using hV.1
      · simpa [tm_L, tm_I, tm_D] using hV.2.1
      · simpa [tm_L, tm_I, tm_D] using hV.2.2.1
      · simpa [tm_L, tm_I, tm_D] using hV.2.2.2
  by_cases hnl : u.2.1 11 0 = 0
  rotate_left
  · have hlo := hnl
    refine ⟨_, _, _, _, _, w_write_x2 (nI j) (nI i) p2 (m_write_lo hl9 u hj hi p2 hlo), (p_write_lo (u.1, vI, u.2.2) hj hi p2 (by simpa [hJ] using hlo)), ?_, ?_, ?_⟩
    · simp [tm_L, tm_I, tm_D]
    · intro h9; exact absurd h9 (by decide)
    · refine ⟨⟨?_, ?_, ?_, ?_⟩, ?_, ?_, ?_, ?_⟩
      · first | (simp [tm_L, tm_I, tm_D, hJ]; done) | (funext a i; simp only [tm_L, tm_I, tm_D]; grind)
      · first | (simp only [tm_L, tm_I, tm_D]; done) | rfl | (funext a; simp only [tm_L, tm_I, tm_D]; grind)
      · intro a i h5 h14; have h9 := hI a i h5 h14; simp only [tm_L, tm_I, tm_D]; grind
      · intro q h4; have h9 := hS q; simp only [tm_L, tm_I, tm_D] at h4 ⊢; first | grind | simp_all
      · simpa [tm_L, tm_I, tm_D] using hV.1
      · simpa [tm_L, tm_I, tm_D] using hV.2.1
      · simpa [tm_L, tm_I, tm_D] using hV.2.2.1
      · simpa [tm_L, tm_I, tm_D] using hV.2.2.2
  by_cases hd : u.2.1 6 j = 0
  · refine ⟨_, _, _, _, _, w_write_x3 (nI j) (nI i) p2 (m_write_und hl9 u hj hi p2 hnl hd), (p_write_und (u.1, vI, u.2.2) hj hi p2 (by simpa [hJ] using hnl) (by simpa [hJ] using hd)), ?_, ?_, ?_⟩
    · simp [tm_L, tm_I, tm_D]
    · intro h9; exact absurd h9 (by decide)
    · refine ⟨⟨?_, ?_, ?_, ?_⟩, ?_, ?_, ?_, ?_⟩
      · first | (simp [tm_L, tm_I, tm_D, hJ]; done) | (funext a i; simp only [tm_L, tm_I, tm_D]; grind)
      · first | (simp only [tm_L, tm_I, tm_D]; done) | rfl | (funext a; simp only [tm_L, tm_I, tm_D]; grind)
      · intro a i h5 h14; have h9 := hI a i h5 h14; simp only [tm_L, tm_I, tm_D]; grind
      · intro q h4; have h9 := hS q; simp only [tm_L, tm_I, tm_D] at h4 ⊢; first | grind | simp_all
      · simpa [tm_L, tm_I, tm_D] using hV.1
      · simpa [tm_L, tm_I, tm_D] using hV.2.1
      · simpa [tm_L, tm_I, tm_D] using hV.2.2.1
      · simpa [tm_L, tm_I, tm_D] using hV.2.2.2
  by_cases h0 : u.1 7 j = 0
  · rcases tm_fitC (u.2.1 10 0) (nI 3) hV.2.2.2 (by decide) with ⟨hq, hq2, hw, hq3⟩ | ⟨pr, hq⟩
    · refine ⟨_, _, _, _, _, w_write_x2 (nI j) (nI i) p2 (m_write_p0out hl9 u hj hi p2 hnl hd h0 hq hq2), (p_write_p0out (u.1, vI, u.2.2) hj hi p2 (by simpa [hJ] using hnl) (by simpa [hJ] using hd) h0 (by simp only [hJ 10 0 (by decide) (by decide)]; exact hw) (by simp only [hJ 10 0 (by decide) (by decide)]; exact hq3)), ?_, ?_, ?_⟩
      · simp [tm_L, tm_I, tm_D]
      · intro h9; exact absurd h9 (by decide)
      · refine ⟨⟨?_, ?_, ?_, ?_⟩, ?_, ?_, ?_, ?_⟩
        · first | (simp [tm_L, tm_I, tm_D, hJ]; done) | (funext a i; simp only [tm_L, tm_I, tm_D]; grind)
        · first | (simp only [tm_L, tm_I, tm_D]; done) | rfl | (funext a; simp only [tm_L, tm_I, tm_D]; grind)
        · intro a i h5 h14; have h9 := hI a i h5 h14; simp only [tm_L, tm_I, tm_D]; grind
        · intro q h4; have h9 := hS q; simp only [tm_L, tm_I, tm_D] at h4 ⊢; first | grind | simp_all
        · simpa [tm_L, tm_I, tm_D] using hV.1
        · simpa [tm_L, tm_I, tm_D] using hV.2.1
        · simpa [tm_L, tm_I, tm_D] using hV.2.2.1
        · first | (left; simp [tm_L, tm_I, tm_D]; decide) | (left; decide)
    by_cases hk : u.2.1 7 j = 0
    · refine ⟨_, _, _, _, _, w_write_ok (nI j) (nI i) p2 (m_write_p0cell u hj hi p2 hnl hd h0 pr hq hk), (p_write_p0cell (u.1, vI, u.2.2) hj hi p2 (by simpa [hJ] using hnl) (by simpa [hJ] using hd) h0 pr (by simp only [hJ 10 0 (by decide) (by decide)]; exact hV.2.2.2) (by simp only [hJ 10 0 (by decide) (by decide)]; exact hq) (by simpa [hJ] using hk)), ?_, ?_, ?_⟩
      · simp [tm_L, tm_I, tm_D]
      · intro _; simp [hJ, tm_L, tm_I, tm_D]
      · refine ⟨⟨?_, ?_, ?_, ?_⟩, ?_, ?_, ?_, ?_⟩
        · first | (simp [tm_L, tm_I, tm_D, hJ]; done) | (funext a i; simp only [tm_L, tm_I, tm_D]; grind)
        · first | (simp only [tm_L, tm_I, tm_D]; done) | rfl | (funext a; simp only [tm_L, tm_I, tm_D]; grind)
        · intro a i h5 h14; have h9 := hI a i h5 h14; simp only [tm_L, tm_I, tm_D]; grind
        · intro q h4; have h9 := hS q; simp only [tm_L, tm_I, tm_D] at h4 ⊢; first | grind | simp_all
        · simpa [tm_L, tm_I, tm_D] using hV.1
        · simpa [tm_L, tm_I, tm_D] using hV.2.1
        · simpa [tm_L, tm_I, tm_D] using hV.2.2.1
        · simpa [tm_L, tm_I, tm_D] using tm_fitV (n := 3) (by decide) hq hV.2.2.2
    · refine ⟨_, _, _, _, _, w_write_ok (nI j) (nI i) p2 (m_write_p0cnt u hj hi p2 hnl hd h0 pr hq hk), (p_write_p0cnt (u.1, vI, u.2.2) hj hi p2 (by simpa [hJ] using hnl) (by simpa [hJ] using hd) h0 pr (by simp only [hJ 10 0 (by decide) (by decide)]; exact hV.2.2.2) (by simp only [hJ 10 0 (by decide) (by decide)]; exact hq) (by simpa [hJ] using hk)), ?_, ?_, ?_⟩
      · simp [tm_L, tm_I, tm_D]
      · intro _; simp [hJ, tm_L, tm_I, tm_D]
      · refine ⟨⟨?_, ?_, ?_, ?_⟩, ?_, ?_, ?_, ?_⟩
        · first | (simp [tm_L, tm_I, tm_D, hJ]; done) | (funext a i; simp only [tm_L, tm_I, tm_D]; grind)
        · first | (simp only [tm_L, tm_I, tm_D]; done) | rfl | (funext a; simp only [tm_L, tm_I, tm_D]; grind)
        · intro a i h5 h14; have h9 := hI a i h5 h14; simp only [tm_L, tm_I, tm_D]; grind
        · intro q h4; have h9 := hS q; simp only [tm_L, tm_I, tm_D] at h4 ⊢; first | grind | simp_all
        · simpa [tm_L, tm_I, tm_D] using hV.1
        · simpa [tm_L, tm_I, tm_D] using hV.2.1
        · simpa [tm_L, tm_I, tm_D] using hV.2.2.1
        · simpa [tm_L, tm_I, tm_D] using tm_fitV (n := 3) (by decide) hq hV.2.2.2
  by_cases he : u.1 6 i = u.1 7 j
  rotate_left
  · refine ⟨_, _, _, _, _, w_write_x4 (nI j) (nI i) p2 (m_write_pn2 hl9 u hj hi p2 hnl hd h0 he), (p_write_pn2 (u.1, vI, u.2.2) hj hi p2 (by simpa [hJ] using hnl) (by simpa [hJ] using hd) h0 he), ?_, ?_, ?_⟩
    · simp [tm_L, tm_I, tm_D]
    · intro h9; exact absurd h9 (by decide)
    · refine ⟨⟨?_, ?_, ?_, ?_⟩, ?_, ?_, ?_, ?_⟩
      · first | (simp [tm_L, tm_I, tm_D, hJ]; done) | (funext a i; simp only [tm_L, tm_I, tm_D]; grind)
      · first | (simp only [tm_L, tm_I, tm_D]; done) | rfl | (funext a; simp only [tm_L, tm_I, tm_D]; grind)
      · intro a i h5 h14; have h9 := hI a i h5 h14; simp only [tm_L, tm_I, tm_D]; grind
      · intro q h4; have h9 := hS q; simp only [tm_L, tm_I, tm_D] at h4 ⊢; first | grind | simp_all
      · simpa [tm_L, tm_I, tm_D] using hV.1
      · simpa [tm_L, tm_I, tm_D] using hV.2.1
      · simpa [tm_L, tm_I, tm_D] using hV.2.2.1
      · simpa [tm_L, tm_I, tm_D] using hV.2.2.2
  by_cases hz0 : ¬ u.2.1 4 i = 0 ∧ ¬ u.2.1 5 i = u.2.1 9 0
  · obtain ⟨hz, hc⟩ := hz0
    refine ⟨_, _, _, _, _, w_write_x2 (nI j) (nI i) p2 (m_write_pch hl9 u hj hi p2 hnl hd h0 he hz hc), (p_write_pch (u.1, vI, u.2.2) hj hi p2 (by simpa [hJ] using hnl) (by simpa [hJ] using hd) h0 he (by simpa [hJ] using hz) (by show ¬ vI 5 i = vI 9 0; rw [← hI 9 0 (by decide) (by decide), ← hS i hz]; exact hc)), ?_, ?_, ?_⟩
    · simp [tm_L, tm_I, tm_D]
    · intro h9; exact absurd h9 (by decide)
    · refine ⟨⟨?_, ?_, ?_, ?_⟩, ?_, ?_, ?_, ?_⟩
      · first | (simp [tm_L, tm_I, tm_D, hJ]; done) | (funext a i; simp only [tm_L, tm_I, tm_D]; grind)
      · first | (simp only [tm_L, tm_I, tm_D]; done) | rfl | (funext a; simp only [tm_L, tm_I, tm_D]; grind)
      · intro a i h5 h14; have h9 := hI a i h5 h14; simp only [tm_L, tm_I, tm_D]; grind
      · intro q h4; have h9 := hS q; simp only [tm_L, tm_I, tm_D] at h4 ⊢; first | grind | simp_all
      · simpa [tm_L, tm_I, tm_D] using hV.1
      · simpa [tm_L, tm_I, tm_D] using hV.2.1
      · simpa [tm_L, tm_I, tm_D] using hV.2.2.1
      · simpa [tm_L, tm_I, tm_D] using hV.2.2.2
  have hz : ¬ u.2.1 4 i = 0 → u.2.1 5 i = u.2.1 9 0 := fun z => Decidable.not_not.mp (fun z2 => hz0 ⟨z, z2⟩)
  rcases tm_fitC (u.2.1 10 0) (nI 3) hV.2.2.2 (by decide) with ⟨hq, hq2, hw, hq3⟩ | ⟨pr, hq⟩
  · refine ⟨_, _, _, _, _, w_write_x2 (nI j) (nI i) p2 (m_write_pout hl9 u hj hi p2 hnl hd h0 he hz hq hq2), (p_write_pout (u.1, vI, u.2.2) hj hi p2 (by simpa [hJ] using hnl) (by simpa [hJ] using hd) h0 he (fun z => by show vI 5 i = vI 9 0; rw [← hI 9 0 (by decide) (by decide), ← hS i (by simpa [hJ] using z)]; exact hz (by simpa [hJ] using z)) (by simp only [hJ 10 0 (by decide) (by decide)]; exact hw) (by simp only [hJ 10 0 (by decide) (by decide)]; exact hq3)), ?_, ?_, ?_⟩
    · simp [tm_L, tm_I, tm_D]
    · intro h9; exact absurd h9 (by decide)
    · refine ⟨⟨?_, ?_, ?_, ?_⟩, ?_, ?_, ?_, ?_⟩
      · first | (simp [tm_L, tm_I, tm_D, hJ]; done) | (funext a i; simp only [tm_L, tm_I, tm_D]; grind)
      · first | (simp only [tm_L, tm_I, tm_D]; done) | rfl | (funext a; simp only [tm_L, tm_I, tm_D]; grind)
      · intro a i h5 h14; have h9 := hI a i h5 h14; simp only [tm_L, tm_I, tm_D]; grind
      · intro q h4; have h9 := hS q; simp only [tm_L, tm_I, tm_D] at h4 ⊢; first | grind | simp_all
      · simpa [tm_L, tm_I, tm_D] using hV.1
      · simpa [tm_L, tm_I, tm_D] using hV.2.1
      · simpa [tm_L, tm_I, tm_D] using hV.2.2.1
      · first | (left; simp [tm_L, tm_I, tm_D]; decide) | (left; decide)
  by_cases hk : u.2.1 7 j = 0
  · refine ⟨_, _, _, _, _, w_write_ok (nI j) (nI i) p2 (m_write_pcell u hj hi p2 hnl hd h0 he hz pr hq hk), (p_write_pcell (u.1, vI, u.2.2) hj hi p2 (by simpa [hJ] using hnl) (by simpa [hJ] using hd) h0 he (fun z => by show vI 5 i = vI 9 0; rw [← hI 9 0 (by decide) (by decide), ← hS i (by simpa [hJ] using z)]; exact hz (by simpa [hJ] using z)) pr (by simp only [hJ 10 0 (by decide) (by decide)]; exact hV.2.2.2) (by simp only [hJ 10 0 (by decide) (by decide)]; exact hq) (by simpa [hJ] using hk)), ?_, ?_, ?_⟩
    · simp [tm_L, tm_I, tm_D]
    · intro _; simp [hJ, tm_L, tm_I, tm_D]
    · refine ⟨⟨?_, ?_, ?_, ?_⟩, ?_, ?_, ?_, ?_⟩
      · first | (simp [tm_L, tm_I, tm_D, hJ]; done) | (funext a i; simp only [tm_L, tm_I, tm_D]; grind)
      · first | (simp only [tm_L, tm_I, tm_D]; done) | rfl | (funext a; simp only [tm_L, tm_I, tm_D]; grind)
      · intro a i h5 h14; have h9 := hI a i h5 h14; simp only [tm_L, tm_I, tm_D]; grind
      · intro q h4; have h9 := hS q; simp only [tm_L, tm_I, tm_D] at h4 ⊢; first | grind | simp_all
      · simpa [tm_L, tm_I, tm_D] using hV.1
      · simpa [tm_L, tm_I, tm_D] using hV.2.1
      · simpa [tm_L, tm_I, tm_D] using hV.2.2.1
      · simpa [tm_L, tm_I, tm_D] using tm_fitV (n := 3) (by decide) hq hV.2.2.2
  · refine ⟨_, _, _, _, _, w_write_ok (nI j) (nI i) p2 (m_write_pcnt u hj hi p2 hnl hd h0 he hz pr hq hk), (p_write_pcnt (u.1, vI, u.2.2) hj hi p2 (by simpa [hJ] using hnl) (by simpa [hJ] using hd) h0 he (fun z => by show vI 5 i = vI 9 0; rw [← hI 9 0 (by decide) (by decide), ← hS i (by simpa [hJ] using z)]; exact hz (by simpa [hJ] using z)) pr (by simp only [hJ 10 0 (by decide) (by decide)]; exact hV.2.2.2) (by simp only [hJ 10 0 (by decide) (by decide)]; exact hq) (by simpa [hJ] using hk)), ?_, ?_, ?_⟩
    · simp [tm_L, tm_I, tm_D]
    · intro _; simp [hJ, tm_L, tm_I, tm_D]
    · refine ⟨⟨?_, ?_, ?_, ?_⟩, ?_, ?_, ?_, ?_⟩
      · first | (simp [tm_L, tm_I, tm_D, hJ]; done) | (funext a i; simp only [tm_L, tm_I, tm_D]; grind)
      · first | (simp only [tm_L, tm_I, tm_D]; done) | rfl | (funext a; simp only [tm_L, tm_I, tm_D]; grind)
      · intro a i h5 h14; have h9 := hI a i h5 h14; simp only [tm_L, tm_I, tm_D]; grind
      · intro q h4; have h9 := hS q; simp only [tm_L, tm_I, tm_D] at h4 ⊢; first | grind | simp_all
      · simpa [tm_L, tm_I, tm_D] using hV.1
      · simpa [tm_L, tm_I, tm_D] using hV.2.1
      · simpa [tm_L, tm_I, tm_D] using hV.2.2.1
      · simpa [tm_L, tm_I, tm_D] using tm_fitV (n := 3) (by decide) hq hV.2.2.2
set_option maxHeartbeats 4000000 in
set_option maxRecDepth 100000 in
theorem op_read (hl9 : l.stackTraces = false) {u v : tm_S} (o : Int64 × UInt64) (hR : tm_R u v) (p0 : Int32) : ∃ (k : Int32) (u' v' : tm_S) (o' : Int64 × UInt64) (b : Int64), kl_M l dC dI gs ad cc cr cd yL_read wsL_read { frames := 9, cells := 1, slots := 6, locals := 147 } [.ref (ad 0), .int p0, .ref (ad 55)] u v o u' v o' k ∧ kr_M l dC dI (tr_ad ad) cr yX5_read wsX5_read { frames := 1, cells := 0, slots := 0, locals := 22 } [.ref (tr_ad ad 0), .int p0] v v' (some (.long b)) ∧ v'.2.1 14 0 = k ∧ (k = nI 0 → o'.1 = b) ∧ tm_R u' v' := by
  have hV := hR.2
  have hn0 := nI_0
  obtain ⟨vI, rfl, hI, hS⟩ := tm_Rv hR
  have hJ : ∀ a i, a ≠ 5 → a ≠ 14 → vI a i = u.2.1 a i := fun a i h5 h14 => (hI a i h5 h14).symm
  rcases tm_ix p0 (n := 4) (by decide) with h | ⟨j, hj, rfl⟩
  · refine ⟨_, _, _, _, _, w_read_x1 p0 (m_read_b1 hl9 u p0 h), (p_read_b1 (u.1, vI, u.2.2) p0 (tm_ixr h (by decide))), ?_, ?_, ?_⟩
    · simp [tm_L, tm_I, tm_D]
    · intro h9; exact absurd h9 (by decide)
    · refine ⟨⟨?_, ?_, ?_, ?_⟩, ?_, ?_, ?_, ?_⟩
      · first | (simp [tm_L, tm_I, tm_D, hJ]; done) | (funext a i; simp only [tm_L, tm_I, tm_D]; grind)
      · first | (simp only [tm_L, tm_I, tm_D]; done) | rfl | (funext a; simp only [tm_L, tm_I, tm_D]; grind)
      · intro a i h5 h14; have h9 := hI a i h5 h14; simp only [tm_L, tm_I, tm_D]; grind
      · intro q h4; have h9 := hS q; simp only [tm_L, tm_I, tm_D] at h4 ⊢; first | grind | simp_all
      · simpa [tm_L, tm_I, tm_D] using hV.1
      · simpa [tm_L, tm_I, tm_D] using hV.2.1
      · simpa [tm_L, tm_I, tm_D] using hV.2.2.1
      · simpa [tm_L, tm_I, tm_D] using hV.2.2.2
  by_cases hnl : u.2.1 11 0 = 0
  rotate_left
  · have hlo := hnl
    refine ⟨_, _, _, _, _, w_read_x2 (nI j) (m_read_lo hl9 u hj hlo), (p_read_lo (u.1, vI, u.2.2) hj (by simpa [hJ] using hlo)), ?_, ?_, ?_⟩
    · simp [tm_L, tm_I, tm_D]
    · intro h9; exact absurd h9 (by decide)
    · refine ⟨⟨?_, ?_, ?_, ?_⟩, ?_, ?_, ?_, ?_⟩
      · first | (simp [tm_L, tm_I, tm_D, hJ]; done) | (funext a i; simp only [tm_L, tm_I, tm_D]; grind)
      · first | (simp only [tm_L, tm_I, tm_D]; done) | rfl | (funext a; simp only [tm_L, tm_I, tm_D]; grind)
      · intro a i h5 h14; have h9 := hI a i h5 h14; simp only [tm_L, tm_I, tm_D]; grind
      · intro q h4; have h9 := hS q; simp only [tm_L, tm_I, tm_D] at h4 ⊢; first | grind | simp_all
      · simpa [tm_L, tm_I, tm_D] using hV.1
      · simpa [tm_L, tm_I, tm_D] using hV.2.1
      · simpa [tm_L, tm_I, tm_D] using hV.2.2.1
      · simpa [tm_L, tm_I, tm_D] using hV.2.2.2
  by_cases hd : u.2.1 6 j = 0
  · refine ⟨_, _, _, _, _, w_read_x3 (nI j) (m_read_und hl9 u hj hnl hd), (p_read_und (u.1, vI, u.2.2) hj (by simpa [hJ] using hnl) (by simpa [hJ] using hd)), ?_, ?_, ?_⟩
    · simp [tm_L, tm_I, tm_D]
    · intro h9; exact absurd h9 (by decide)
    · refine ⟨⟨?_, ?_, ?_, ?_⟩, ?_, ?_, ?_, ?_⟩
      · first | (simp [tm_L, tm_I, tm_D, hJ]; done) | (funext a i; simp only [tm_L, tm_I, tm_D]; grind)
      · first | (simp only [tm_L, tm_I, tm_D]; done) | rfl | (funext a; simp only [tm_L, tm_I, tm_D]; grind)
      · intro a i h5 h14; have h9 := hI a i h5 h14; simp only [tm_L, tm_I, tm_D]; grind
      · intro q h4; have h9 := hS q; simp only [tm_L, tm_I, tm_D] at h4 ⊢; first | grind | simp_all
      · simpa [tm_L, tm_I, tm_D] using hV.1
      · simpa [tm_L, tm_I, tm_D] using hV.2.1
      · simpa [tm_L, tm_I, tm_D] using hV.2.2.1
      · simpa [tm_L, tm_I, tm_D] using hV.2.2.2
  by_cases hw : u.2.1 8 j = 0
  · refine ⟨_, _, _, _, _, w_read_x3 (nI j) (m_read_unw hl9 u hj hnl hd hw), (p_read_unw (u.1, vI, u.2.2) hj (by simpa [hJ] using hnl) (by simpa [hJ] using hd) (by simpa [hJ] using hw)), ?_, ?_, ?_⟩
    · simp [tm_L, tm_I, tm_D]
    · intro h9; exact absurd h9 (by decide)
    · refine ⟨⟨?_, ?_, ?_, ?_⟩, ?_, ?_, ?_, ?_⟩
      · first | (simp [tm_L, tm_I, tm_D, hJ]; done) | (funext a i; simp only [tm_L, tm_I, tm_D]; grind)
      · first | (simp only [tm_L, tm_I, tm_D]; done) | rfl | (funext a; simp only [tm_L, tm_I, tm_D]; grind)
      · intro a i h5 h14; have h9 := hI a i h5 h14; simp only [tm_L, tm_I, tm_D]; grind
      · intro q h4; have h9 := hS q; simp only [tm_L, tm_I, tm_D] at h4 ⊢; first | grind | simp_all
      · simpa [tm_L, tm_I, tm_D] using hV.1
      · simpa [tm_L, tm_I, tm_D] using hV.2.1
      · simpa [tm_L, tm_I, tm_D] using hV.2.2.1
      · simpa [tm_L, tm_I, tm_D] using hV.2.2.2
  refine ⟨_, _, _, _, _, w_read_ok (nI j) (m_read_ok u hj hnl hd hw), (p_read_ok (u.1, vI, u.2.2) hj (by simpa [hJ] using hnl) (by simpa [hJ] using hd) (by simpa [hJ] using hw)), ?_, ?_, ?_⟩
  · simp [tm_L, tm_I, tm_D]
  · intro _; simp [hJ, tm_L, tm_I, tm_D]
  · refine ⟨⟨?_, ?_, ?_, ?_⟩, ?_, ?_, ?_, ?_⟩
    · first | (simp [tm_L, tm_I, tm_D, hJ]; done) | (funext a i; simp only [tm_L, tm_I, tm_D]; grind)
    · first | (simp only [tm_L, tm_I, tm_D]; done) | rfl | (funext a; simp only [tm_L, tm_I, tm_D]; grind)
    · intro a i h5 h14; have h9 := hI a i h5 h14; simp only [tm_L, tm_I, tm_D]; grind
    · intro q h4; have h9 := hS q; simp only [tm_L, tm_I, tm_D] at h4 ⊢; first | grind | simp_all
    · simpa [tm_L, tm_I, tm_D] using hV.1
    · simpa [tm_L, tm_I, tm_D] using hV.2.1
    · simpa [tm_L, tm_I, tm_D] using hV.2.2.1
    · simpa [tm_L, tm_I, tm_D] using hV.2.2.2
set_option maxHeartbeats 4000000 in
set_option maxRecDepth 100000 in
theorem op_clear (hl9 : l.stackTraces = false) {u v : tm_S} (o : Int64 × UInt64) (hR : tm_R u v)  : ∃ (k : Int32) (u' v' : tm_S) (o' : Int64 × UInt64), kl_M l dC dI gs ad cc cr cd yL_clear wsL_clear { frames := 8, cells := 1, slots := 6, locals := 123 } [.ref (ad 0)] u v o u' v o' k ∧ kr_M l dC dI (tr_ad ad) cr yX5_clear wsX5_clear { frames := 1, cells := 0, slots := 0, locals := 26 } [.ref (tr_ad ad 0)] v v' none ∧ v'.2.1 14 0 = k ∧ tm_R u' v' := by
  have hV := hR.2
  have hn0 := nI_0
  obtain ⟨vI, rfl, hI, hS⟩ := tm_Rv hR
  have hJ : ∀ a i, a ≠ 5 → a ≠ 14 → vI a i = u.2.1 a i := fun a i h5 h14 => (hI a i h5 h14).symm
  by_cases hnl : u.2.1 11 0 = 0
  rotate_left
  · have hlo := hnl
    refine ⟨_, _, _, _, w_clear_x1  (m_clear_lo hl9 u hlo), (p_clear_lo (u.1, vI, u.2.2) (by simpa [hJ] using hlo)), ?_, ?_⟩
    · simp [tm_L, tm_I, tm_D]
    · refine ⟨⟨?_, ?_, ?_, ?_⟩, ?_, ?_, ?_, ?_⟩
      · first | (simp [tm_L, tm_I, tm_D, hJ]; done) | (funext a i; simp only [tm_L, tm_I, tm_D]; grind)
      · first | (simp only [tm_L, tm_I, tm_D]; done) | rfl | (funext a; simp only [tm_L, tm_I, tm_D]; grind)
      · intro a i h5 h14; have h9 := hI a i h5 h14; simp only [tm_L, tm_I, tm_D]; grind
      · intro q h4; have h9 := hS q; simp only [tm_L, tm_I, tm_D] at h4 ⊢; first | grind | simp_all
      · simpa [tm_L, tm_I, tm_D] using hV.1
      · simpa [tm_L, tm_I, tm_D] using hV.2.1
      · simpa [tm_L, tm_I, tm_D] using hV.2.2.1
      · simpa [tm_L, tm_I, tm_D] using hV.2.2.2
  refine ⟨_, _, _, _, w_clear_ok  (m_clear_ok u hnl), (p_clear_ok (u.1, vI, u.2.2) (by simpa [hJ] using hnl)), ?_, ?_⟩
  · simp [tm_L, tm_I, tm_D]
  · refine ⟨⟨?_, ?_, ?_, ?_⟩, ?_, ?_, ?_, ?_⟩
    · first | (simp [tm_L, tm_I, tm_D, hJ]; done) | (funext a i; simp only [tm_L, tm_I, tm_D]; grind)
    · first | (simp only [tm_L, tm_I, tm_D]; done) | rfl | (funext a; simp only [tm_L, tm_I, tm_D]; grind)
    · intro a i h5 h14; have h9 := hI a i h5 h14; simp only [tm_L, tm_I, tm_D]; grind
    · intro q h4; have h9 := hS q; simp only [tm_L, tm_I, tm_D] at h4 ⊢; first | grind | simp_all
    · simpa [tm_L, tm_I, tm_D] using hV.1
    · simpa [tm_L, tm_I, tm_D] using hV.2.1
    · simpa [tm_L, tm_I, tm_D] using hV.2.2.1
    · simpa [tm_L, tm_I, tm_D] using hV.2.2.2
set_option maxHeartbeats 4000000 in
set_option maxRecDepth 100000 in
theorem op_told (hl9 : l.stackTraces = false) {u v : tm_S} (o : Int64 × UInt64) (hR : tm_R u v) (p0 : Int32) (p1 : Int32) : ∃ (k : Int32) (u' v' : tm_S) (o' : Int64 × UInt64) (b : Int64), kl_M l dC dI gs ad cc cr cd yL_told wsL_told { frames := 9, cells := 1, slots := 6, locals := 147 } [.ref (ad 0), .int p0, .int p1, .ref (ad 55)] u v o u' v o' k ∧ kr_M l dC dI (tr_ad ad) cr yX5_told wsX5_told { frames := 2, cells := 0, slots := 0, locals := 47 } [.ref (tr_ad ad 0), .int p0, .int p1] v v' (some (.long b)) ∧ v'.2.1 14 0 = k ∧ (k = nI 0 → o'.1 = b) ∧ tm_R u' v' := by
  have hV := hR.2
  have hn0 := nI_0
  obtain ⟨vI, rfl, hI, hS⟩ := tm_Rv hR
  have hJ : ∀ a i, a ≠ 5 → a ≠ 14 → vI a i = u.2.1 a i := fun a i h5 h14 => (hI a i h5 h14).symm
  rcases tm_ix p0 (n := 5) (by decide) with h | ⟨w, hw, rfl⟩
  · refine ⟨_, _, _, _, _, w_told_x1 p0 p1 (m_told_b1 hl9 u p0 h p1), (p_told_b1 (u.1, vI, u.2.2) p0 (tm_ixr h (by decide)) p1), ?_, ?_, ?_⟩
    · simp [tm_L, tm_I, tm_D]
    · intro h9; exact absurd h9 (by decide)
    · refine ⟨⟨?_, ?_, ?_, ?_⟩, ?_, ?_, ?_, ?_⟩
      · first | (simp [tm_L, tm_I, tm_D, hJ]; done) | (funext a i; simp only [tm_L, tm_I, tm_D]; grind)
      · first | (simp only [tm_L, tm_I, tm_D]; done) | rfl | (funext a; simp only [tm_L, tm_I, tm_D]; grind)
      · intro a i h5 h14; have h9 := hI a i h5 h14; simp only [tm_L, tm_I, tm_D]; grind
      · intro q h4; have h9 := hS q; simp only [tm_L, tm_I, tm_D] at h4 ⊢; first | grind | simp_all
      · simpa [tm_L, tm_I, tm_D] using hV.1
      · simpa [tm_L, tm_I, tm_D] using hV.2.1
      · simpa [tm_L, tm_I, tm_D] using hV.2.2.1
      · simpa [tm_L, tm_I, tm_D] using hV.2.2.2
  match w, hw with
  | 0, _ =>
    rcases tm_ix p1 (n := 8) (by decide) with h | ⟨j, hj, rfl⟩
    · refine ⟨_, _, _, _, _, w_told_x1 (nI 0) p1 (m_told_b2_0 hl9 u p1 h), (p_told_b2_0 (u.1, vI, u.2.2) p1 (tm_ixr h (by decide))), ?_, ?_, ?_⟩
      · simp [tm_L, tm_I, tm_D]
      · intro h9; exact absurd h9 (by decide)
      · refine ⟨⟨?_, ?_, ?_, ?_⟩, ?_, ?_, ?_, ?_⟩
        · first | (simp [tm_L, tm_I, tm_D, hJ]; done) | (funext a i; simp only [tm_L, tm_I, tm_D]; grind)
        · first | (simp only [tm_L, tm_I, tm_D]; done) | rfl | (funext a; simp only [tm_L, tm_I, tm_D]; grind)
        · intro a i h5 h14; have h9 := hI a i h5 h14; simp only [tm_L, tm_I, tm_D]; grind
        · intro q h4; have h9 := hS q; simp only [tm_L, tm_I, tm_D] at h4 ⊢; first | grind | simp_all
        · simpa [tm_L, tm_I, tm_D] using hV.1
        · simpa [tm_L, tm_I, tm_D] using hV.2.1
        · simpa [tm_L, tm_I, tm_D] using hV.2.2.1
        · simpa [tm_L, tm_I, tm_D] using hV.2.2.2
    refine ⟨_, _, _, _, _, w_told_ok (nI 0) (nI j) (m_told_0 u hj), (p_told_0 (u.1, vI, u.2.2) hj), ?_, ?_, ?_⟩
    · simp [tm_L, tm_I, tm_D]
    · intro _; simp [hJ, tm_L, tm_I, tm_D]
    · refine ⟨⟨?_, ?_, ?_, ?_⟩, ?_, ?_, ?_, ?_⟩
      · first | (simp [tm_L, tm_I, tm_D, hJ]; done) | (funext a i; simp only [tm_L, tm_I, tm_D]; grind)
      · first | (simp only [tm_L, tm_I, tm_D]; done) | rfl | (funext a; simp only [tm_L, tm_I, tm_D]; grind)
      · intro a i h5 h14; have h9 := hI a i h5 h14; simp only [tm_L, tm_I, tm_D]; grind
      · intro q h4; have h9 := hS q; simp only [tm_L, tm_I, tm_D] at h4 ⊢; first | grind | simp_all
      · simpa [tm_L, tm_I, tm_D] using hV.1
      · simpa [tm_L, tm_I, tm_D] using hV.2.1
      · simpa [tm_L, tm_I, tm_D] using hV.2.2.1
      · simpa [tm_L, tm_I, tm_D] using hV.2.2.2
  | 1, _ =>
    rcases tm_ix p1 (n := 8) (by decide) with h | ⟨j, hj, rfl⟩
    · refine ⟨_, _, _, _, _, w_told_x1 (nI 1) p1 (m_told_b2_1 hl9 u p1 h), (p_told_b2_1 (u.1, vI, u.2.2) p1 (tm_ixr h (by decide))), ?_, ?_, ?_⟩
      · simp [tm_L, tm_I, tm_D]
      · intro h9; exact absurd h9 (by decide)
      · refine ⟨⟨?_, ?_, ?_, ?_⟩, ?_, ?_, ?_, ?_⟩
        · first | (simp [tm_L, tm_I, tm_D, hJ]; done) | (funext a i; simp only [tm_L, tm_I, tm_D]; grind)
        · first | (simp only [tm_L, tm_I, tm_D]; done) | rfl | (funext a; simp only [tm_L, tm_I, tm_D]; grind)
        · intro a i h5 h14; have h9 := hI a i h5 h14; simp only [tm_L, tm_I, tm_D]; grind
        · intro q h4; have h9 := hS q; simp only [tm_L, tm_I, tm_D] at h4 ⊢; first | grind | simp_all
        · simpa [tm_L, tm_I, tm_D] using hV.1
        · simpa [tm_L, tm_I, tm_D] using hV.2.1
        · simpa [tm_L, tm_I, tm_D] using hV.2.2.1
        · simpa [tm_L, tm_I, tm_D] using hV.2.2.2
    refine ⟨_, _, _, _, _, w_told_ok (nI 1) (nI j) (m_told_1 u hj), (p_told_1 (u.1, vI, u.2.2) hj), ?_, ?_, ?_⟩
    · simp [tm_L, tm_I, tm_D]
    · intro _; simp [hJ, tm_L, tm_I, tm_D]
    · refine ⟨⟨?_, ?_, ?_, ?_⟩, ?_, ?_, ?_, ?_⟩
      · first | (simp [tm_L, tm_I, tm_D, hJ]; done) | (funext a i; simp only [tm_L, tm_I, tm_D]; grind)
      · first | (simp only [tm_L, tm_I, tm_D]; done) | rfl | (funext a; simp only [tm_L, tm_I, tm_D]; grind)
      · intro a i h5 h14; have h9 := hI a i h5 h14; simp only [tm_L, tm_I, tm_D]; grind
      · intro q h4; have h9 := hS q; simp only [tm_L, tm_I, tm_D] at h4 ⊢; first | grind | simp_all
      · simpa [tm_L, tm_I, tm_D] using hV.1
      · simpa [tm_L, tm_I, tm_D] using hV.2.1
      · simpa [tm_L, tm_I, tm_D] using hV.2.2.1
      · simpa [tm_L, tm_I, tm_D] using hV.2.2.2
  | 2, _ =>
    rcases tm_ix p1 (n := 4) (by decide) with h | ⟨j, hj, rfl⟩
    · refine ⟨_, _, _, _, _, w_told_x1 (nI 2) p1 (m_told_b2_2 hl9 u p1 h), (p_told_b2_2 (u.1, vI, u.2.2) p1 (tm_ixr h (by decide))), ?_, ?_, ?_⟩
      · simp [tm_L, tm_I, tm_D]
      · intro h9; exact absurd h9 (by decide)
      · refine ⟨⟨?_, ?_, ?_, ?_⟩, ?_, ?_, ?_, ?_⟩
        · first | (simp [tm_L, tm_I, tm_D, hJ]; done) | (funext a i; simp only [tm_L, tm_I, tm_D]; grind)
        · first | (simp only [tm_L, tm_I, tm_D]; done) | rfl | (funext a; simp only [tm_L, tm_I, tm_D]; grind)
        · intro a i h5 h14; have h9 := hI a i h5 h14; simp only [tm_L, tm_I, tm_D]; grind
        · intro q h4; have h9 := hS q; simp only [tm_L, tm_I, tm_D] at h4 ⊢; first | grind | simp_all
        · simpa [tm_L, tm_I, tm_D] using hV.1
        · simpa [tm_L, tm_I, tm_D] using hV.2.1
        · simpa [tm_L, tm_I, tm_D] using hV.2.2.1
        · simpa [tm_L, tm_I, tm_D] using hV.2.2.2
    by_cases hh : u.2.1 0 j = 0
    · refine ⟨_, _, _, _, _, w_told_x2 (nI 2) (nI j) (m_told_free hl9 u hj hh), (p_told_free (u.1, vI, u.2.2) hj (by simpa [hJ] using hh)), ?_, ?_, ?_⟩
      · simp [tm_L, tm_I, tm_D]
      · intro h9; exact absurd h9 (by decide)
      · refine ⟨⟨?_, ?_, ?_, ?_⟩, ?_, ?_, ?_, ?_⟩
        · first | (simp [tm_L, tm_I, tm_D, hJ]; done) | (funext a i; simp only [tm_L, tm_I, tm_D]; grind)
        · first | (simp only [tm_L, tm_I, tm_D]; done) | rfl | (funext a; simp only [tm_L, tm_I, tm_D]; grind)
        · intro a i h5 h14; have h9 := hI a i h5 h14; simp only [tm_L, tm_I, tm_D]; grind
        · intro q h4; have h9 := hS q; simp only [tm_L, tm_I, tm_D] at h4 ⊢; first | grind | simp_all
        · simpa [tm_L, tm_I, tm_D] using hV.1
        · simpa [tm_L, tm_I, tm_D] using hV.2.1
        · simpa [tm_L, tm_I, tm_D] using hV.2.2.1
        · simpa [tm_L, tm_I, tm_D] using hV.2.2.2
    refine ⟨_, _, _, _, _, w_told_ok (nI 2) (nI j) (m_told_2 u hj hh), (p_told_2 (u.1, vI, u.2.2) hj (by simpa [hJ] using hh)), ?_, ?_, ?_⟩
    · simp [tm_L, tm_I, tm_D]
    · intro _; simp [hJ, tm_L, tm_I, tm_D]
    · refine ⟨⟨?_, ?_, ?_, ?_⟩, ?_, ?_, ?_, ?_⟩
      · first | (simp [tm_L, tm_I, tm_D, hJ]; done) | (funext a i; simp only [tm_L, tm_I, tm_D]; grind)
      · first | (simp only [tm_L, tm_I, tm_D]; done) | rfl | (funext a; simp only [tm_L, tm_I, tm_D]; grind)
      · intro a i h5 h14; have h9 := hI a i h5 h14; simp only [tm_L, tm_I, tm_D]; grind
      · intro q h4; have h9 := hS q; simp only [tm_L, tm_I, tm_D] at h4 ⊢; first | grind | simp_all
      · simpa [tm_L, tm_I, tm_D] using hV.1
      · simpa [tm_L, tm_I, tm_D] using hV.2.1
      · simpa [tm_L, tm_I, tm_D] using hV.2.2.1
      · simpa [tm_L, tm_I, tm_D] using hV.2.2.2
  | 3, _ =>
    rcases tm_ix p1 (n := 32) (by decide) with h | ⟨j, hj, rfl⟩
    · refine ⟨_, _, _, _, _, w_told_x1 (nI 3) p1 (m_told_b2_3 hl9 u p1 h), (p_told_b2_3 (u.1, vI, u.2.2) p1 (tm_ixr h (by decide))), ?_, ?_, ?_⟩
      · simp [tm_L, tm_I, tm_D]
      · intro h9; exact absurd h9 (by decide)
      · refine ⟨⟨?_, ?_, ?_, ?_⟩, ?_, ?_, ?_, ?_⟩
        · first | (simp [tm_L, tm_I, tm_D, hJ]; done) | (funext a i; simp only [tm_L, tm_I, tm_D]; grind)
        · first | (simp only [tm_L, tm_I, tm_D]; done) | rfl | (funext a; simp only [tm_L, tm_I, tm_D]; grind)
        · intro a i h5 h14; have h9 := hI a i h5 h14; simp only [tm_L, tm_I, tm_D]; grind
        · intro q h4; have h9 := hS q; simp only [tm_L, tm_I, tm_D] at h4 ⊢; first | grind | simp_all
        · simpa [tm_L, tm_I, tm_D] using hV.1
        · simpa [tm_L, tm_I, tm_D] using hV.2.1
        · simpa [tm_L, tm_I, tm_D] using hV.2.2.1
        · simpa [tm_L, tm_I, tm_D] using hV.2.2.2
    by_cases hm : u.2.1 3 (j / 4) = 0
    · refine ⟨_, _, _, _, _, w_told_x2 (nI 3) (nI j) (m_told_none hl9 u hj hm), (p_told_none (u.1, vI, u.2.2) hj (by simpa [hJ] using hm)), ?_, ?_, ?_⟩
      · simp [tm_L, tm_I, tm_D]
      · intro h9; exact absurd h9 (by decide)
      · refine ⟨⟨?_, ?_, ?_, ?_⟩, ?_, ?_, ?_, ?_⟩
        · first | (simp [tm_L, tm_I, tm_D, hJ]; done) | (funext a i; simp only [tm_L, tm_I, tm_D]; grind)
        · first | (simp only [tm_L, tm_I, tm_D]; done) | rfl | (funext a; simp only [tm_L, tm_I, tm_D]; grind)
        · intro a i h5 h14; have h9 := hI a i h5 h14; simp only [tm_L, tm_I, tm_D]; grind
        · intro q h4; have h9 := hS q; simp only [tm_L, tm_I, tm_D] at h4 ⊢; first | grind | simp_all
        · simpa [tm_L, tm_I, tm_D] using hV.1
        · simpa [tm_L, tm_I, tm_D] using hV.2.1
        · simpa [tm_L, tm_I, tm_D] using hV.2.2.1
        · simpa [tm_L, tm_I, tm_D] using hV.2.2.2
    refine ⟨_, _, _, _, _, w_told_ok (nI 3) (nI j) (m_told_3 u hj hm), (p_told_3 (u.1, vI, u.2.2) hj (by simpa [hJ] using hm)), ?_, ?_, ?_⟩
    · simp [tm_L, tm_I, tm_D]
    · intro _; show u.1 5 (4 * (j / 4) + j % 4) = u.1 5 j; rw [show 4 * (j / 4) + j % 4 = j by omega]
    · refine ⟨⟨?_, ?_, ?_, ?_⟩, ?_, ?_, ?_, ?_⟩
      · first | (simp [tm_L, tm_I, tm_D, hJ]; done) | (funext a i; simp only [tm_L, tm_I, tm_D]; grind)
      · first | (simp only [tm_L, tm_I, tm_D]; done) | rfl | (funext a; simp only [tm_L, tm_I, tm_D]; grind)
      · intro a i h5 h14; have h9 := hI a i h5 h14; simp only [tm_L, tm_I, tm_D]; grind
      · intro q h4; have h9 := hS q; simp only [tm_L, tm_I, tm_D] at h4 ⊢; first | grind | simp_all
      · simpa [tm_L, tm_I, tm_D] using hV.1
      · simpa [tm_L, tm_I, tm_D] using hV.2.1
      · simpa [tm_L, tm_I, tm_D] using hV.2.2.1
      · simpa [tm_L, tm_I, tm_D] using hV.2.2.2
  | 4, _ =>
    rcases tm_ix p1 (n := 3) (by decide) with h | ⟨j, hj, rfl⟩
    · refine ⟨_, _, _, _, _, w_told_x1 (nI 4) p1 (m_told_b2_4 hl9 u p1 h), (p_told_b2_4 (u.1, vI, u.2.2) p1 (tm_ixr h (by decide))), ?_, ?_, ?_⟩
      · simp [tm_L, tm_I, tm_D]
      · intro h9; exact absurd h9 (by decide)
      · refine ⟨⟨?_, ?_, ?_, ?_⟩, ?_, ?_, ?_, ?_⟩
        · first | (simp [tm_L, tm_I, tm_D, hJ]; done) | (funext a i; simp only [tm_L, tm_I, tm_D]; grind)
        · first | (simp only [tm_L, tm_I, tm_D]; done) | rfl | (funext a; simp only [tm_L, tm_I, tm_D]; grind)
        · intro a i h5 h14; have h9 := hI a i h5 h14; simp only [tm_L, tm_I, tm_D]; grind
        · intro q h4; have h9 := hS q; simp only [tm_L, tm_I, tm_D] at h4 ⊢; first | grind | simp_all
        · simpa [tm_L, tm_I, tm_D] using hV.1
        · simpa [tm_L, tm_I, tm_D] using hV.2.1
        · simpa [tm_L, tm_I, tm_D] using hV.2.2.1
        · simpa [tm_L, tm_I, tm_D] using hV.2.2.2
    refine ⟨_, _, _, _, _, w_told_ok (nI 4) (nI j) (m_told_4 u hj), (p_told_4 (u.1, vI, u.2.2) hj), ?_, ?_, ?_⟩
    · simp [tm_L, tm_I, tm_D]
    · intro _; simp [hJ, tm_L, tm_I, tm_D]
    · refine ⟨⟨?_, ?_, ?_, ?_⟩, ?_, ?_, ?_, ?_⟩
      · first | (simp [tm_L, tm_I, tm_D, hJ]; done) | (funext a i; simp only [tm_L, tm_I, tm_D]; grind)
      · first | (simp only [tm_L, tm_I, tm_D]; done) | rfl | (funext a; simp only [tm_L, tm_I, tm_D]; grind)
      · intro a i h5 h14; have h9 := hI a i h5 h14; simp only [tm_L, tm_I, tm_D]; grind
      · intro q h4; have h9 := hS q; simp only [tm_L, tm_I, tm_D] at h4 ⊢; first | grind | simp_all
      · simpa [tm_L, tm_I, tm_D] using hV.1
      · simpa [tm_L, tm_I, tm_D] using hV.2.1
      · simpa [tm_L, tm_I, tm_D] using hV.2.2.1
      · simpa [tm_L, tm_I, tm_D] using hV.2.2.2
  | w + 5, hw => exact absurd hw (by omega)
set_option maxHeartbeats 4000000 in
set_option maxRecDepth 100000 in
theorem op_clock (hl9 : l.stackTraces = false) {u v : tm_S} (o : Int64 × UInt64) (hR : tm_R u v) (p0 : Int32) (p1 : Int32) : ∃ (k : Int32) (u' v' : tm_S) (o' : Int64 × UInt64) (b : UInt64), kl_M l dC dI gs ad cc cr cd yL_clock wsL_clock { frames := 8, cells := 1, slots := 6, locals := 126 } [.ref (ad 0), .int p0, .int p1, .ref (ad 56)] u v o u' v o' k ∧ kr_M l dC dI (tr_ad ad) cr yX5_clock wsX5_clock { frames := 1, cells := 0, slots := 0, locals := 22 } [.ref (tr_ad ad 0), .int p0, .int p1] v v' (some (.double b)) ∧ v'.2.1 14 0 = k ∧ (k = nI 0 → o'.2 = b) ∧ tm_R u' v' := by
  have hV := hR.2
  have hn0 := nI_0
  obtain ⟨vI, rfl, hI, hS⟩ := tm_Rv hR
  have hJ : ∀ a i, a ≠ 5 → a ≠ 14 → vI a i = u.2.1 a i := fun a i h5 h14 => (hI a i h5 h14).symm
  rcases tm_ix p0 (n := 101) (by decide) with h | ⟨k, hk, rfl⟩
  · refine ⟨_, _, _, _, _, w_clock_x1 p0 p1 (m_clock_b1 hl9 u p0 p1 (tm_ixr h (by decide))), (p_clock_b1 (u.1, vI, u.2.2) p0 (tm_ixr h (by decide)) p1), ?_, ?_, ?_⟩
    · simp [tm_L, tm_I, tm_D]
    · intro h9; exact absurd h9 (by decide)
    · refine ⟨⟨?_, ?_, ?_, ?_⟩, ?_, ?_, ?_, ?_⟩
      · first | (simp [tm_L, tm_I, tm_D, hJ]; done) | (funext a i; simp only [tm_L, tm_I, tm_D]; grind)
      · first | (simp only [tm_L, tm_I, tm_D]; done) | rfl | (funext a; simp only [tm_L, tm_I, tm_D]; grind)
      · intro a i h5 h14; have h9 := hI a i h5 h14; simp only [tm_L, tm_I, tm_D]; grind
      · intro q h4; have h9 := hS q; simp only [tm_L, tm_I, tm_D] at h4 ⊢; first | grind | simp_all
      · simpa [tm_L, tm_I, tm_D] using hV.1
      · simpa [tm_L, tm_I, tm_D] using hV.2.1
      · simpa [tm_L, tm_I, tm_D] using hV.2.2.1
      · simpa [tm_L, tm_I, tm_D] using hV.2.2.2
  rcases tm_ix p1 (n := 3) (by decide) with h | ⟨j, hj, rfl⟩
  · refine ⟨_, _, _, _, _, w_clock_x1 (nI k) p1 (m_clock_b2 hl9 u hk p1 (tm_ixr h (by decide))), (p_clock_b2 (u.1, vI, u.2.2) hk p1 (tm_ixr h (by decide))), ?_, ?_, ?_⟩
    · simp [tm_L, tm_I, tm_D]
    · intro h9; exact absurd h9 (by decide)
    · refine ⟨⟨?_, ?_, ?_, ?_⟩, ?_, ?_, ?_, ?_⟩
      · first | (simp [tm_L, tm_I, tm_D, hJ]; done) | (funext a i; simp only [tm_L, tm_I, tm_D]; grind)
      · first | (simp only [tm_L, tm_I, tm_D]; done) | rfl | (funext a; simp only [tm_L, tm_I, tm_D]; grind)
      · intro a i h5 h14; have h9 := hI a i h5 h14; simp only [tm_L, tm_I, tm_D]; grind
      · intro q h4; have h9 := hS q; simp only [tm_L, tm_I, tm_D] at h4 ⊢; first | grind | simp_all
      · simpa [tm_L, tm_I, tm_D] using hV.1
      · simpa [tm_L, tm_I, tm_D] using hV.2.1
      · simpa [tm_L, tm_I, tm_D] using hV.2.2.1
      · simpa [tm_L, tm_I, tm_D] using hV.2.2.2
  by_cases hnl : u.2.1 11 0 = 0
  rotate_left
  · have hlo := hnl
    refine ⟨_, _, _, _, _, w_clock_x2 (nI k) (nI j) (m_clock_lo hl9 u hk hj hlo), (p_clock_lo (u.1, vI, u.2.2) hk hj (by simpa [hJ] using hlo)), ?_, ?_, ?_⟩
    · simp [tm_L, tm_I, tm_D]
    · intro h9; exact absurd h9 (by decide)
    · refine ⟨⟨?_, ?_, ?_, ?_⟩, ?_, ?_, ?_, ?_⟩
      · first | (simp [tm_L, tm_I, tm_D, hJ]; done) | (funext a i; simp only [tm_L, tm_I, tm_D]; grind)
      · first | (simp only [tm_L, tm_I, tm_D]; done) | rfl | (funext a; simp only [tm_L, tm_I, tm_D]; grind)
      · intro a i h5 h14; have h9 := hI a i h5 h14; simp only [tm_L, tm_I, tm_D]; grind
      · intro q h4; have h9 := hS q; simp only [tm_L, tm_I, tm_D] at h4 ⊢; first | grind | simp_all
      · simpa [tm_L, tm_I, tm_D] using hV.1
      · simpa [tm_L, tm_I, tm_D] using hV.2.1
      · simpa [tm_L, tm_I, tm_D] using hV.2.2.1
      · simpa [tm_L, tm_I, tm_D] using hV.2.2.2
  have hQ : tm_Q (tm_D u 1 (FP.dadd (u.2.2 1) (FP.dmul (FP.i2d (nI k)) (u.2.2 2)))) (tm_D (tm_I (u.1, vI, u.2.2) 14 0 (nI 0)) 1 (FP.dadd (u.2.2 1) (FP.dmul (FP.i2d (nI k)) (u.2.2 2)))) := by
    refine ⟨rfl, rfl, ?_, ?_⟩
    · intro a i h5 h14; have h9 := hI a i h5 h14; simp only [tm_L, tm_I, tm_D]; grind
    · intro i h4; have h9 := hS i; simp only [tm_L, tm_I, tm_D] at h4 ⊢; grind
  have hF := tm_fg_Q (u.2.1 13 0).toNatClampNeg _ _ hQ
  have hM := tm_fg_pn (u.2.1 13 0).toNatClampNeg (tm_D u 1 (FP.dadd (u.2.2 1) (FP.dmul (FP.i2d (nI k)) (u.2.2 2)))) (by simpa [tm_D] using hV.2.2.1)
  have hPw := tm_fg_I (u.2.1 13 0).toNatClampNeg (tm_D u 1 (FP.dadd (u.2.2 1) (FP.dmul (FP.i2d (nI k)) (u.2.2 2)))) 10 0 (by decide)
  have hD1 := tm_fg_D (u.2.1 13 0).toNatClampNeg (tm_D u 1 (FP.dadd (u.2.2 1) (FP.dmul (FP.i2d (nI k)) (u.2.2 2)))) 1 (by decide)
  have hD2 := tm_fg_D (u.2.1 13 0).toNatClampNeg (tm_D u 1 (FP.dadd (u.2.2 1) (FP.dmul (FP.i2d (nI k)) (u.2.2 2)))) 2 (by decide)
  have hc1 : tm_pn (FP.dadd (u.2.2 1) (FP.dmul (FP.i2d (nI k)) (u.2.2 2))) := tm_dadd hV.2.1 (tm_dmul (tm_i2d k (by omega)) hV.1)
  match j, hj with
  | 0, _ =>
    refine ⟨_, _, _, _, _, w_clock_ok (nI k) (nI 0) (m_clock_ok0 u hk hnl hV.1 hV.2.1 hV.2.2.1 (u.2.1 13 0).toNatClampNeg (Nat.le_refl _)), (p_clock_ok0 (u.1, vI, u.2.2) hk (by simpa [hJ] using hnl) hV.1 hV.2.1 hV.2.2.1 (u.2.1 13 0).toNatClampNeg (by show (vI 13 0).toNatClampNeg ≤ _; rw [hJ 13 0 (by decide) (by decide)]; exact Nat.le_refl _)), ?_, ?_, ?_⟩
    · exact hF.2.trans (by simp [tm_D, tm_I])
    · intro _; exact congrFun hF.1.2.1 1
    · refine ⟨hF.1, ?_, ?_, hM, ?_⟩
      · rw [hD2]; simpa [tm_D] using hV.1
      · rw [hD1]; simpa [tm_D] using hc1
      · rw [hPw]; simpa [tm_D] using hV.2.2.2
  | 1, _ =>
    refine ⟨_, _, _, _, _, w_clock_ok (nI k) (nI 1) (m_clock_ok1 u hk hnl hV.1 hV.2.1 hV.2.2.1 (u.2.1 13 0).toNatClampNeg (Nat.le_refl _)), (p_clock_ok1 (u.1, vI, u.2.2) hk (by simpa [hJ] using hnl) hV.1 hV.2.1 hV.2.2.1 (u.2.1 13 0).toNatClampNeg (by show (vI 13 0).toNatClampNeg ≤ _; rw [hJ 13 0 (by decide) (by decide)]; exact Nat.le_refl _)), ?_, ?_, ?_⟩
    · simp only [tm_D]; exact hF.2.trans (by simp [tm_D, tm_I])
    · intro _; exact congrFun hF.1.2.1 1
    · have hz2 : tm_pf ((tm_fg (u.2.1 13 0).toNatClampNeg (tm_D u 1 (FP.dadd (u.2.2 1) (FP.dmul (FP.i2d (nI k)) (u.2.2 2))))).2.2 2) := by rw [hD2]; simpa [tm_D] using hV.1
      obtain ⟨⟨q1, q2, q3, q4⟩, -⟩ := hF
      refine ⟨⟨q1, ?_, q3, q4⟩, ?_, ?_, ?_, ?_⟩
      · simp only [tm_D] at q2 ⊢; rw [← q2]
      · simp only [tm_D]; exact tm_pacef hz2 (tm_dmul hz2 tm_f125)
      · have : tm_pn ((tm_fg (u.2.1 13 0).toNatClampNeg (tm_D u 1 (FP.dadd (u.2.2 1) (FP.dmul (FP.i2d (nI k)) (u.2.2 2))))).2.2 1) := by rw [hD1]; simpa [tm_D] using hc1
        simpa [tm_D] using this
      · simpa [tm_D] using hM
      · have : 0 ≤ (tm_fg (u.2.1 13 0).toNatClampNeg (tm_D u 1 (FP.dadd (u.2.2 1) (FP.dmul (FP.i2d (nI k)) (u.2.2 2))))).2.1 10 0 ∨ (tm_fg (u.2.1 13 0).toNatClampNeg (tm_D u 1 (FP.dadd (u.2.2 1) (FP.dmul (FP.i2d (nI k)) (u.2.2 2))))).2.1 10 0 = (-1) := by rw [hPw]; simpa [tm_D] using hV.2.2.2
        simpa [tm_D] using this
  | 2, _ =>
    refine ⟨_, _, _, _, _, w_clock_ok (nI k) (nI 2) (m_clock_ok2 u hk hnl hV.1 hV.2.1 hV.2.2.1 (u.2.1 13 0).toNatClampNeg (Nat.le_refl _)), (p_clock_ok2 (u.1, vI, u.2.2) hk (by simpa [hJ] using hnl) hV.1 hV.2.1 hV.2.2.1 (u.2.1 13 0).toNatClampNeg (by show (vI 13 0).toNatClampNeg ≤ _; rw [hJ 13 0 (by decide) (by decide)]; exact Nat.le_refl _)), ?_, ?_, ?_⟩
    · simp only [tm_D]; exact hF.2.trans (by simp [tm_D, tm_I])
    · intro _; exact congrFun hF.1.2.1 1
    · have hz2 : tm_pf ((tm_fg (u.2.1 13 0).toNatClampNeg (tm_D u 1 (FP.dadd (u.2.2 1) (FP.dmul (FP.i2d (nI k)) (u.2.2 2))))).2.2 2) := by rw [hD2]; simpa [tm_D] using hV.1
      obtain ⟨⟨q1, q2, q3, q4⟩, -⟩ := hF
      refine ⟨⟨q1, ?_, q3, q4⟩, ?_, ?_, ?_, ?_⟩
      · simp only [tm_D] at q2 ⊢; rw [← q2]
      · simp only [tm_D]; exact tm_pacef hz2 (tm_dmul hz2 tm_f075)
      · have : tm_pn ((tm_fg (u.2.1 13 0).toNatClampNeg (tm_D u 1 (FP.dadd (u.2.2 1) (FP.dmul (FP.i2d (nI k)) (u.2.2 2))))).2.2 1) := by rw [hD1]; simpa [tm_D] using hc1
        simpa [tm_D] using this
      · simpa [tm_D] using hM
      · have : 0 ≤ (tm_fg (u.2.1 13 0).toNatClampNeg (tm_D u 1 (FP.dadd (u.2.2 1) (FP.dmul (FP.i2d (nI k)) (u.2.2 2))))).2.1 10 0 ∨ (tm_fg (u.2.1 13 0).toNatClampNeg (tm_D u 1 (FP.dadd (u.2.2 1) (FP.dmul (FP.i2d (nI k)) (u.2.2 2))))).2.1 10 0 = (-1) := by rw [hPw]; simpa [tm_D] using hV.2.2.2
        simpa [tm_D] using this
  | j + 3, hj => exact absurd hj (by omega)
end S33
