section S33
variable {l : Launch} {dC : Nat → ClassId} {dI : Nat → Nat → Nat} {gs : Nat → Nat} {ad : Nat → Nat} {cc cr : Nat → ClassId} {cd : ClassId}
set_option maxHeartbeats 4000000 in
set_option maxRecDepth 100000 in
theorem op_with (hl9 : l.stackTraces = false) {u v : tm_S} (o : Int64 × UInt64) (hR : tm_R u v) (p0 : Int32) (p1 : Int32) (p2 : Int32) : ∃ (k : Int32) (u' v' : tm_S) (o' : Int64 × UInt64) (b : Int64), kl_M l dC dI gs ad cc cr cd yL_with wsL_with { frames := 9, cells := 1, slots := 6, locals := 150 } [.ref (ad 0), .int p0, .int p1, .int p2, .ref (ad 55)] u v o u' v o' k ∧ kr_M l dC dI (tr_ad ad) cr yX5_with wsX5_with { frames := 2, cells := 0, slots := 0, locals := 47 } [.ref (tr_ad ad 0), .int p0, .int p1, .int p2] v v' (some (.long b)) ∧ v'.2.1 14 0 = k ∧ (k = nI 0 → o'.1 = b) ∧ tm_R u' v' := by
  have hV := hR.2
  have hn0 := nI_0
  obtain ⟨vI, rfl, hI, hS⟩ := tm_Rv hR
  have hJ : ∀ a i, a ≠ 5 → a ≠ 14 → vI a i = u.2.1 a i := fun a i h5 h14 => (hI a i h5 h14).symm
  rcases tm_ix p0 (n := 3) (by decide) with h | ⟨j, hj, rfl⟩
  · refine ⟨_, _, _, _, _, w_with_x1 p0 p1 p2 (m_with_b1 hl9 u p0 h p1 p2), (p_with_b1 (u.1, vI, u.2.2) p0 (tm_ixr h (by decide)) p1 p2), ?_, ?_, ?_⟩
    · simp [tm_L, tm_I, tm_D]
    · intro h9; exact absurd h9 (by decide)
    · refine ⟨⟨?_, ?_, ?_, ?_⟩, ?_, ?_, ?_, ?_⟩
      · first | (simp only [tm_L, tm_I, tm_D]; done) | (have e1 := hJ 1 i (by decide) (by decide); simp [tm_L, tm_I, tm_D, e1])
      · first | (simp only [tm_L, tm_I, tm_D]; done) | rfl | (funext a; simp only [tm_L, tm_I, tm_D]; grind)
      · intro a i h5 h14; have h9 := hI a i h5 h14; simp only [tm_L, tm_I, tm_D]; grind
      · intro q h4; have h9 := hS q; simp only [tm_L, tm_I, tm_D] at h4 ⊢; first | grind | simp_all
      · simpa [tm_L, tm_I, tm_D] using hV.1
      · simpa [tm_L, tm_I, tm_D] using hV.2.1
      · simpa [tm_L, tm_I, tm_D] using hV.2.2.1
      · simpa [tm_L, tm_I, tm_D] using hV.2.2.2
  rcases tm_ix p1 (n := 4) (by decide) with h | ⟨i, hi, rfl⟩
  · refine ⟨_, _, _, _, _, w_with_x1 (nI j) p1 p2 (m_with_b2 hl9 u hj p1 h p2), (p_with_b2 (u.1, vI, u.2.2) hj p1 (tm_ixr h (by decide)) p2), ?_, ?_, ?_⟩
    · simp [tm_L, tm_I, tm_D]
    · intro h9; exact absurd h9 (by decide)
    · refine ⟨⟨?_, ?_, ?_, ?_⟩, ?_, ?_, ?_, ?_⟩
      · first | (simp only [tm_L, tm_I, tm_D]; done) | (have e1 := hJ 1 i (by decide) (by decide); simp [tm_L, tm_I, tm_D, e1])
      · first | (simp only [tm_L, tm_I, tm_D]; done) | rfl | (funext a; simp only [tm_L, tm_I, tm_D]; grind)
      · intro a i h5 h14; have h9 := hI a i h5 h14; simp only [tm_L, tm_I, tm_D]; grind
      · intro q h4; have h9 := hS q; simp only [tm_L, tm_I, tm_D] at h4 ⊢; first | grind | simp_all
      · simpa [tm_L, tm_I, tm_D] using hV.1
      · simpa [tm_L, tm_I, tm_D] using hV.2.1
      · simpa [tm_L, tm_I, tm_D] using hV.2.2.1
      · simpa [tm_L, tm_I, tm_D] using hV.2.2.2
  by_cases hnl : u.2.1 11 0 = 0
  rotate_left
  · have hlo := hnl
    refine ⟨_, _, _, _, _, w_with_x2 (nI j) (nI i) p2 (m_with_lo hl9 u hj hi p2 hlo), (p_with_lo (u.1, vI, u.2.2) hj hi p2 (by simpa [hJ] using hlo)), ?_, ?_, ?_⟩
    · simp [tm_L, tm_I, tm_D]
    · intro h9; exact absurd h9 (by decide)
    · refine ⟨⟨?_, ?_, ?_, ?_⟩, ?_, ?_, ?_, ?_⟩
      · first | (simp only [tm_L, tm_I, tm_D]; done) | (have e1 := hJ 1 i (by decide) (by decide); simp [tm_L, tm_I, tm_D, e1])
      · first | (simp only [tm_L, tm_I, tm_D]; done) | rfl | (funext a; simp only [tm_L, tm_I, tm_D]; grind)
      · intro a i h5 h14; have h9 := hI a i h5 h14; simp only [tm_L, tm_I, tm_D]; grind
      · intro q h4; have h9 := hS q; simp only [tm_L, tm_I, tm_D] at h4 ⊢; first | grind | simp_all
      · simpa [tm_L, tm_I, tm_D] using hV.1
      · simpa [tm_L, tm_I, tm_D] using hV.2.1
      · simpa [tm_L, tm_I, tm_D] using hV.2.2.1
      · simpa [tm_L, tm_I, tm_D] using hV.2.2.2
  by_cases hh : u.2.1 0 i = 0
  · refine ⟨_, _, _, _, _, w_with_x3 (nI j) (nI i) p2 (m_with_free hl9 u hj hi p2 hnl hh), (p_with_free (u.1, vI, u.2.2) hj hi p2 (by simpa [hJ] using hnl) (by simpa [hJ] using hh)), ?_, ?_, ?_⟩
    · simp [tm_L, tm_I, tm_D]
    · intro h9; exact absurd h9 (by decide)
    · refine ⟨⟨?_, ?_, ?_, ?_⟩, ?_, ?_, ?_, ?_⟩
      · first | (simp only [tm_L, tm_I, tm_D]; done) | (have e1 := hJ 1 i (by decide) (by decide); simp [tm_L, tm_I, tm_D, e1])
      · first | (simp only [tm_L, tm_I, tm_D]; done) | rfl | (funext a; simp only [tm_L, tm_I, tm_D]; grind)
      · intro a i h5 h14; have h9 := hI a i h5 h14; simp only [tm_L, tm_I, tm_D]; grind
      · intro q h4; have h9 := hS q; simp only [tm_L, tm_I, tm_D] at h4 ⊢; first | grind | simp_all
      · simpa [tm_L, tm_I, tm_D] using hV.1
      · simpa [tm_L, tm_I, tm_D] using hV.2.1
      · simpa [tm_L, tm_I, tm_D] using hV.2.2.1
      · simpa [tm_L, tm_I, tm_D] using hV.2.2.2
  by_cases hw : u.2.1 1 i = 0
  · refine ⟨_, _, _, _, _, w_with_ok (nI j) (nI i) p2 (m_with_w0 u hj hi p2 hnl hh hw), (p_with_w0 (u.1, vI, u.2.2) hj hi p2 (by simpa [hJ] using hnl) (by simpa [hJ] using hh) (by simpa [hJ] using hw)), ?_, ?_, ?_⟩
    · simp [tm_L, tm_I, tm_D]
    · intro _; have e1 := hJ 1 i (by decide) (by decide); simp [tm_I, e1]
    · refine ⟨⟨?_, ?_, ?_, ?_⟩, ?_, ?_, ?_, ?_⟩
      · first | (simp only [tm_L, tm_I, tm_D]; done) | (have e1 := hJ 1 i (by decide) (by decide); simp [tm_L, tm_I, tm_D, e1])
      · first | (simp only [tm_L, tm_I, tm_D]; done) | rfl | (funext a; simp only [tm_L, tm_I, tm_D]; grind)
      · intro a i h5 h14; have h9 := hI a i h5 h14; simp only [tm_L, tm_I, tm_D]; grind
      · intro q h4; have h9 := hS q; simp only [tm_L, tm_I, tm_D] at h4 ⊢; first | grind | simp_all
      · simpa [tm_L, tm_I, tm_D] using hV.1
      · simpa [tm_L, tm_I, tm_D] using hV.2.1
      · simpa [tm_L, tm_I, tm_D] using hV.2.2.1
      · simpa [tm_L, tm_I, tm_D] using hV.2.2.2
  by_cases hg : u.2.1 13 0 < nI 3
  rotate_left
  · refine ⟨_, _, _, _, _, w_with_x2 (nI j) (nI i) p2 (m_with_lock hl9 u hj hi p2 hnl hh hw hg), (p_with_lock (u.1, vI, u.2.2) hj hi p2 (by simpa [hJ] using hnl) (by simpa [hJ] using hh) (by simpa [hJ] using hw) (by simpa [hJ] using hg)), ?_, ?_, ?_⟩
    · simp [tm_L, tm_I, tm_D]
    · intro h9; exact absurd h9 (by decide)
    · refine ⟨⟨?_, ?_, ?_, ?_⟩, ?_, ?_, ?_, ?_⟩
      · first | (simp only [tm_L, tm_I, tm_D]; done) | (have e1 := hJ 1 i (by decide) (by decide); simp [tm_L, tm_I, tm_D, e1])
      · first | (simp only [tm_L, tm_I, tm_D]; done) | rfl | (funext a; simp only [tm_L, tm_I, tm_D]; grind)
      · intro a i h5 h14; have h9 := hI a i h5 h14; simp only [tm_L, tm_I, tm_D]; grind
      · intro q h4; have h9 := hS q; simp only [tm_L, tm_I, tm_D] at h4 ⊢; first | grind | simp_all
      · simpa [tm_L, tm_I, tm_D] using hV.1
      · simpa [tm_L, tm_I, tm_D] using hV.2.1
      · simpa [tm_L, tm_I, tm_D] using hV.2.2.1
      · simpa [tm_L, tm_I, tm_D] using hV.2.2.2
  by_cases he : u.2.1 1 i = p2
  · refine ⟨_, _, _, _, _, w_with_ok (nI j) (nI i) p2 (m_with_wok u hj hi p2 hnl hh hw hg he), (p_with_wok (u.1, vI, u.2.2) hj hi p2 (by simpa [hJ] using hnl) (by simpa [hJ] using hh) (by simpa [hJ] using hw) (by simpa [hJ] using hg) (by simp only [hJ 1 i (by decide) (by decide)]; exact he.symm)), ?_, ?_, ?_⟩
    · simp [tm_L, tm_I, tm_D]
    · intro _; have e1 := hJ 1 i (by decide) (by decide); simp [tm_I, e1]
    · refine ⟨⟨?_, ?_, ?_, ?_⟩, ?_, ?_, ?_, ?_⟩
      · first | (simp only [tm_L, tm_I, tm_D]; done) | (have e1 := hJ 1 i (by decide) (by decide); simp [tm_L, tm_I, tm_D, e1])
      · first | (simp only [tm_L, tm_I, tm_D]; done) | rfl | (funext a; simp only [tm_L, tm_I, tm_D]; grind)
      · intro a i h5 h14; have h9 := hI a i h5 h14; simp only [tm_L, tm_I, tm_D]; grind
      · intro q h4; have h9 := hS q; simp only [tm_L, tm_I, tm_D] at h4 ⊢; first | grind | simp_all
      · simpa [tm_L, tm_I, tm_D] using hV.1
      · simpa [tm_L, tm_I, tm_D] using hV.2.1
      · simpa [tm_L, tm_I, tm_D] using hV.2.2.1
      · simpa [tm_L, tm_I, tm_D] using hV.2.2.2
  refine ⟨_, _, _, _, _, w_with_x4 (nI j) (nI i) p2 (m_with_wno hl9 u hj hi p2 hnl hh hw hg he), (p_with_wno (u.1, vI, u.2.2) hj hi p2 (by simpa [hJ] using hnl) (by simpa [hJ] using hh) (by simpa [hJ] using hw) (by simpa [hJ] using hg) (by simp only [hJ 1 i (by decide) (by decide)]; exact fun q => he q.symm)), ?_, ?_, ?_⟩
  · simp [tm_L, tm_I, tm_D]
  · intro h9; exact absurd h9 (by decide)
  · refine ⟨⟨?_, ?_, ?_, ?_⟩, ?_, ?_, ?_, ?_⟩
    · first | (simp only [tm_L, tm_I, tm_D]; done) | (have e1 := hJ 1 i (by decide) (by decide); simp [tm_L, tm_I, tm_D, e1])
    · first | (simp only [tm_L, tm_I, tm_D]; done) | rfl | (funext a; simp only [tm_L, tm_I, tm_D]; grind)
    · intro a i h5 h14; have h9 := hI a i h5 h14; simp only [tm_L, tm_I, tm_D]; grind
    · intro q h4; have h9 := hS q; simp only [tm_L, tm_I, tm_D] at h4 ⊢; first | grind | simp_all
    · simpa [tm_L, tm_I, tm_D] using hV.1
    · simpa [tm_L, tm_I, tm_D] using hV.2.1
    · simpa [tm_L, tm_I, tm_D] using hV.2.1
    · simpa [tm_L, tm_I, tm_D] using hV.2.2.2
end S33
