section S33
variable {l : Launch} {dC : Nat → ClassId} {dI : Nat → Nat → Nat} {gs : Nat → Nat} {ad : Nat → Nat} {cc cr : Nat → ClassId} {cd : ClassId}
set_option maxHeartbeats 4000000 in
set_option maxRecDepth 100000 in
theorem op_open (hl9 : l.stackTraces = false) {u v : tm_S} (o : Int64 × UInt64) (hR : tm_R u v) (p0 : Int32) (p1 : Int32) : ∃ (k : Int32) (u' v' : tm_S) (o' : Int64 × UInt64) (b : Int64), kl_M l dC dI gs ad cc cr cd yL_open wsL_open { frames := 9, cells := 1, slots := 6, locals := 148 } [.ref (ad 0), .int p0, .int p1, .ref (ad 55)] u v o u' v o' k ∧ kr_M l dC dI (tr_ad ad) cr yX5_open wsX5_open { frames := 1, cells := 0, slots := 0, locals := 22 } [.ref (tr_ad ad 0), .int p0, .int p1] v v' (some (.long b)) ∧ v'.2.1 14 0 = k ∧ (k = nI 0 → o'.1 = b) ∧ tm_R u' v' := by
  have hV := hR.2
  have hn0 := nI_0
  obtain ⟨vI, rfl, hI, hS⟩ := tm_Rv hR
  have hJ : ∀ a i, a ≠ 5 → a ≠ 14 → vI a i = u.2.1 a i := fun a i h5 h14 => (hI a i h5 h14).symm
  rcases tm_ix p0 (n := 4) (by decide) with h | ⟨j, hj, rfl⟩
  · refine ⟨_, _, _, _, _, w_open_x1 p0 p1 (m_open_b1 hl9 u p0 h p1), (p_open_b1 (u.1, vI, u.2.2) p0 (tm_ixr h (by decide)) p1), ?_, ?_, ?_⟩
    · simp [tm_L, tm_I, tm_D]
    · intro h9; exact absurd h9 (by decide)
    · refine ⟨⟨?_, ?_, ?_, ?_⟩, ?_, ?_, ?_, ?_⟩
      · first | (simp [tm_L, tm_I, tm_D, hJ]; done) | (funext a i; simp only [tm_L, tm_I, tm_D]; grind)
      · first | (simp only [tm_L, tm_I, tm_D]; done) | rfl | (funext a; simp only [tm_L, tm_I, tm_D]; grind)
      · intro a i h5 h14; have h9 := hI a i h5 h14; simp only [tm_L, tm_I, tm_D]; grind
      · intro q h4; have h9 := hS q; simp only [tm_L, tm_I, tm_D] at h4 ⊢; first | grind | simp_all
      · simpa [tm_L, tm_I, tm_D] using hV.1
      · simpa [tm_L, tm_I, tm_D] using hV.2.1
      · simpa [tm_L, tm_I, tm_D] using hV.2.2.1
      · simpa [tm_L, tm_I, tm_D] using hV.2.2.2
  by_cases hnl : u.2.1 11 0 = 0
  rotate_left
  · have hlo := hnl
    refine ⟨_, _, _, _, _, w_open_x2 (nI j) p1 (m_open_lo hl9 u hj p1 hlo), (p_open_lo (u.1, vI, u.2.2) hj p1 (by simpa [hJ] using hlo)), ?_, ?_, ?_⟩
    · simp [tm_L, tm_I, tm_D]
    · intro h9; exact absurd h9 (by decide)
    · refine ⟨⟨?_, ?_, ?_, ?_⟩, ?_, ?_, ?_, ?_⟩
      · first | (simp [tm_L, tm_I, tm_D, hJ]; done) | (funext a i; simp only [tm_L, tm_I, tm_D]; grind)
      · first | (simp only [tm_L, tm_I, tm_D]; done) | rfl | (funext a; simp only [tm_L, tm_I, tm_D]; grind)
      · intro a i h5 h14; have h9 := hI a i h5 h14; simp only [tm_L, tm_I, tm_D]; grind
      · intro q h4; have h9 := hS q; simp only [tm_L, tm_I, tm_D] at h4 ⊢; first | grind | simp_all
      · simpa [tm_L, tm_I, tm_D] using hV.1
      · simpa [tm_L, tm_I, tm_D] using hV.2.1
      · simpa [tm_L, tm_I, tm_D] using hV.2.2.1
      · simpa [tm_L, tm_I, tm_D] using hV.2.2.2
  by_cases hh : u.2.1 0 j = 0
  · refine ⟨_, _, _, _, _, w_open_x3 (nI j) p1 (m_open_free hl9 u hj p1 hnl hh), (p_open_free (u.1, vI, u.2.2) hj p1 (by simpa [hJ] using hnl) (by simpa [hJ] using hh)), ?_, ?_, ?_⟩
    · simp [tm_L, tm_I, tm_D]
    · intro h9; exact absurd h9 (by decide)
    · refine ⟨⟨?_, ?_, ?_, ?_⟩, ?_, ?_, ?_, ?_⟩
      · first | (simp [tm_L, tm_I, tm_D, hJ]; done) | (funext a i; simp only [tm_L, tm_I, tm_D]; grind)
      · first | (simp only [tm_L, tm_I, tm_D]; done) | rfl | (funext a; simp only [tm_L, tm_I, tm_D]; grind)
      · intro a i h5 h14; have h9 := hI a i h5 h14; simp only [tm_L, tm_I, tm_D]; grind
      · intro q h4; have h9 := hS q; simp only [tm_L, tm_I, tm_D] at h4 ⊢; first | grind | simp_all
      · simpa [tm_L, tm_I, tm_D] using hV.1
      · simpa [tm_L, tm_I, tm_D] using hV.2.1
      · simpa [tm_L, tm_I, tm_D] using hV.2.2.1
      · simpa [tm_L, tm_I, tm_D] using hV.2.2.2
  by_cases hw : u.2.1 1 j = 0
  · refine ⟨_, _, _, _, _, w_open_ok (nI j) p1 (m_open_w0 u hj p1 hnl hh hw), (p_open_w0 (u.1, vI, u.2.2) hj p1 (by simpa [hJ] using hnl) (by simpa [hJ] using hh) (by simpa [hJ] using hw)), ?_, ?_, ?_⟩
    · simp [tm_L, tm_I, tm_D]
    · intro _; simp [hJ, tm_L, tm_I, tm_D]
    · refine ⟨⟨?_, ?_, ?_, ?_⟩, ?_, ?_, ?_, ?_⟩
      · first | (simp [tm_L, tm_I, tm_D, hJ]; done) | (funext a i; simp only [tm_L, tm_I, tm_D]; grind)
      · first | (simp only [tm_L, tm_I, tm_D]; done) | rfl | (funext a; simp only [tm_L, tm_I, tm_D]; grind)
      · intro a i h5 h14; have h9 := hI a i h5 h14; simp only [tm_L, tm_I, tm_D]; grind
      · intro q h4; have h9 := hS q; simp only [tm_L, tm_I, tm_D] at h4 ⊢; first | grind | simp_all
      · simpa [tm_L, tm_I, tm_D] using hV.1
      · simpa [tm_L, tm_I, tm_D] using hV.2.1
      · simpa [tm_L, tm_I, tm_D] using hV.2.2.1
      · simpa [tm_L, tm_I, tm_D] using hV.2.2.2
  by_cases hg : u.2.1 13 0 < nI 3
  rotate_left
  · refine ⟨_, _, _, _, _, w_open_x2 (nI j) p1 (m_open_lock hl9 u hj p1 hnl hh hw hg), (p_open_lock (u.1, vI, u.2.2) hj p1 (by simpa [hJ] using hnl) (by simpa [hJ] using hh) (by simpa [hJ] using hw) (by simpa [hJ] using hg)), ?_, ?_, ?_⟩
    · simp [tm_L, tm_I, tm_D]
    · intro h9; exact absurd h9 (by decide)
    · refine ⟨⟨?_, ?_, ?_, ?_⟩, ?_, ?_, ?_, ?_⟩
      · first | (simp [tm_L, tm_I, tm_D, hJ]; done) | (funext a i; simp only [tm_L, tm_I, tm_D]; grind)
      · first | (simp only [tm_L, tm_I, tm_D]; done) | rfl | (funext a; simp only [tm_L, tm_I, tm_D]; grind)
      · intro a i h5 h14; have h9 := hI a i h5 h14; simp only [tm_L, tm_I, tm_D]; grind
      · intro q h4; have h9 := hS q; simp only [tm_L, tm_I, tm_D] at h4 ⊢; first | grind | simp_all
      · simpa [tm_L, tm_I, tm_D] using hV.1
      · simpa [tm_L, tm_I, tm_D] using hV.2.1
      · simpa [tm_L, tm_I, tm_D] using hV.2.2.1
      · simpa [tm_L, tm_I, tm_D] using hV.2.2.2
  by_cases he : u.2.1 1 j = p1
  · refine ⟨_, _, _, _, _, w_open_ok (nI j) p1 (m_open_wok u hj p1 hnl hh hw hg he), (p_open_wok (u.1, vI, u.2.2) hj p1 (by simpa [hJ] using hnl) (by simpa [hJ] using hh) (by simpa [hJ] using hw) (by simpa [hJ] using hg) (by simp only [hJ 1 j (by decide) (by decide)]; exact he.symm)), ?_, ?_, ?_⟩
    · simp [tm_L, tm_I, tm_D]
    · intro _; simp [hJ, tm_L, tm_I, tm_D]
    · refine ⟨⟨?_, ?_, ?_, ?_⟩, ?_, ?_, ?_, ?_⟩
      · first | (simp [tm_L, tm_I, tm_D, hJ]; done) | (funext a i; simp only [tm_L, tm_I, tm_D]; grind)
      · first | (simp only [tm_L, tm_I, tm_D]; done) | rfl | (funext a; simp only [tm_L, tm_I, tm_D]; grind)
      · intro a i h5 h14; have h9 := hI a i h5 h14; simp only [tm_L, tm_I, tm_D]; grind
      · intro q h4; have h9 := hS q; simp only [tm_L, tm_I, tm_D] at h4 ⊢; first | grind | simp_all
      · simpa [tm_L, tm_I, tm_D] using hV.1
      · simpa [tm_L, tm_I, tm_D] using hV.2.1
      · simpa [tm_L, tm_I, tm_D] using hV.2.2.1
      · simpa [tm_L, tm_I, tm_D] using hV.2.2.2
  refine ⟨_, _, _, _, _, w_open_x4 (nI j) p1 (m_open_wno hl9 u hj p1 hnl hh hw hg he), (p_open_wno (u.1, vI, u.2.2) hj p1 (by simpa [hJ] using hnl) (by simpa [hJ] using hh) (by simpa [hJ] using hw) (by simpa [hJ] using hg) (by simp only [hJ 1 j (by decide) (by decide)]; exact fun q => he q.symm)), ?_, ?_, ?_⟩
  · simp [tm_L, tm_I, tm_D]
  · intro h9; exact absurd h9 (by decide)
  · refine ⟨⟨?_, ?_, ?_, ?_⟩, ?_, ?_, ?_, ?_⟩
    · first | (simp [tm_L, tm_I, tm_D, hJ]; done) | (funext a i; simp only [tm_L, tm_I, tm_D]; grind)
    · first | (simp only [tm_L, tm_I, tm_D]; done) | rfl | (funext a; simp only [tm_L, tm_I, tm_D]; grind)
    · intro a i h5 h14; have h9 := hI a i h5 h14; simp only [tm_L, tm_I, tm_D]; grind
    · intro q h4; have h9 := hS q; simp only [tm_L, tm_I, tm_D] at h4 ⊢; first | grind | simp_all
    · simpa [tm_L, tm_I, tm_D] using hV.1
    · simpa [tm_L, tm_I, tm_D] using hV.2.1
    · simpa [tm_L, tm_I, tm_D] using hV.2.1
    · simpa [tm_L, tm_I, tm_D] using hV.2.2.2
set_option maxHeartbeats 4000000 in
set_option maxRecDepth 100000 in
theorem op_unseal (hl9 : l.stackTraces = false) {u v : tm_S} (o : Int64 × UInt64) (hR : tm_R u v) (p0 : Int32) (p1 : Int32) : ∃ (k : Int32) (u' v' : tm_S) (o' : Int64 × UInt64) (b : Int64), kl_M l dC dI gs ad cc cr cd yL_unseal wsL_unseal { frames := 9, cells := 1, slots := 6, locals := 148 } [.ref (ad 0), .int p0, .int p1, .ref (ad 55)] u v o u' v o' k ∧ kr_M l dC dI (tr_ad ad) cr yX5_unseal wsX5_unseal { frames := 1, cells := 0, slots := 0, locals := 23 } [.ref (tr_ad ad 0), .int p0, .int p1] v v' (some (.long b)) ∧ v'.2.1 14 0 = k ∧ (k = nI 0 → o'.1 = b) ∧ tm_R u' v' := by
  have hV := hR.2
  have hn0 := nI_0
  obtain ⟨vI, rfl, hI, hS⟩ := tm_Rv hR
  have hJ : ∀ a i, a ≠ 5 → a ≠ 14 → vI a i = u.2.1 a i := fun a i h5 h14 => (hI a i h5 h14).symm
  rcases tm_ix p0 (n := 4) (by decide) with h | ⟨j, hj, rfl⟩
  · refine ⟨_, _, _, _, _, w_unseal_x1 p0 p1 (m_unseal_b1 hl9 u p0 h p1), (p_unseal_b1 (u.1, vI, u.2.2) p0 (tm_ixr h (by decide)) p1), ?_, ?_, ?_⟩
    · simp [tm_L, tm_I, tm_D]
    · intro h9; exact absurd h9 (by decide)
    · refine ⟨⟨?_, ?_, ?_, ?_⟩, ?_, ?_, ?_, ?_⟩
      · first | (simp [tm_L, tm_I, tm_D, hJ]; done) | (funext a i; simp only [tm_L, tm_I, tm_D]; grind)
      · first | (simp only [tm_L, tm_I, tm_D]; done) | rfl | (funext a; simp only [tm_L, tm_I, tm_D]; grind)
      · intro a i h5 h14; have h9 := hI a i h5 h14; simp only [tm_L, tm_I, tm_D]; grind
      · intro q h4; have h9 := hS q; simp only [tm_L, tm_I, tm_D] at h4 ⊢; first | grind | simp_all
      · simpa [tm_L, tm_I, tm_D] using hV.1
      · simpa [tm_L, tm_I, tm_D] using hV.2.1
      · simpa [tm_L, tm_I, tm_D] using hV.2.2.1
      · simpa [tm_L, tm_I, tm_D] using hV.2.2.2
  rcases tm_ix p1 (n := 3) (by decide) with h | ⟨i, hi, rfl⟩
  · refine ⟨_, _, _, _, _, w_unseal_x1 (nI j) p1 (m_unseal_b2 hl9 u hj p1 h), (p_unseal_b2 (u.1, vI, u.2.2) hj p1 (tm_ixr h (by decide))), ?_, ?_, ?_⟩
    · simp [tm_L, tm_I, tm_D]
    · intro h9; exact absurd h9 (by decide)
    · refine ⟨⟨?_, ?_, ?_, ?_⟩, ?_, ?_, ?_, ?_⟩
      · first | (simp [tm_L, tm_I, tm_D, hJ]; done) | (funext a i; simp only [tm_L, tm_I, tm_D]; grind)
      · first | (simp only [tm_L, tm_I, tm_D]; done) | rfl | (funext a; simp only [tm_L, tm_I, tm_D]; grind)
      · intro a i h5 h14; have h9 := hI a i h5 h14; simp only [tm_L, tm_I, tm_D]; grind
      · intro q h4; have h9 := hS q; simp only [tm_L, tm_I, tm_D] at h4 ⊢; first | grind | simp_all
      · simpa [tm_L, tm_I, tm_D] using hV.1
      · simpa [tm_L, tm_I, tm_D] using hV.2.1
      · simpa [tm_L, tm_I, tm_D] using hV.2.2.1
      · simpa [tm_L, tm_I, tm_D] using hV.2.2.2
  by_cases hnl : u.2.1 11 0 = 0
  rotate_left
  · have hlo := hnl
    refine ⟨_, _, _, _, _, w_unseal_x2 (nI j) (nI i) (m_unseal_lo hl9 u hj hi hlo), (p_unseal_lo (u.1, vI, u.2.2) hj hi (by simpa [hJ] using hlo)), ?_, ?_, ?_⟩
    · simp [tm_L, tm_I, tm_D]
    · intro h9; exact absurd h9 (by decide)
    · refine ⟨⟨?_, ?_, ?_, ?_⟩, ?_, ?_, ?_, ?_⟩
      · first | (simp [tm_L, tm_I, tm_D, hJ]; done) | (funext a i; simp only [tm_L, tm_I, tm_D]; grind)
      · first | (simp only [tm_L, tm_I, tm_D]; done) | rfl | (funext a; simp only [tm_L, tm_I, tm_D]; grind)
      · intro a i h5 h14; have h9 := hI a i h5 h14; simp only [tm_L, tm_I, tm_D]; grind
      · intro q h4; have h9 := hS q; simp only [tm_L, tm_I, tm_D] at h4 ⊢; first | grind | simp_all
      · simpa [tm_L, tm_I, tm_D] using hV.1
      · simpa [tm_L, tm_I, tm_D] using hV.2.1
      · simpa [tm_L, tm_I, tm_D] using hV.2.2.1
      · simpa [tm_L, tm_I, tm_D] using hV.2.2.2
  by_cases hh : u.2.1 0 j = 0
  · refine ⟨_, _, _, _, _, w_unseal_x3 (nI j) (nI i) (m_unseal_free hl9 u hj hi hnl hh), (p_unseal_free (u.1, vI, u.2.2) hj hi (by simpa [hJ] using hnl) (by simpa [hJ] using hh)), ?_, ?_, ?_⟩
    · simp [tm_L, tm_I, tm_D]
    · intro h9; exact absurd h9 (by decide)
    · refine ⟨⟨?_, ?_, ?_, ?_⟩, ?_, ?_, ?_, ?_⟩
      · first | (simp [tm_L, tm_I, tm_D, hJ]; done) | (funext a i; simp only [tm_L, tm_I, tm_D]; grind)
      · first | (simp only [tm_L, tm_I, tm_D]; done) | rfl | (funext a; simp only [tm_L, tm_I, tm_D]; grind)
      · intro a i h5 h14; have h9 := hI a i h5 h14; simp only [tm_L, tm_I, tm_D]; grind
      · intro q h4; have h9 := hS q; simp only [tm_L, tm_I, tm_D] at h4 ⊢; first | grind | simp_all
      · simpa [tm_L, tm_I, tm_D] using hV.1
      · simpa [tm_L, tm_I, tm_D] using hV.2.1
      · simpa [tm_L, tm_I, tm_D] using hV.2.2.1
      · simpa [tm_L, tm_I, tm_D] using hV.2.2.2
  by_cases ho : u.1 3 j = 0
  · refine ⟨_, _, _, _, _, w_unseal_x4 (nI j) (nI i) (m_unseal_n1 hl9 u hj hi hnl hh ho), (p_unseal_n1 (u.1, vI, u.2.2) hj hi (by simpa [hJ] using hnl) (by simpa [hJ] using hh) ho), ?_, ?_, ?_⟩
    · simp [tm_L, tm_I, tm_D]
    · intro h9; exact absurd h9 (by decide)
    · refine ⟨⟨?_, ?_, ?_, ?_⟩, ?_, ?_, ?_, ?_⟩
      · first | (simp [tm_L, tm_I, tm_D, hJ]; done) | (funext a i; simp only [tm_L, tm_I, tm_D]; grind)
      · first | (simp only [tm_L, tm_I, tm_D]; done) | rfl | (funext a; simp only [tm_L, tm_I, tm_D]; grind)
      · intro a i h5 h14; have h9 := hI a i h5 h14; simp only [tm_L, tm_I, tm_D]; grind
      · intro q h4; have h9 := hS q; simp only [tm_L, tm_I, tm_D] at h4 ⊢; first | grind | simp_all
      · simpa [tm_L, tm_I, tm_D] using hV.1
      · simpa [tm_L, tm_I, tm_D] using hV.2.1
      · simpa [tm_L, tm_I, tm_D] using hV.2.2.1
      · simpa [tm_L, tm_I, tm_D] using hV.2.2.2
  by_cases hd : u.1 6 i = u.1 3 j
  rotate_left
  · refine ⟨_, _, _, _, _, w_unseal_x4 (nI j) (nI i) (m_unseal_n2 hl9 u hj hi hnl hh ho hd), (p_unseal_n2 (u.1, vI, u.2.2) hj hi (by simpa [hJ] using hnl) (by simpa [hJ] using hh) ho hd), ?_, ?_, ?_⟩
    · simp [tm_L, tm_I, tm_D]
    · intro h9; exact absurd h9 (by decide)
    · refine ⟨⟨?_, ?_, ?_, ?_⟩, ?_, ?_, ?_, ?_⟩
      · first | (simp [tm_L, tm_I, tm_D, hJ]; done) | (funext a i; simp only [tm_L, tm_I, tm_D]; grind)
      · first | (simp only [tm_L, tm_I, tm_D]; done) | rfl | (funext a; simp only [tm_L, tm_I, tm_D]; grind)
      · intro a i h5 h14; have h9 := hI a i h5 h14; simp only [tm_L, tm_I, tm_D]; grind
      · intro q h4; have h9 := hS q; simp only [tm_L, tm_I, tm_D] at h4 ⊢; first | grind | simp_all
      · simpa [tm_L, tm_I, tm_D] using hV.1
      · simpa [tm_L, tm_I, tm_D] using hV.2.1
      · simpa [tm_L, tm_I, tm_D] using hV.2.2.1
      · simpa [tm_L, tm_I, tm_D] using hV.2.2.2
  by_cases hq0 : ¬ u.2.1 4 i = 0 ∧ ¬ u.2.1 5 i = u.2.1 9 0
  · obtain ⟨hq, hc⟩ := hq0
    refine ⟨_, _, _, _, _, w_unseal_x2 (nI j) (nI i) (m_unseal_ch hl9 u hj hi hnl hh ho hd hq hc), (p_unseal_ch (u.1, vI, u.2.2) hj hi (by simpa [hJ] using hnl) (by simpa [hJ] using hh) ho hd (by simpa [hJ] using hq) (by show ¬ vI 5 i = vI 9 0; rw [← hI 9 0 (by decide) (by decide), ← hS i hq]; exact hc)), ?_, ?_, ?_⟩
    · simp [tm_L, tm_I, tm_D]
    · intro h9; exact absurd h9 (by decide)
    · refine ⟨⟨?_, ?_, ?_, ?_⟩, ?_, ?_, ?_, ?_⟩
      · first | (simp [tm_L, tm_I, tm_D, hJ]; done) | (funext a i; simp only [tm_L, tm_I, tm_D]; grind)
      · first | (simp only [tm_L, tm_I, tm_D]; done) | rfl | (funext a; simp only [tm_L, tm_I, tm_D]; grind)
      · intro a i h5 h14; have h9 := hI a i h5 h14; simp only [tm_L, tm_I, tm_D]; grind
      · intro q h4; have h9 := hS q; simp only [tm_L, tm_I, tm_D] at h4 ⊢; first | grind | simp_all
      · simpa [tm_L, tm_I, tm_D] using hV.1
      · simpa [tm_L, tm_I, tm_D] using hV.2.1
      · simpa [tm_L, tm_I, tm_D] using hV.2.2.1
      · simpa [tm_L, tm_I, tm_D] using hV.2.2.2
  have hq : ¬ u.2.1 4 i = 0 → u.2.1 5 i = u.2.1 9 0 := fun z => Decidable.not_not.mp (fun z2 => hq0 ⟨z, z2⟩)
  refine ⟨_, _, _, _, _, w_unseal_ok (nI j) (nI i) (m_unseal_ok u hj hi hnl hh ho hd hq), (p_unseal_ok (u.1, vI, u.2.2) hj hi (by simpa [hJ] using hnl) (by simpa [hJ] using hh) ho hd (fun z => by show vI 5 i = vI 9 0; rw [← hI 9 0 (by decide) (by decide), ← hS i (by simpa [hJ] using z)]; exact hq (by simpa [hJ] using z))), ?_, ?_, ?_⟩
  · simp [tm_L, tm_I, tm_D]
  · intro _; simp [hJ, tm_L, tm_I, tm_D]
  · refine ⟨⟨?_, ?_, ?_, ?_⟩, ?_, ?_, ?_, ?_⟩
    · first | (simp [tm_L, tm_I, tm_D, hJ]; done) | (funext a i; simp only [tm_L, tm_I, tm_D]; grind)
    · first | (simp only [tm_L, tm_I, tm_D]; done) | rfl | (funext a; simp only [tm_L, tm_I, tm_D]; grind)
    · intro a i h5 h14; have h9 := hI a i h5 h14; simp only [tm_L, tm_I, tm_D]; grind
    · intro q h4; have h9 := hS q; simp only [tm_L, tm_I, tm_D] at h4 ⊢; first | grind | simp_all
    · simpa [tm_L, tm_I, tm_D] using hV.1
    · simpa [tm_L, tm_I, tm_D] using hV.2.1
    · simpa [tm_L, tm_I, tm_D] using hV.2.2.1
    · simpa [tm_L, tm_I, tm_D] using hV.2.2.2
set_option maxHeartbeats 4000000 in
set_option maxRecDepth 100000 in
theorem op_session (hl9 : l.stackTraces = false) {u v : tm_S} (o : Int64 × UInt64) (hR : tm_R u v) (p0 : Int32) : ∃ (k : Int32) (u' v' : tm_S) (o' : Int64 × UInt64), kl_M l dC dI gs ad cc cr cd yL_session wsL_session { frames := 9, cells := 1, slots := 6, locals := 146 } [.ref (ad 0), .int p0] u v o u' v o' k ∧ kr_M l dC dI (tr_ad ad) cr yX5_session wsX5_session { frames := 1, cells := 0, slots := 0, locals := 22 } [.ref (tr_ad ad 0), .int p0] v v' none ∧ v'.2.1 14 0 = k ∧ tm_R u' v' := by
  have hV := hR.2
  have hn0 := nI_0
  obtain ⟨vI, rfl, hI, hS⟩ := tm_Rv hR
  have hJ : ∀ a i, a ≠ 5 → a ≠ 14 → vI a i = u.2.1 a i := fun a i h5 h14 => (hI a i h5 h14).symm
  rcases tm_ix p0 (n := 3) (by decide) with h | ⟨j, hj, rfl⟩
  · refine ⟨_, _, _, _, w_session_x1 p0 (m_session_b1 hl9 u p0 h), (p_session_b1 (u.1, vI, u.2.2) p0 (tm_ixr h (by decide))), ?_, ?_⟩
    · simp [tm_L, tm_I, tm_D]
    · refine ⟨⟨?_, ?_, ?_, ?_⟩, ?_, ?_, ?_, ?_⟩
      · first | (simp [tm_L, tm_I, tm_D, hJ]; done) | (funext a i; simp only [tm_L, tm_I, tm_D]; grind)
      · first | (simp only [tm_L, tm_I, tm_D]; done) | rfl | (funext a; simp only [tm_L, tm_I, tm_D]; grind)
      · intro a i h5 h14; have h9 := hI a i h5 h14; simp only [tm_L, tm_I, tm_D]; grind
      · intro q h4; have h9 := hS q; simp only [tm_L, tm_I, tm_D] at h4 ⊢; first | grind | simp_all
      · simpa [tm_L, tm_I, tm_D] using hV.1
      · simpa [tm_L, tm_I, tm_D] using hV.2.1
      · simpa [tm_L, tm_I, tm_D] using hV.2.2.1
      · simpa [tm_L, tm_I, tm_D] using hV.2.2.2
  by_cases hnl : u.2.1 11 0 = 0
  rotate_left
  · have hlo := hnl
    refine ⟨_, _, _, _, w_session_x2 (nI j) (m_session_lo hl9 u hj hlo), (p_session_lo (u.1, vI, u.2.2) hj (by simpa [hJ] using hlo)), ?_, ?_⟩
    · simp [tm_L, tm_I, tm_D]
    · refine ⟨⟨?_, ?_, ?_, ?_⟩, ?_, ?_, ?_, ?_⟩
      · first | (simp [tm_L, tm_I, tm_D, hJ]; done) | (funext a i; simp only [tm_L, tm_I, tm_D]; grind)
      · first | (simp only [tm_L, tm_I, tm_D]; done) | rfl | (funext a; simp only [tm_L, tm_I, tm_D]; grind)
      · intro a i h5 h14; have h9 := hI a i h5 h14; simp only [tm_L, tm_I, tm_D]; grind
      · intro q h4; have h9 := hS q; simp only [tm_L, tm_I, tm_D] at h4 ⊢; first | grind | simp_all
      · simpa [tm_L, tm_I, tm_D] using hV.1
      · simpa [tm_L, tm_I, tm_D] using hV.2.1
      · simpa [tm_L, tm_I, tm_D] using hV.2.2.1
      · simpa [tm_L, tm_I, tm_D] using hV.2.2.2
  refine ⟨_, _, _, _, w_session_ok (nI j) (m_session_ok u hj hnl), (p_session_ok (u.1, vI, u.2.2) hj (by simpa [hJ] using hnl)), ?_, ?_⟩
  · simp [tm_L, tm_I, tm_D]
  · refine ⟨⟨?_, ?_, ?_, ?_⟩, ?_, ?_, ?_, ?_⟩
    · first | (simp [tm_L, tm_I, tm_D, hJ]; done) | (funext a i; simp only [tm_L, tm_I, tm_D]; grind)
    · first | (simp only [tm_L, tm_I, tm_D]; done) | rfl | (funext a; simp only [tm_L, tm_I, tm_D]; grind)
    · intro a i h5 h14; have h9 := hI a i h5 h14; simp only [tm_L, tm_I, tm_D]; grind
    · intro q h4; have h9 := hS q; simp only [tm_L, tm_I, tm_D] at h4 ⊢; first | grind | simp_all
    · simpa [tm_L, tm_I, tm_D] using hV.1
    · simpa [tm_L, tm_I, tm_D] using hV.2.1
    · simpa [tm_L, tm_I, tm_D] using hV.2.2.1
    · simpa [tm_L, tm_I, tm_D] using hV.2.2.2
set_option maxHeartbeats 4000000 in
set_option maxRecDepth 100000 in
theorem op_pcr (hl9 : l.stackTraces = false) {u v : tm_S} (o : Int64 × UInt64) (hR : tm_R u v) (p0 : Int32) (p1 : Int32) (p2 : Int32) : ∃ (k : Int32) (u' v' : tm_S) (o' : Int64 × UInt64) (b : Int64), kl_M l dC dI gs ad cc cr cd yL_pcr wsL_pcr { frames := 9, cells := 1, slots := 6, locals := 149 } [.ref (ad 0), .int p0, .int p1, .int p2, .ref (ad 55)] u v o u' v o' k ∧ kr_M l dC dI (tr_ad ad) cr yX5_pcr wsX5_pcr { frames := 1, cells := 0, slots := 0, locals := 26 } [.ref (tr_ad ad 0), .int p0, .int p1, .int p2] v v' (some (.long b)) ∧ v'.2.1 14 0 = k ∧ (k = nI 0 → o'.1 = b) ∧ tm_R u' v' := by
  have hV := hR.2
  have hn0 := nI_0
  obtain ⟨vI, rfl, hI, hS⟩ := tm_Rv hR
  have hJ : ∀ a i, a ≠ 5 → a ≠ 14 → vI a i = u.2.1 a i := fun a i h5 h14 => (hI a i h5 h14).symm
  rcases tm_ix p0 (n := 3) (by decide) with h | ⟨j, hj, rfl⟩
  · refine ⟨_, _, _, _, _, w_pcr_x1 p0 p1 p2 (m_pcr_b1 hl9 u p0 h p1 p2), (p_pcr_b1 (u.1, vI, u.2.2) p0 (tm_ixr h (by decide)) p1 p2), ?_, ?_, ?_⟩
    · simp [tm_L, tm_I, tm_D]
    · intro h9; exact absurd h9 (by decide)
    · refine ⟨⟨?_, ?_, ?_, ?_⟩, ?_, ?_, ?_, ?_⟩
      · first | (simp [tm_L, tm_I, tm_D, hJ]; done) | (have hpx := tm_pxv (u := u) (vI := vI) (b := i) (mk := p2) 8; simp only [tm_L, tm_I, tm_D, hpx])
      · first | (simp only [tm_L, tm_I, tm_D]; done) | rfl | (funext a; simp only [tm_L, tm_I, tm_D]; grind)
      · intro a i h5 h14; have h9 := hI a i h5 h14; simp only [tm_L, tm_I, tm_D]; grind
      · intro q h4; have h9 := hS q; simp only [tm_L, tm_I, tm_D] at h4 ⊢; first | grind | simp_all
      · simpa [tm_L, tm_I, tm_D] using hV.1
      · simpa [tm_L, tm_I, tm_D] using hV.2.1
      · simpa [tm_L, tm_I, tm_D] using hV.2.2.1
      · simpa [tm_L, tm_I, tm_D] using hV.2.2.2
  rcases tm_ix p1 (n := 2) (by decide) with h | ⟨i, hi, rfl⟩
  · refine ⟨_, _, _, _, _, w_pcr_x1 (nI j) p1 p2 (m_pcr_b2 hl9 u hj p1 h p2), (p_pcr_b2 (u.1, vI, u.2.2) hj p1 (tm_ixr h (by decide)) p2), ?_, ?_, ?_⟩
    · simp [tm_L, tm_I, tm_D]
    · intro h9; exact absurd h9 (by decide)
    · refine ⟨⟨?_, ?_, ?_, ?_⟩, ?_, ?_, ?_, ?_⟩
      · first | (simp [tm_L, tm_I, tm_D, hJ]; done) | (have hpx := tm_pxv (u := u) (vI := vI) (b := i) (mk := p2) 8; simp only [tm_L, tm_I, tm_D, hpx])
      · first | (simp only [tm_L, tm_I, tm_D]; done) | rfl | (funext a; simp only [tm_L, tm_I, tm_D]; grind)
      · intro a i h5 h14; have h9 := hI a i h5 h14; simp only [tm_L, tm_I, tm_D]; grind
      · intro q h4; have h9 := hS q; simp only [tm_L, tm_I, tm_D] at h4 ⊢; first | grind | simp_all
      · simpa [tm_L, tm_I, tm_D] using hV.1
      · simpa [tm_L, tm_I, tm_D] using hV.2.1
      · simpa [tm_L, tm_I, tm_D] using hV.2.2.1
      · simpa [tm_L, tm_I, tm_D] using hV.2.2.2
  by_cases h1 : p2 < nI 1
  · refine ⟨_, _, _, _, _, w_pcr_x1 (nI j) (nI i) p2 (m_pcr_b3 hl9 u hj hi p2 (Or.inl h1)), (p_pcr_b3 (u.1, vI, u.2.2) hj hi p2 h1), ?_, ?_, ?_⟩
    · simp [tm_L, tm_I, tm_D]
    · intro h9; exact absurd h9 (by decide)
    · refine ⟨⟨?_, ?_, ?_, ?_⟩, ?_, ?_, ?_, ?_⟩
      · first | (simp [tm_L, tm_I, tm_D, hJ]; done) | (have hpx := tm_pxv (u := u) (vI := vI) (b := i) (mk := p2) 8; simp only [tm_L, tm_I, tm_D, hpx])
      · first | (simp only [tm_L, tm_I, tm_D]; done) | rfl | (funext a; simp only [tm_L, tm_I, tm_D]; grind)
      · intro a i h5 h14; have h9 := hI a i h5 h14; simp only [tm_L, tm_I, tm_D]; grind
      · intro q h4; have h9 := hS q; simp only [tm_L, tm_I, tm_D] at h4 ⊢; first | grind | simp_all
      · simpa [tm_L, tm_I, tm_D] using hV.1
      · simpa [tm_L, tm_I, tm_D] using hV.2.1
      · simpa [tm_L, tm_I, tm_D] using hV.2.2.1
      · simpa [tm_L, tm_I, tm_D] using hV.2.2.2
  by_cases h2 : p2 ≤ nI 255
  rotate_left
  · refine ⟨_, _, _, _, _, w_pcr_x1 (nI j) (nI i) p2 (m_pcr_b3 hl9 u hj hi p2 (Or.inr h2)), (p_pcr_b4 (u.1, vI, u.2.2) hj hi p2 h1 h2), ?_, ?_, ?_⟩
    · simp [tm_L, tm_I, tm_D]
    · intro h9; exact absurd h9 (by decide)
    · refine ⟨⟨?_, ?_, ?_, ?_⟩, ?_, ?_, ?_, ?_⟩
      · first | (simp [tm_L, tm_I, tm_D, hJ]; done) | (have hpx := tm_pxv (u := u) (vI := vI) (b := i) (mk := p2) 8; simp only [tm_L, tm_I, tm_D, hpx])
      · first | (simp only [tm_L, tm_I, tm_D]; done) | rfl | (funext a; simp only [tm_L, tm_I, tm_D]; grind)
      · intro a i h5 h14; have h9 := hI a i h5 h14; simp only [tm_L, tm_I, tm_D]; grind
      · intro q h4; have h9 := hS q; simp only [tm_L, tm_I, tm_D] at h4 ⊢; first | grind | simp_all
      · simpa [tm_L, tm_I, tm_D] using hV.1
      · simpa [tm_L, tm_I, tm_D] using hV.2.1
      · simpa [tm_L, tm_I, tm_D] using hV.2.2.1
      · simpa [tm_L, tm_I, tm_D] using hV.2.2.2
  by_cases hnl : u.2.1 11 0 = 0
  rotate_left
  · have hlo := hnl
    refine ⟨_, _, _, _, _, w_pcr_x2 (nI j) (nI i) p2 (m_pcr_lo hl9 u hj hi p2 h1 h2 hlo), (p_pcr_lo (u.1, vI, u.2.2) hj hi p2 h1 h2 (by simpa [hJ] using hlo)), ?_, ?_, ?_⟩
    · simp [tm_L, tm_I, tm_D]
    · intro h9; exact absurd h9 (by decide)
    · refine ⟨⟨?_, ?_, ?_, ?_⟩, ?_, ?_, ?_, ?_⟩
      · first | (simp [tm_L, tm_I, tm_D, hJ]; done) | (have hpx := tm_pxv (u := u) (vI := vI) (b := i) (mk := p2) 8; simp only [tm_L, tm_I, tm_D, hpx])
      · first | (simp only [tm_L, tm_I, tm_D]; done) | rfl | (funext a; simp only [tm_L, tm_I, tm_D]; grind)
      · intro a i h5 h14; have h9 := hI a i h5 h14; simp only [tm_L, tm_I, tm_D]; grind
      · intro q h4; have h9 := hS q; simp only [tm_L, tm_I, tm_D] at h4 ⊢; first | grind | simp_all
      · simpa [tm_L, tm_I, tm_D] using hV.1
      · simpa [tm_L, tm_I, tm_D] using hV.2.1
      · simpa [tm_L, tm_I, tm_D] using hV.2.2.1
      · simpa [tm_L, tm_I, tm_D] using hV.2.2.2
  refine ⟨_, _, _, _, _, w_pcr_ok (nI j) (nI i) p2 (m_pcr_ok u hj hi p2 h1 h2 hnl), (p_pcr_ok (u.1, vI, u.2.2) hj hi p2 h1 h2 (by simpa [hJ] using hnl)), ?_, ?_, ?_⟩
  · simp [tm_L, tm_I, tm_D]
  · intro _; exact congrArg (tm_h _) (tm_pxv (u := u) (vI := vI) 8).symm
  · refine ⟨⟨?_, ?_, ?_, ?_⟩, ?_, ?_, ?_, ?_⟩
    · first | (simp [tm_L, tm_I, tm_D, hJ]; done) | (have hpx := tm_pxv (u := u) (vI := vI) (b := i) (mk := p2) 8; simp only [tm_L, tm_I, tm_D, hpx])
    · first | (simp only [tm_L, tm_I, tm_D]; done) | rfl | (funext a; simp only [tm_L, tm_I, tm_D]; grind)
    · intro a i h5 h14; have h9 := hI a i h5 h14; simp only [tm_L, tm_I, tm_D]; grind
    · intro q h4; have h9 := hS q; simp only [tm_L, tm_I, tm_D] at h4 ⊢; first | grind | simp_all
    · simpa [tm_L, tm_I, tm_D] using hV.1
    · simpa [tm_L, tm_I, tm_D] using hV.2.1
    · simpa [tm_L, tm_I, tm_D] using hV.2.2.1
    · simpa [tm_L, tm_I, tm_D] using hV.2.2.2
set_option maxHeartbeats 4000000 in
set_option maxRecDepth 100000 in
theorem op_either (hl9 : l.stackTraces = false) {u v : tm_S} (o : Int64 × UInt64) (hR : tm_R u v) (p0 : Int32) (p1 : Int64) (p2 : Int64) : ∃ (k : Int32) (u' v' : tm_S) (o' : Int64 × UInt64) (b : Int64), kl_M l dC dI gs ad cc cr cd yL_either wsL_either { frames := 9, cells := 1, slots := 6, locals := 151 } [.ref (ad 0), .int p0, .long p1, .long p2, .ref (ad 55)] u v o u' v o' k ∧ kr_M l dC dI (tr_ad ad) cr yX5_either wsX5_either { frames := 1, cells := 0, slots := 0, locals := 26 } [.ref (tr_ad ad 0), .int p0, .long p1, .long p2] v v' (some (.long b)) ∧ v'.2.1 14 0 = k ∧ (k = nI 0 → o'.1 = b) ∧ tm_R u' v' := by
  have hV := hR.2
  have hn0 := nI_0
  obtain ⟨vI, rfl, hI, hS⟩ := tm_Rv hR
  have hJ : ∀ a i, a ≠ 5 → a ≠ 14 → vI a i = u.2.1 a i := fun a i h5 h14 => (hI a i h5 h14).symm
  rcases tm_ix p0 (n := 3) (by decide) with h | ⟨j, hj, rfl⟩
  · refine ⟨_, _, _, _, _, w_either_x1 p0 p1 p2 (m_either_b1 hl9 u p0 h p1 p2), (p_either_b1 (u.1, vI, u.2.2) p0 (tm_ixr h (by decide)) p1 p2), ?_, ?_, ?_⟩
    · simp [tm_L, tm_I, tm_D]
    · intro h9; exact absurd h9 (by decide)
    · refine ⟨⟨?_, ?_, ?_, ?_⟩, ?_, ?_, ?_, ?_⟩
      · first | (simp [tm_L, tm_I, tm_D, hJ]; done) | (funext a i; simp only [tm_L, tm_I, tm_D]; grind)
      · first | (simp only [tm_L, tm_I, tm_D]; done) | rfl | (funext a; simp only [tm_L, tm_I, tm_D]; grind)
      · intro a i h5 h14; have h9 := hI a i h5 h14; simp only [tm_L, tm_I, tm_D]; grind
      · intro q h4; have h9 := hS q; simp only [tm_L, tm_I, tm_D] at h4 ⊢; first | grind | simp_all
      · simpa [tm_L, tm_I, tm_D] using hV.1
      · simpa [tm_L, tm_I, tm_D] using hV.2.1
      · simpa [tm_L, tm_I, tm_D] using hV.2.2.1
      · simpa [tm_L, tm_I, tm_D] using hV.2.2.2
  by_cases hnl : u.2.1 11 0 = 0
  rotate_left
  · have hlo := hnl
    refine ⟨_, _, _, _, _, w_either_x2 (nI j) p1 p2 (m_either_lo hl9 u hj p1 p2 hlo), (p_either_lo (u.1, vI, u.2.2) hj p1 p2 (by simpa [hJ] using hlo)), ?_, ?_, ?_⟩
    · simp [tm_L, tm_I, tm_D]
    · intro h9; exact absurd h9 (by decide)
    · refine ⟨⟨?_, ?_, ?_, ?_⟩, ?_, ?_, ?_, ?_⟩
      · first | (simp [tm_L, tm_I, tm_D, hJ]; done) | (funext a i; simp only [tm_L, tm_I, tm_D]; grind)
      · first | (simp only [tm_L, tm_I, tm_D]; done) | rfl | (funext a; simp only [tm_L, tm_I, tm_D]; grind)
      · intro a i h5 h14; have h9 := hI a i h5 h14; simp only [tm_L, tm_I, tm_D]; grind
      · intro q h4; have h9 := hS q; simp only [tm_L, tm_I, tm_D] at h4 ⊢; first | grind | simp_all
      · simpa [tm_L, tm_I, tm_D] using hV.1
      · simpa [tm_L, tm_I, tm_D] using hV.2.1
      · simpa [tm_L, tm_I, tm_D] using hV.2.2.1
      · simpa [tm_L, tm_I, tm_D] using hV.2.2.2
  by_cases h1 : u.1 6 j = p1
  · refine ⟨_, _, _, _, _, w_either_ok (nI j) p1 p2 (m_either_a u hj p1 p2 hnl h1), (p_either_a (u.1, vI, u.2.2) hj p1 p2 (by simpa [hJ] using hnl) h1), ?_, ?_, ?_⟩
    · simp [tm_L, tm_I, tm_D]
    · intro _; simp [hJ, tm_L, tm_I, tm_D]
    · refine ⟨⟨?_, ?_, ?_, ?_⟩, ?_, ?_, ?_, ?_⟩
      · first | (simp [tm_L, tm_I, tm_D, hJ]; done) | (funext a i; simp only [tm_L, tm_I, tm_D]; grind)
      · first | (simp only [tm_L, tm_I, tm_D]; done) | rfl | (funext a; simp only [tm_L, tm_I, tm_D]; grind)
      · intro a i h5 h14; have h9 := hI a i h5 h14; simp only [tm_L, tm_I, tm_D]; grind
      · intro q h4; have h9 := hS q; simp only [tm_L, tm_I, tm_D] at h4 ⊢; first | grind | simp_all
      · simpa [tm_L, tm_I, tm_D] using hV.1
      · simpa [tm_L, tm_I, tm_D] using hV.2.1
      · simpa [tm_L, tm_I, tm_D] using hV.2.2.1
      · simpa [tm_L, tm_I, tm_D] using hV.2.2.2
  by_cases h2 : u.1 6 j = p2
  · refine ⟨_, _, _, _, _, w_either_ok (nI j) p1 p2 (m_either_b u hj p1 p2 hnl h1 h2), (p_either_b (u.1, vI, u.2.2) hj p1 p2 (by simpa [hJ] using hnl) h1 h2), ?_, ?_, ?_⟩
    · simp [tm_L, tm_I, tm_D]
    · intro _; simp [hJ, tm_L, tm_I, tm_D]
    · refine ⟨⟨?_, ?_, ?_, ?_⟩, ?_, ?_, ?_, ?_⟩
      · first | (simp [tm_L, tm_I, tm_D, hJ]; done) | (funext a i; simp only [tm_L, tm_I, tm_D]; grind)
      · first | (simp only [tm_L, tm_I, tm_D]; done) | rfl | (funext a; simp only [tm_L, tm_I, tm_D]; grind)
      · intro a i h5 h14; have h9 := hI a i h5 h14; simp only [tm_L, tm_I, tm_D]; grind
      · intro q h4; have h9 := hS q; simp only [tm_L, tm_I, tm_D] at h4 ⊢; first | grind | simp_all
      · simpa [tm_L, tm_I, tm_D] using hV.1
      · simpa [tm_L, tm_I, tm_D] using hV.2.1
      · simpa [tm_L, tm_I, tm_D] using hV.2.2.1
      · simpa [tm_L, tm_I, tm_D] using hV.2.2.2
  refine ⟨_, _, _, _, _, w_either_x3 (nI j) p1 p2 (m_either_no hl9 u hj p1 p2 hnl h1 h2), (p_either_no (u.1, vI, u.2.2) hj p1 p2 (by simpa [hJ] using hnl) h1 h2), ?_, ?_, ?_⟩
  · simp [tm_L, tm_I, tm_D]
  · intro h9; exact absurd h9 (by decide)
  · refine ⟨⟨?_, ?_, ?_, ?_⟩, ?_, ?_, ?_, ?_⟩
    · first | (simp [tm_L, tm_I, tm_D, hJ]; done) | (funext a i; simp only [tm_L, tm_I, tm_D]; grind)
    · first | (simp only [tm_L, tm_I, tm_D]; done) | rfl | (funext a; simp only [tm_L, tm_I, tm_D]; grind)
    · intro a i h5 h14; have h9 := hI a i h5 h14; simp only [tm_L, tm_I, tm_D]; grind
    · intro q h4; have h9 := hS q; simp only [tm_L, tm_I, tm_D] at h4 ⊢; first | grind | simp_all
    · simpa [tm_L, tm_I, tm_D] using hV.1
    · simpa [tm_L, tm_I, tm_D] using hV.2.1
    · simpa [tm_L, tm_I, tm_D] using hV.2.2.1
    · simpa [tm_L, tm_I, tm_D] using hV.2.2.2
end S33
