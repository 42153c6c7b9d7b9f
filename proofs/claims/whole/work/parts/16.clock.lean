section S16
variable {l : Launch} {dC : Nat → ClassId} {dI : Nat → Nat → Nat} {gs : Nat → Nat} {ad : Nat → Nat} {cc : Nat → ClassId}
/-- RATE, when it is told to become w -/
def tm_pace (o w : UInt64) : UInt64 := if Op.cmpValue (FP.dcmp w 4598175219545276416) .l < 0 then o else if 0 < Op.cmpValue (FP.dcmp w 4616189618054758400) .g then o else w
/-- WRONG GUESSES forgiven: n times at the most -/
def tm_fg : Nat → tm_S → tm_S
  | 0, u => u
  | n + 1, u => if u.2.1 13 0 ≤ 0 then u else if Op.cmpValue (FP.dcmp (u.2.2 1) (FP.dadd (u.2.2 0) 4621819117588971520)) .l < 0 then u else tm_fg n (tm_D (tm_I u 13 0 (u.2.1 13 0 - nI 1)) 0 (FP.dadd (u.2.2 0) 4621819117588971520))
theorem tm_p10 : tm_pn 4621819117588971520 := by unfold tm_pn; decide
theorem tm_f10 : tm_pf 4621819117588971520 := by unfold tm_pf; decide
theorem tm_f125 : tm_pf 4608308318706860032 := by unfold tm_pf; decide
theorem tm_f075 : tm_pf 4604930618986332160 := by unfold tm_pf; decide
theorem tm_dec1 {x : Int32} {n : Nat} (h : ¬ x ≤ 0) (hn : x.toNatClampNeg ≤ n + 1) : (x - nI 1).toNatClampNeg ≤ n := by
  have h0 : ¬ x < 0 := fun q => h (Int32.le_of_lt q)
  obtain ⟨j, hj, rfl⟩ := nI_of h0
  rw [nI_clamp hj] at hn
  match j, hj, h, hn with
  | 0, _, h, _ => exact absurd (by decide) h
  | j + 1, hj, _, hn =>
    rw [show nI (j + 1) - nI 1 = nI j from nI_pred j, nI_clamp (by omega)]
    omega

theorem tm_fg_D (n : Nat) : ∀ (u : tm_S) (a : Nat), a ≠ 0 → (tm_fg n u).2.2 a = u.2.2 a := by
  induction n with
  | zero => intro u a _; rfl
  | succ n ih =>
    intro u a ha
    simp only [tm_fg]
    split
    · rfl
    · split
      · rfl
      · rw [ih _ a ha]; simp [tm_D, tm_I, ha]
theorem tm_le0 {x : Int32} (h : x.toNatClampNeg ≤ 0) : x ≤ 0 := by
  rcases Int32.lt_or_le 0 x with h1 | h1
  · exfalso
    have h0 : ¬ x < 0 := fun q => Int32.lt_irrefl (Int32.lt_trans q h1)
    obtain ⟨j, hj, rfl⟩ := nI_of h0
    rw [nI_clamp hj] at h
    have : j = 0 := by omega
    subst this
    exact absurd h1 (by decide)
  · exact h1
set_option maxHeartbeats 4000000 in
set_option maxRecDepth 100000 in
theorem c_setPace_lo (u : tm_S) (w : UInt64) (h : Op.cmpValue (FP.dcmp w 4598175219545276416) .l < 0) : kc_M l dC dI gs ad cc yX4_setPace wsX4_setPace { frames := 0, cells := 0, slots := 0, locals := 0 } [.ref (ad 0), .double w] u u none := by
  refine kq_ofW (cc := cX4_setPace) (maxL := 3) (ret := none) (R0 := RX4) (by decide) rfl rfl (Nat.le_of_ble_eq_true rfl) ?_
  intro p e s m below meth c A ls hx hb hr hlk hml hown hts hP hK hD hA hG hS hl
  have hl : lv_has ls 3 [(0, .ref (ad 0)), (1, .double w)] := hl
  refine lv_dload_n hx hb dX4_setPace_0 rfl (lv_at hl 1 rfl) ?_
  refine lv_ldc2d hx hb hown (hts _ mb_588) dX4_setPace_1 ?_
  refine lv_dcmp hx hb dX4_setPace_4 ?_
  refine lv_if_lt (tgt := 21) hx hb dX4_setPace_5 (by decide) (fun _ => ?_) (fun c => absurd h c)
  exact kq_vret hx hb hr hlk hP hD hS dX4_setPace_21
set_option maxHeartbeats 4000000 in
set_option maxRecDepth 100000 in
theorem c_setPace_hi (u : tm_S) (w : UInt64) (h : ¬ Op.cmpValue (FP.dcmp w 4598175219545276416) .l < 0) (h2 : 0 < Op.cmpValue (FP.dcmp w 4616189618054758400) .g) : kc_M l dC dI gs ad cc yX4_setPace wsX4_setPace { frames := 0, cells := 0, slots := 0, locals := 0 } [.ref (ad 0), .double w] u u none := by
  refine kq_ofW (cc := cX4_setPace) (maxL := 3) (ret := none) (R0 := RX4) (by decide) rfl rfl (Nat.le_of_ble_eq_true rfl) ?_
  intro p e s m below meth c A ls hx hb hr hlk hml hown hts hP hK hD hA hG hS hl
  have hl : lv_has ls 3 [(0, .ref (ad 0)), (1, .double w)] := hl
  refine lv_dload_n hx hb dX4_setPace_0 rfl (lv_at hl 1 rfl) ?_
  refine lv_ldc2d hx hb hown (hts _ mb_588) dX4_setPace_1 ?_
  refine lv_dcmp hx hb dX4_setPace_4 ?_
  refine lv_if_lt (tgt := 21) hx hb dX4_setPace_5 (by decide) (fun c => absurd c h) (fun _ => ?_)
  refine lv_dload_n hx hb dX4_setPace_8 rfl (lv_at hl 1 rfl) ?_
  refine lv_ldc2d hx hb hown (hts _ mb_589) dX4_setPace_9 ?_
  refine lv_dcmp hx hb dX4_setPace_12 ?_
  refine lv_if_gt (tgt := 21) hx hb dX4_setPace_13 (by decide) (fun _ => ?_) (fun c => absurd h2 c)
  exact kq_vret hx hb hr hlk hP hD hS dX4_setPace_21
set_option maxHeartbeats 4000000 in
set_option maxRecDepth 100000 in
theorem c_setPace_in (u : tm_S) (w : UInt64) (h : ¬ Op.cmpValue (FP.dcmp w 4598175219545276416) .l < 0) (h2 : ¬ 0 < Op.cmpValue (FP.dcmp w 4616189618054758400) .g) : kc_M l dC dI gs ad cc yX4_setPace wsX4_setPace { frames := 0, cells := 0, slots := 0, locals := 0 } [.ref (ad 0), .double w] u (tm_D u 2 w) none := by
  refine kq_ofW (cc := cX4_setPace) (maxL := 3) (ret := none) (R0 := RX4) (by decide) rfl rfl (Nat.le_of_ble_eq_true rfl) ?_
  intro p e s m below meth c A ls hx hb hr hlk hml hown hts hP hK hD hA hG hS hl
  have hl : lv_has ls 3 [(0, .ref (ad 0)), (1, .double w)] := hl
  refine lv_dload_n hx hb dX4_setPace_0 rfl (lv_at hl 1 rfl) ?_
  refine lv_ldc2d hx hb hown (hts _ mb_588) dX4_setPace_1 ?_
  refine lv_dcmp hx hb dX4_setPace_4 ?_
  refine lv_if_lt (tgt := 21) hx hb dX4_setPace_5 (by decide) (fun c => absurd c h) (fun _ => ?_)
  refine lv_dload_n hx hb dX4_setPace_8 rfl (lv_at hl 1 rfl) ?_
  refine lv_ldc2d hx hb hown (hts _ mb_589) dX4_setPace_9 ?_
  refine lv_dcmp hx hb dX4_setPace_12 ?_
  refine lv_if_gt (tgt := 21) hx hb dX4_setPace_13 (by decide) (fun c => absurd c h2) (fun _ => ?_)
  refine lv_aload_n hx hb dX4_setPace_16 rfl (lv_at hl 0 rfl) ?_
  refine lv_dload_n hx hb dX4_setPace_17 rfl (lv_at hl 1 rfl) ?_
  refine tc_pT_pace hx hb hts inB_X4 hown hK hP hD hS (hts _ mb_159) dX4_setPace_18 (fun H locs hP hD hS => ?_)
  exact kq_vret hx hb hr hlk hP hD hS dX4_setPace_21
theorem c_setPace (u : tm_S) (w : UInt64) : kc_M l dC dI gs ad cc yX4_setPace wsX4_setPace { frames := 0, cells := 0, slots := 0, locals := 0 } [.ref (ad 0), .double w] u (tm_D u 2 (tm_pace (u.2.2 2) w)) none := by
  unfold tm_pace
  by_cases h : Op.cmpValue (FP.dcmp w 4598175219545276416) .l < 0
  · rw [if_pos h, tm_D_id]; exact c_setPace_lo u w h
  · rw [if_neg h]
    by_cases h2 : 0 < Op.cmpValue (FP.dcmp w 4616189618054758400) .g
    · rw [if_pos h2, tm_D_id]; exact c_setPace_hi u w h h2
    · rw [if_neg h2]; exact c_setPace_in u w h h2
set_option maxHeartbeats 4000000 in
set_option maxRecDepth 100000 in
theorem c_forgive (u0 : tm_S) (hm : tm_pn (u0.2.2 0)) (n0 : Nat) (hn : (u0.2.1 13 0).toNatClampNeg ≤ n0) : kc_M l dC dI gs ad cc yX4_forgiveGuesses wsX4_forgiveGuesses { frames := 0, cells := 0, slots := 0, locals := 0 } [.ref (ad 0)] u0 (tm_fg n0 u0) none := by
  refine kq_ofW (cc := cX4_forgiveGuesses) (maxL := 1) (ret := none) (R0 := RX4) (by decide) rfl rfl (Nat.le_of_ble_eq_true rfl) ?_
  intro p e s m below meth c A ls hx hb hr hlk hml hown hts hP hK hD hA hG hS hl
  have hl : lv_has ls 1 [(0, .ref (ad 0))] := hl
  have K : ∀ (n : Nat) (u : tm_S) (ls : Array Slot) (H : Heap) (locs : List Loc), tm_pn (u.2.2 0) → (u.2.1 13 0).toNatClampNeg ≤ n → tm_fg n u = tm_fg n0 u0 → va_P (dC, dI) vwCl (tc_w ad cc u) H → va_D A (tc_w ad cc u) → va_S A s.heap H locs → lv_has ls 1 [(0, .ref (ad 0))] → W p l e { frames := 0, cells := 0, slots := 0, locals := 0 } s m (([.ref (ad 0)] : List Value).toArray) below meth c H locs 0 0 (MQ below (fun _ => kq_Q (dC, dI) vwCl A (tc_w ad cc (tm_fg n0 u0)) none) (([.ref (ad 0)] : List Value).toArray) s 0 0 A) (F0 m 0 ls []) := by
    intro n
    induction n with
    | zero =>
      intro u ls H locs hm hn he hP hD hS hl
      have hle : u.2.1 13 0 ≤ 0 := tm_le0 (by omega)
      rw [← he]
      show W p l e { frames := 0, cells := 0, slots := 0, locals := 0 } s m (([.ref (ad 0)] : List Value).toArray) below meth c H locs 0 0 (MQ below (fun _ => kq_Q (dC, dI) vwCl A (tc_w ad cc u) none) (([.ref (ad 0)] : List Value).toArray) s 0 0 A) (F0 m 0 ls [])
      refine lv_aload_n hx hb dX4_forgiveGuesses_0 rfl (lv_at hl 0 rfl) ?_
      refine tc_gT_wrongGuesses hx hb hts inB_X4 hown hK hP (hts _ mb_156) dX4_forgiveGuesses_1 ?_
      refine lv_if_le (tgt := 48) hx hb dX4_forgiveGuesses_4 (by decide) (fun _ => ?_) (fun c => absurd hle c)
      exact kq_vret hx hb hr hlk hP hD hS dX4_forgiveGuesses_48
    | succ n ih =>
      intro u ls H locs hm hn he hP hD hS hl
      by_cases hle : u.2.1 13 0 ≤ 0
      · have he : u = tm_fg n0 u0 := by rw [← he]; simp only [tm_fg]; rw [if_pos hle]
        rw [← he]
        refine lv_aload_n hx hb dX4_forgiveGuesses_0 rfl (lv_at hl 0 rfl) ?_
        refine tc_gT_wrongGuesses hx hb hts inB_X4 hown hK hP (hts _ mb_156) dX4_forgiveGuesses_1 ?_
        refine lv_if_le (tgt := 48) hx hb dX4_forgiveGuesses_4 (by decide) (fun _ => ?_) (fun c => absurd hle c)
        exact kq_vret hx hb hr hlk hP hD hS dX4_forgiveGuesses_48
      · by_cases hc : Op.cmpValue (FP.dcmp (u.2.2 1) (FP.dadd (u.2.2 0) 4621819117588971520)) .l < 0
        · have he : u = tm_fg n0 u0 := by rw [← he]; simp only [tm_fg]; rw [if_neg hle, if_pos hc]
          rw [← he]
          refine lv_aload_n hx hb dX4_forgiveGuesses_0 rfl (lv_at hl 0 rfl) ?_
          refine tc_gT_wrongGuesses hx hb hts inB_X4 hown hK hP (hts _ mb_156) dX4_forgiveGuesses_1 ?_
          refine lv_if_le (tgt := 48) hx hb dX4_forgiveGuesses_4 (by decide) (fun c => absurd c hle) (fun _ => ?_)
          refine lv_aload_n hx hb dX4_forgiveGuesses_7 rfl (lv_at hl 0 rfl) ?_
          refine tc_gT_now hx hb hts inB_X4 hown hK hP (hts _ mb_158) dX4_forgiveGuesses_8 ?_
          refine lv_aload_n hx hb dX4_forgiveGuesses_11 rfl (lv_at hl 0 rfl) ?_
          refine tc_gT_mark hx hb hts inB_X4 hown hK hP (hts _ mb_157) dX4_forgiveGuesses_12 ?_
          refine lv_ldc2d hx hb hown (hts _ mb_582) dX4_forgiveGuesses_15 ?_
          refine lv_dadd hx hb dX4_forgiveGuesses_18 ((tm_dadd hm tm_p10).v) ?_
          refine lv_dcmp hx hb dX4_forgiveGuesses_19 ?_
          refine lv_if_lt (tgt := 48) hx hb dX4_forgiveGuesses_20 (by decide) (fun _ => ?_) (fun c => absurd hc c)
          exact kq_vret hx hb hr hlk hP hD hS dX4_forgiveGuesses_48
        · refine lv_aload_n hx hb dX4_forgiveGuesses_0 rfl (lv_at hl 0 rfl) ?_
          refine tc_gT_wrongGuesses hx hb hts inB_X4 hown hK hP (hts _ mb_156) dX4_forgiveGuesses_1 ?_
          refine lv_if_le (tgt := 48) hx hb dX4_forgiveGuesses_4 (by decide) (fun c => absurd c hle) (fun _ => ?_)
          refine lv_aload_n hx hb dX4_forgiveGuesses_7 rfl (lv_at hl 0 rfl) ?_
          refine tc_gT_now hx hb hts inB_X4 hown hK hP (hts _ mb_158) dX4_forgiveGuesses_8 ?_
          refine lv_aload_n hx hb dX4_forgiveGuesses_11 rfl (lv_at hl 0 rfl) ?_
          refine tc_gT_mark hx hb hts inB_X4 hown hK hP (hts _ mb_157) dX4_forgiveGuesses_12 ?_
          refine lv_ldc2d hx hb hown (hts _ mb_582) dX4_forgiveGuesses_15 ?_
          refine lv_dadd hx hb dX4_forgiveGuesses_18 ((tm_dadd hm tm_p10).v) ?_
          refine lv_dcmp hx hb dX4_forgiveGuesses_19 ?_
          refine lv_if_lt (tgt := 48) hx hb dX4_forgiveGuesses_20 (by decide) (fun c => absurd c hc) (fun _ => ?_)
          refine lv_aload_n hx hb dX4_forgiveGuesses_23 rfl (lv_at hl 0 rfl) ?_
          refine lv_dup hx hb dX4_forgiveGuesses_24 rfl ?_
          refine tc_gT_wrongGuesses hx hb hts inB_X4 hown hK hP (hts _ mb_156) dX4_forgiveGuesses_25 ?_
          refine lv_iconst (v := (nI 1)) hx hb dX4_forgiveGuesses_28 (by decide) ?_
          refine lv_isub hx hb dX4_forgiveGuesses_29 ?_
          refine tc_pT_wrongGuesses hx hb hts inB_X4 hown hK hP hD hS (hts _ mb_156) dX4_forgiveGuesses_30 (fun H locs hP hD hS => ?_)
          refine lv_aload_n hx hb dX4_forgiveGuesses_33 rfl (lv_at hl 0 rfl) ?_
          refine lv_aload_n hx hb dX4_forgiveGuesses_34 rfl (lv_at hl 0 rfl) ?_
          refine tc_gT_mark hx hb hts inB_X4 hown hK hP (hts _ mb_157) dX4_forgiveGuesses_35 ?_
          refine kq_td (y := (u.2.2 0)) (by simp [tm_L, tm_I, tm_D]) ?_
          refine lv_ldc2d hx hb hown (hts _ mb_582) dX4_forgiveGuesses_38 ?_
          refine lv_dadd hx hb dX4_forgiveGuesses_41 ((tm_dadd hm tm_p10).v) ?_
          refine tc_pT_mark hx hb hts inB_X4 hown hK hP hD hS (hts _ mb_157) dX4_forgiveGuesses_42 (fun H locs hP hD hS => ?_)
          refine lv_goto (tgt := 0) hx hb dX4_forgiveGuesses_45 (by decide) ?_
          exact ih _ ls H locs (by simpa [tm_D, tm_I] using tm_dadd hm tm_p10) (by simpa [tm_D, tm_I] using tm_dec1 hle hn) (by rw [← he]; simp only [tm_fg]; rw [if_neg hle, if_neg hc]) hP hD hS hl
  exact K n0 u0 ls s.heap [] hm hn rfl hP hD hS hl
set_option maxHeartbeats 4000000 in
set_option maxRecDepth 100000 in
theorem m_clock_b1 (hl9 : l.stackTraces = false) (u : tm_S) (x h9 : Int32) (h : x < nI 0 ∨ ¬ x ≤ nI 100) : kc_T l dC dI gs ad cc yX4_clock wsX4_clock { frames := 7, cells := 1, slots := 6, locals := 104 } [.ref (ad 0), .int x, .int h9] u u "java/lang/IllegalArgumentException" := by
  refine kq_ofT (cc := cX4_clock) (maxL := 3) (ret := (some .double)) (R0 := RX4) (by decide) rfl rfl (Nat.le_of_ble_eq_true rfl) ?_
  intro p e s m below meth c A ls hx hb hr hlk hml hown hts hP hK hD hA hG hS hl hEx
  have hl : lv_has ls 3 [(0, .ref (ad 0)), (1, .int x), (2, .int h9)] := hl
  refine lv_iload_n hx hb dX4_clock_0 rfl (lv_at hl 1 rfl) ?_
  refine lv_iconst (v := (nI 0)) hx hb dX4_clock_1 (by decide) ?_
  refine lv_bipush (v := (nI 100)) hx hb dX4_clock_2 (by decide) ?_
  exact kq_tS ⟨hx, hb, hml, hown, hts⟩ (c_refuseOutside_no hl9 u h) (va_cwS 3 hts gX4_58_X4_refuseOutside rfl rfl rfl (by decide +kernel) ⟨Nat.le_of_ble_eq_true rfl, Nat.le_of_ble_eq_true rfl⟩) tm_Gok hK hP hD hA hG hS rfl hl.1 rfl (Nat.le_of_ble_eq_true rfl) dX4_clock_4 ⟨Nat.le_of_ble_eq_true rfl, Nat.le_of_ble_eq_true rfl⟩ hlk hEx (Nat.le_of_ble_eq_true rfl) (Nat.le_of_ble_eq_true rfl)
set_option maxHeartbeats 4000000 in
set_option maxRecDepth 100000 in
theorem m_clock_b2 (hl9 : l.stackTraces = false) (u : tm_S) {k : Nat} (hk : k < 101) (x : Int32) (h : x < nI 0 ∨ ¬ x ≤ nI 2) : kc_T l dC dI gs ad cc yX4_clock wsX4_clock { frames := 7, cells := 1, slots := 6, locals := 104 } [.ref (ad 0), .int (nI k), .int x] u u "java/lang/IllegalArgumentException" := by
  refine kq_ofT (cc := cX4_clock) (maxL := 3) (ret := (some .double)) (R0 := RX4) (by decide) rfl rfl (Nat.le_of_ble_eq_true rfl) ?_
  intro p e s m below meth c A ls hx hb hr hlk hml hown hts hP hK hD hA hG hS hl hEx
  have hl : lv_has ls 3 [(0, .ref (ad 0)), (1, .int (nI k)), (2, .int x)] := hl
  refine lv_iload_n hx hb dX4_clock_0 rfl (lv_at hl 1 rfl) ?_
  refine lv_iconst (v := (nI 0)) hx hb dX4_clock_1 (by decide) ?_
  refine lv_bipush (v := (nI 100)) hx hb dX4_clock_2 (by decide) ?_
  refine kq_cS (st1 := []) ⟨hx, hb, hml, hown, hts⟩ (c_refuseOutside_ok u (nI k) (nI 0) (nI 100) (nI_nlt (Nat.zero_le k) (by omega)) (nI_le (show k ≤ 100 by omega) (by omega))) (va_cwS 3 hts gX4_58_X4_refuseOutside rfl rfl rfl (by decide +kernel) ⟨Nat.le_of_ble_eq_true rfl, Nat.le_of_ble_eq_true rfl⟩) tm_Gok hK hP hD hA hG hS rfl hl.1 rfl rfl (Nat.le_of_ble_eq_true rfl) dX4_clock_4 ⟨Nat.le_of_ble_eq_true rfl, Nat.le_of_ble_eq_true rfl⟩ (fun H locs hP hD hS => ?_)
  refine lv_iload_n hx hb dX4_clock_7 rfl (lv_at hl 2 rfl) ?_
  refine lv_iconst (v := (nI 0)) hx hb dX4_clock_8 (by decide) ?_
  refine lv_iconst (v := (nI 2)) hx hb dX4_clock_9 (by decide) ?_
  exact kq_tS ⟨hx, hb, hml, hown, hts⟩ (c_refuseOutside_no hl9 u h) (va_cwS 3 hts gX4_58_X4_refuseOutside rfl rfl rfl (by decide +kernel) ⟨Nat.le_of_ble_eq_true rfl, Nat.le_of_ble_eq_true rfl⟩) tm_Gok hK hP hD hA hG hS rfl hl.1 rfl (Nat.le_of_ble_eq_true rfl) dX4_clock_10 ⟨Nat.le_of_ble_eq_true rfl, Nat.le_of_ble_eq_true rfl⟩ hlk hEx (Nat.le_of_ble_eq_true rfl) (Nat.le_of_ble_eq_true rfl)
set_option maxHeartbeats 4000000 in
set_option maxRecDepth 100000 in
theorem m_clock_lo (hl9 : l.stackTraces = false) (u : tm_S) {k j : Nat} (hk : k < 101) (hj : j < 3) (hlo : ¬ u.2.1 11 0 = 0) : kc_T l dC dI gs ad cc yX4_clock wsX4_clock { frames := 7, cells := 1, slots := 6, locals := 104 } [.ref (ad 0), .int (nI k), .int (nI j)] u u "java/lang/IllegalStateException" := by
  refine kq_ofT (cc := cX4_clock) (maxL := 3) (ret := (some .double)) (R0 := RX4) (by decide) rfl rfl (Nat.le_of_ble_eq_true rfl) ?_
  intro p e s m below meth c A ls hx hb hr hlk hml hown hts hP hK hD hA hG hS hl hEx
  have hl : lv_has ls 3 [(0, .ref (ad 0)), (1, .int (nI k)), (2, .int (nI j))] := hl
  refine lv_iload_n hx hb dX4_clock_0 rfl (lv_at hl 1 rfl) ?_
  refine lv_iconst (v := (nI 0)) hx hb dX4_clock_1 (by decide) ?_
  refine lv_bipush (v := (nI 100)) hx hb dX4_clock_2 (by decide) ?_
  refine kq_cS (st1 := []) ⟨hx, hb, hml, hown, hts⟩ (c_refuseOutside_ok u (nI k) (nI 0) (nI 100) (nI_nlt (Nat.zero_le k) (by omega)) (nI_le (show k ≤ 100 by omega) (by omega))) (va_cwS 3 hts gX4_58_X4_refuseOutside rfl rfl rfl (by decide +kernel) ⟨Nat.le_of_ble_eq_true rfl, Nat.le_of_ble_eq_true rfl⟩) tm_Gok hK hP hD hA hG hS rfl hl.1 rfl rfl (Nat.le_of_ble_eq_true rfl) dX4_clock_4 ⟨Nat.le_of_ble_eq_true rfl, Nat.le_of_ble_eq_true rfl⟩ (fun H locs hP hD hS => ?_)
  refine lv_iload_n hx hb dX4_clock_7 rfl (lv_at hl 2 rfl) ?_
  refine lv_iconst (v := (nI 0)) hx hb dX4_clock_8 (by decide) ?_
  refine lv_iconst (v := (nI 2)) hx hb dX4_clock_9 (by decide) ?_
  refine kq_cS (st1 := []) ⟨hx, hb, hml, hown, hts⟩ (c_refuseOutside_ok u (nI j) (nI 0) (nI 2) (nI_nlt (Nat.zero_le j) (by omega)) (nI_le (show j ≤ 2 by omega) (by omega))) (va_cwS 3 hts gX4_58_X4_refuseOutside rfl rfl rfl (by decide +kernel) ⟨Nat.le_of_ble_eq_true rfl, Nat.le_of_ble_eq_true rfl⟩) tm_Gok hK hP hD hA hG hS rfl hl.1 rfl rfl (Nat.le_of_ble_eq_true rfl) dX4_clock_10 ⟨Nat.le_of_ble_eq_true rfl, Nat.le_of_ble_eq_true rfl⟩ (fun H locs hP hD hS => ?_)
  refine lv_aload_n hx hb dX4_clock_13 rfl (lv_at hl 0 rfl) ?_
  exact kq_tV ⟨hx, hb, hml, hown, hts⟩ (c_refuseWhenLost_no hl9 u hlo) (cwV 0 hts gX4_66_X4_refuseWhenLost rfl rfl rfl (by decide +kernel) ⟨Nat.le_of_ble_eq_true rfl, Nat.le_of_ble_eq_true rfl⟩) tm_Gok hK hP hD hA hG hS (va_recv hK hP (ci := 4) (q0 := 0) rfl (tm_at (i := 0) (by omega) rfl)) rfl hl.1 rfl (Nat.le_of_ble_eq_true rfl) dX4_clock_14 ⟨Nat.le_of_ble_eq_true rfl, Nat.le_of_ble_eq_true rfl⟩ hlk hEx (Nat.le_of_ble_eq_true rfl) (Nat.le_of_ble_eq_true rfl)
set_option maxHeartbeats 4000000 in
set_option maxRecDepth 100000 in
theorem m_clock_ok0 (u : tm_S) {k : Nat} (hk : k < 101) (hnl : u.2.1 11 0 = 0) (hr2 : tm_pf (u.2.2 2)) (hc : tm_pn (u.2.2 1)) (hm : tm_pn (u.2.2 0)) (n : Nat) (hn : (u.2.1 13 0).toNatClampNeg ≤ n) : kc_M l dC dI gs ad cc yX4_clock wsX4_clock { frames := 7, cells := 0, slots := 0, locals := 104 } [.ref (ad 0), .int (nI k), .int (nI 0)] u (tm_fg n (tm_D u 1 (FP.dadd (u.2.2 1) (FP.dmul (FP.i2d (nI k)) (u.2.2 2))))) (some (.double ((tm_fg n (tm_D u 1 (FP.dadd (u.2.2 1) (FP.dmul (FP.i2d (nI k)) (u.2.2 2))))).2.2 1))) := by
  refine kq_ofW (cc := cX4_clock) (maxL := 3) (ret := (some .double)) (R0 := RX4) (by decide) rfl rfl (Nat.le_of_ble_eq_true rfl) ?_
  intro p e s m below meth c A ls hx hb hr hlk hml hown hts hP hK hD hA hG hS hl
  have hl : lv_has ls 3 [(0, .ref (ad 0)), (1, .int (nI k)), (2, .int (nI 0))] := hl
  refine lv_iload_n hx hb dX4_clock_0 rfl (lv_at hl 1 rfl) ?_
  refine lv_iconst (v := (nI 0)) hx hb dX4_clock_1 (by decide) ?_
  refine lv_bipush (v := (nI 100)) hx hb dX4_clock_2 (by decide) ?_
  refine kq_cS (st1 := []) ⟨hx, hb, hml, hown, hts⟩ (c_refuseOutside_ok u (nI k) (nI 0) (nI 100) (nI_nlt (Nat.zero_le k) (by omega)) (nI_le (show k ≤ 100 by omega) (by omega))) (va_cwS 3 hts gX4_58_X4_refuseOutside rfl rfl rfl (by decide +kernel) ⟨Nat.le_of_ble_eq_true rfl, Nat.le_of_ble_eq_true rfl⟩) tm_Gok hK hP hD hA hG hS rfl hl.1 rfl rfl (Nat.le_of_ble_eq_true rfl) dX4_clock_4 ⟨Nat.le_of_ble_eq_true rfl, Nat.le_of_ble_eq_true rfl⟩ (fun H locs hP hD hS => ?_)
  refine lv_iload_n hx hb dX4_clock_7 rfl (lv_at hl 2 rfl) ?_
  refine lv_iconst (v := (nI 0)) hx hb dX4_clock_8 (by decide) ?_
  refine lv_iconst (v := (nI 2)) hx hb dX4_clock_9 (by decide) ?_
  refine kq_cS (st1 := []) ⟨hx, hb, hml, hown, hts⟩ (c_refuseOutside_ok u (nI 0) (nI 0) (nI 2) (by decide) (by decide)) (va_cwS 3 hts gX4_58_X4_refuseOutside rfl rfl rfl (by decide +kernel) ⟨Nat.le_of_ble_eq_true rfl, Nat.le_of_ble_eq_true rfl⟩) tm_Gok hK hP hD hA hG hS rfl hl.1 rfl rfl (Nat.le_of_ble_eq_true rfl) dX4_clock_10 ⟨Nat.le_of_ble_eq_true rfl, Nat.le_of_ble_eq_true rfl⟩ (fun H locs hP hD hS => ?_)
  refine lv_aload_n hx hb dX4_clock_13 rfl (lv_at hl 0 rfl) ?_
  refine kq_cV (st1 := []) ⟨hx, hb, hml, hown, hts⟩ (c_refuseWhenLost_ok u hnl) (cwV 0 hts gX4_66_X4_refuseWhenLost rfl rfl rfl (by decide +kernel) ⟨Nat.le_of_ble_eq_true rfl, Nat.le_of_ble_eq_true rfl⟩) tm_Gok hK hP hD hA hG hS (va_recv hK hP (ci := 4) (q0 := 0) rfl (tm_at (i := 0) (by omega) rfl)) rfl hl.1 rfl rfl (Nat.le_of_ble_eq_true rfl) dX4_clock_14 ⟨Nat.le_of_ble_eq_true rfl, Nat.le_of_ble_eq_true rfl⟩ (fun H locs hP hD hS => ?_)
  refine lv_aload_n hx hb dX4_clock_17 rfl (lv_at hl 0 rfl) ?_
  refine lv_aload_n hx hb dX4_clock_18 rfl (lv_at hl 0 rfl) ?_
  refine tc_gT_now hx hb hts inB_X4 hown hK hP (hts _ mb_158) dX4_clock_19 ?_
  refine lv_iload_n hx hb dX4_clock_22 rfl (lv_at hl 1 rfl) ?_
  refine lv_i2d hx hb dX4_clock_23 ?_
  refine lv_aload_n hx hb dX4_clock_24 rfl (lv_at hl 0 rfl) ?_
  refine tc_gT_pace hx hb hts inB_X4 hown hK hP (hts _ mb_159) dX4_clock_25 ?_
  refine lv_dmul hx hb dX4_clock_28 ((tm_dmul (tm_i2d k (by omega)) hr2).v) ?_
  refine lv_dadd hx hb dX4_clock_29 ((tm_dadd hc (tm_dmul (tm_i2d k (by omega)) hr2)).v) ?_
  refine tc_pT_now hx hb hts inB_X4 hown hK hP hD hS (hts _ mb_158) dX4_clock_30 (fun H locs hP hD hS => ?_)
  refine lv_aload_n hx hb dX4_clock_33 rfl (lv_at hl 0 rfl) ?_
  refine kq_cV (st1 := []) ⟨hx, hb, hml, hown, hts⟩ (c_forgive (tm_D u 1 (FP.dadd (u.2.2 1) (FP.dmul (FP.i2d (nI k)) (u.2.2 2)))) (by simpa [tm_D] using hm) n (by simpa [tm_D] using hn)) (cwV 0 hts gX4_205_X4_forgiveGuesses rfl rfl rfl (by decide +kernel) ⟨Nat.le_of_ble_eq_true rfl, Nat.le_of_ble_eq_true rfl⟩) tm_Gok hK hP hD hA hG hS (va_recv hK hP (ci := 4) (q0 := 0) rfl (tm_at (i := 0) (by omega) rfl)) rfl hl.1 rfl rfl (Nat.le_of_ble_eq_true rfl) dX4_clock_34 ⟨Nat.le_of_ble_eq_true rfl, Nat.le_of_ble_eq_true rfl⟩ (fun H locs hP hD hS => ?_)
  refine lv_iload_n hx hb dX4_clock_37 rfl (lv_at hl 2 rfl) ?_
  refine lv_iconst (v := (nI 1)) hx hb dX4_clock_38 (by decide) ?_
  refine lv_icmp_ne (tgt := 57) hx hb dX4_clock_39 (by decide) (fun _ => ?_) (fun c => absurd c (by decide))
  refine lv_iload_n hx hb dX4_clock_57 rfl (lv_at hl 2 rfl) ?_
  refine lv_iconst (v := (nI 2)) hx hb dX4_clock_58 (by decide) ?_
  refine lv_icmp_ne (tgt := 74) hx hb dX4_clock_59 (by decide) (fun _ => ?_) (fun c => absurd c (by decide))
  refine lv_aload_n hx hb dX4_clock_74 rfl (lv_at hl 0 rfl) ?_
  refine tc_gT_now hx hb hts inB_X4 hown hK hP (hts _ mb_158) dX4_clock_75 ?_
  exact kq_dret hx hb hr hlk hP hD hS dX4_clock_78
set_option maxHeartbeats 4000000 in
set_option maxRecDepth 100000 in
theorem m_clock_ok1 (u : tm_S) {k : Nat} (hk : k < 101) (hnl : u.2.1 11 0 = 0) (hr2 : tm_pf (u.2.2 2)) (hc : tm_pn (u.2.2 1)) (hm : tm_pn (u.2.2 0)) (n : Nat) (hn : (u.2.1 13 0).toNatClampNeg ≤ n) : kc_M l dC dI gs ad cc yX4_clock wsX4_clock { frames := 7, cells := 0, slots := 0, locals := 104 } [.ref (ad 0), .int (nI k), .int (nI 1)] u (tm_D (tm_fg n (tm_D u 1 (FP.dadd (u.2.2 1) (FP.dmul (FP.i2d (nI k)) (u.2.2 2))))) 2 (tm_pace ((tm_fg n (tm_D u 1 (FP.dadd (u.2.2 1) (FP.dmul (FP.i2d (nI k)) (u.2.2 2))))).2.2 2) (FP.dmul ((tm_fg n (tm_D u 1 (FP.dadd (u.2.2 1) (FP.dmul (FP.i2d (nI k)) (u.2.2 2))))).2.2 2) 4608308318706860032))) (some (.double ((tm_fg n (tm_D u 1 (FP.dadd (u.2.2 1) (FP.dmul (FP.i2d (nI k)) (u.2.2 2))))).2.2 1))) := by
  refine kq_ofW (cc := cX4_clock) (maxL := 3) (ret := (some .double)) (R0 := RX4) (by decide) rfl rfl (Nat.le_of_ble_eq_true rfl) ?_
  intro p e s m below meth c A ls hx hb hr hlk hml hown hts hP hK hD hA hG hS hl
  have hl : lv_has ls 3 [(0, .ref (ad 0)), (1, .int (nI k)), (2, .int (nI 1))] := hl
  refine lv_iload_n hx hb dX4_clock_0 rfl (lv_at hl 1 rfl) ?_
  refine lv_iconst (v := (nI 0)) hx hb dX4_clock_1 (by decide) ?_
  refine lv_bipush (v := (nI 100)) hx hb dX4_clock_2 (by decide) ?_
  refine kq_cS (st1 := []) ⟨hx, hb, hml, hown, hts⟩ (c_refuseOutside_ok u (nI k) (nI 0) (nI 100) (nI_nlt (Nat.zero_le k) (by omega)) (nI_le (show k ≤ 100 by omega) (by omega))) (va_cwS 3 hts gX4_58_X4_refuseOutside rfl rfl rfl (by decide +kernel) ⟨Nat.le_of_ble_eq_true rfl, Nat.le_of_ble_eq_true rfl⟩) tm_Gok hK hP hD hA hG hS rfl hl.1 rfl rfl (Nat.le_of_ble_eq_true rfl) dX4_clock_4 ⟨Nat.le_of_ble_eq_true rfl, Nat.le_of_ble_eq_true rfl⟩ (fun H locs hP hD hS => ?_)
  refine lv_iload_n hx hb dX4_clock_7 rfl (lv_at hl 2 rfl) ?_
  refine lv_iconst (v := (nI 0)) hx hb dX4_clock_8 (by decide) ?_
  refine lv_iconst (v := (nI 2)) hx hb dX4_clock_9 (by decide) ?_
  refine kq_cS (st1 := []) ⟨hx, hb, hml, hown, hts⟩ (c_refuseOutside_ok u (nI 1) (nI 0) (nI 2) (by decide) (by decide)) (va_cwS 3 hts gX4_58_X4_refuseOutside rfl rfl rfl (by decide +kernel) ⟨Nat.le_of_ble_eq_true rfl, Nat.le_of_ble_eq_true rfl⟩) tm_Gok hK hP hD hA hG hS rfl hl.1 rfl rfl (Nat.le_of_ble_eq_true rfl) dX4_clock_10 ⟨Nat.le_of_ble_eq_true rfl, Nat.le_of_ble_eq_true rfl⟩ (fun H locs hP hD hS => ?_)
  refine lv_aload_n hx hb dX4_clock_13 rfl (lv_at hl 0 rfl) ?_
  refine kq_cV (st1 := []) ⟨hx, hb, hml, hown, hts⟩ (c_refuseWhenLost_ok u hnl) (cwV 0 hts gX4_66_X4_refuseWhenLost rfl rfl rfl (by decide +kernel) ⟨Nat.le_of_ble_eq_true rfl, Nat.le_of_ble_eq_true rfl⟩) tm_Gok hK hP hD hA hG hS (va_recv hK hP (ci := 4) (q0 := 0) rfl (tm_at (i := 0) (by omega) rfl)) rfl hl.1 rfl rfl (Nat.le_of_ble_eq_true rfl) dX4_clock_14 ⟨Nat.le_of_ble_eq_true rfl, Nat.le_of_ble_eq_true rfl⟩ (fun H locs hP hD hS => ?_)
  refine lv_aload_n hx hb dX4_clock_17 rfl (lv_at hl 0 rfl) ?_
  refine lv_aload_n hx hb dX4_clock_18 rfl (lv_at hl 0 rfl) ?_
  refine tc_gT_now hx hb hts inB_X4 hown hK hP (hts _ mb_158) dX4_clock_19 ?_
  refine lv_iload_n hx hb dX4_clock_22 rfl (lv_at hl 1 rfl) ?_
  refine lv_i2d hx hb dX4_clock_23 ?_
  refine lv_aload_n hx hb dX4_clock_24 rfl (lv_at hl 0 rfl) ?_
  refine tc_gT_pace hx hb hts inB_X4 hown hK hP (hts _ mb_159) dX4_clock_25 ?_
  refine lv_dmul hx hb dX4_clock_28 ((tm_dmul (tm_i2d k (by omega)) hr2).v) ?_
  refine lv_dadd hx hb dX4_clock_29 ((tm_dadd hc (tm_dmul (tm_i2d k (by omega)) hr2)).v) ?_
  refine tc_pT_now hx hb hts inB_X4 hown hK hP hD hS (hts _ mb_158) dX4_clock_30 (fun H locs hP hD hS => ?_)
  refine lv_aload_n hx hb dX4_clock_33 rfl (lv_at hl 0 rfl) ?_
  refine kq_cV (st1 := []) ⟨hx, hb, hml, hown, hts⟩ (c_forgive (tm_D u 1 (FP.dadd (u.2.2 1) (FP.dmul (FP.i2d (nI k)) (u.2.2 2)))) (by simpa [tm_D] using hm) n (by simpa [tm_D] using hn)) (cwV 0 hts gX4_205_X4_forgiveGuesses rfl rfl rfl (by decide +kernel) ⟨Nat.le_of_ble_eq_true rfl, Nat.le_of_ble_eq_true rfl⟩) tm_Gok hK hP hD hA hG hS (va_recv hK hP (ci := 4) (q0 := 0) rfl (tm_at (i := 0) (by omega) rfl)) rfl hl.1 rfl rfl (Nat.le_of_ble_eq_true rfl) dX4_clock_34 ⟨Nat.le_of_ble_eq_true rfl, Nat.le_of_ble_eq_true rfl⟩ (fun H locs hP hD hS => ?_)
  refine lv_iload_n hx hb dX4_clock_37 rfl (lv_at hl 2 rfl) ?_
  refine lv_iconst (v := (nI 1)) hx hb dX4_clock_38 (by decide) ?_
  refine lv_icmp_ne (tgt := 57) hx hb dX4_clock_39 (by decide) (fun c => absurd (by decide) c) (fun _ => ?_)
  refine lv_aload_n hx hb dX4_clock_42 rfl (lv_at hl 0 rfl) ?_
  refine lv_aload_n hx hb dX4_clock_43 rfl (lv_at hl 0 rfl) ?_
  refine tc_gT_pace hx hb hts inB_X4 hown hK hP (hts _ mb_159) dX4_clock_44 ?_
  refine lv_ldc2d hx hb hown (hts _ mb_583) dX4_clock_47 ?_
  refine lv_dmul hx hb dX4_clock_50 ((tm_dmul (by rw [tm_fg_D _ _ _ (by decide)]; simpa [tm_D] using hr2) tm_f125).v) ?_
  refine kq_cV (st1 := []) ⟨hx, hb, hml, hown, hts⟩ (c_setPace (tm_fg n (tm_D u 1 (FP.dadd (u.2.2 1) (FP.dmul (FP.i2d (nI k)) (u.2.2 2))))) (FP.dmul ((tm_fg n (tm_D u 1 (FP.dadd (u.2.2 1) (FP.dmul (FP.i2d (nI k)) (u.2.2 2))))).2.2 2) 4608308318706860032)) (cwV 1 hts gX4_210_X4_setPace rfl rfl rfl (by decide +kernel) ⟨Nat.le_of_ble_eq_true rfl, Nat.le_of_ble_eq_true rfl⟩) tm_Gok hK hP hD hA hG hS (va_recv hK hP (ci := 4) (q0 := 0) rfl (tm_at (i := 0) (by omega) rfl)) rfl hl.1 rfl rfl (Nat.le_of_ble_eq_true rfl) dX4_clock_51 ⟨Nat.le_of_ble_eq_true rfl, Nat.le_of_ble_eq_true rfl⟩ (fun H locs hP hD hS => ?_)
  refine lv_goto (tgt := 74) hx hb dX4_clock_54 (by decide) ?_
  refine lv_aload_n hx hb dX4_clock_74 rfl (lv_at hl 0 rfl) ?_
  refine tc_gT_now hx hb hts inB_X4 hown hK hP (hts _ mb_158) dX4_clock_75 ?_
  refine kq_td (y := ((tm_fg n (tm_D u 1 (FP.dadd (u.2.2 1) (FP.dmul (FP.i2d (nI k)) (u.2.2 2))))).2.2 1)) (by simp [tm_L, tm_I, tm_D]) ?_
  exact kq_dret hx hb hr hlk hP hD hS dX4_clock_78
set_option maxHeartbeats 4000000 in
set_option maxRecDepth 100000 in
theorem m_clock_ok2 (u : tm_S) {k : Nat} (hk : k < 101) (hnl : u.2.1 11 0 = 0) (hr2 : tm_pf (u.2.2 2)) (hc : tm_pn (u.2.2 1)) (hm : tm_pn (u.2.2 0)) (n : Nat) (hn : (u.2.1 13 0).toNatClampNeg ≤ n) : kc_M l dC dI gs ad cc yX4_clock wsX4_clock { frames := 7, cells := 0, slots := 0, locals := 104 } [.ref (ad 0), .int (nI k), .int (nI 2)] u (tm_D (tm_fg n (tm_D u 1 (FP.dadd (u.2.2 1) (FP.dmul (FP.i2d (nI k)) (u.2.2 2))))) 2 (tm_pace ((tm_fg n (tm_D u 1 (FP.dadd (u.2.2 1) (FP.dmul (FP.i2d (nI k)) (u.2.2 2))))).2.2 2) (FP.dmul ((tm_fg n (tm_D u 1 (FP.dadd (u.2.2 1) (FP.dmul (FP.i2d (nI k)) (u.2.2 2))))).2.2 2) 4604930618986332160))) (some (.double ((tm_fg n (tm_D u 1 (FP.dadd (u.2.2 1) (FP.dmul (FP.i2d (nI k)) (u.2.2 2))))).2.2 1))) := by
  refine kq_ofW (cc := cX4_clock) (maxL := 3) (ret := (some .double)) (R0 := RX4) (by decide) rfl rfl (Nat.le_of_ble_eq_true rfl) ?_
  intro p e s m below meth c A ls hx hb hr hlk hml hown hts hP hK hD hA hG hS hl
  have hl : lv_has ls 3 [(0, .ref (ad 0)), (1, .int (nI k)), (2, .int (nI 2))] := hl
  refine lv_iload_n hx hb dX4_clock_0 rfl (lv_at hl 1 rfl) ?_
  refine lv_iconst (v := (nI 0)) hx hb dX4_clock_1 (by decide) ?_
  refine lv_bipush (v := (nI 100)) hx hb dX4_clock_2 (by decide) ?_
  refine kq_cS (st1 := []) ⟨hx, hb, hml, hown, hts⟩ (c_refuseOutside_ok u (nI k) (nI 0) (nI 100) (nI_nlt (Nat.zero_le k) (by omega)) (nI_le (show k ≤ 100 by omega) (by omega))) (va_cwS 3 hts gX4_58_X4_refuseOutside rfl rfl rfl (by decide +kernel) ⟨Nat.le_of_ble_eq_true rfl, Nat.le_of_ble_eq_true rfl⟩) tm_Gok hK hP hD hA hG hS rfl hl.1 rfl rfl (Nat.le_of_ble_eq_true rfl) dX4_clock_4 ⟨Nat.le_of_ble_eq_true rfl, Nat.le_of_ble_eq_true rfl⟩ (fun H locs hP hD hS => ?_)
  refine lv_iload_n hx hb dX4_clock_7 rfl (lv_at hl 2 rfl) ?_
  refine lv_iconst (v := (nI 0)) hx hb dX4_clock_8 (by decide) ?_
  refine lv_iconst (v := (nI 2)) hx hb dX4_clock_9 (by decide) ?_
  refine kq_cS (st1 := []) ⟨hx, hb, hml, hown, hts⟩ (c_refuseOutside_ok u (nI 2) (nI 0) (nI 2) (by decide) (by decide)) (va_cwS 3 hts gX4_58_X4_refuseOutside rfl rfl rfl (by decide +kernel) ⟨Nat.le_of_ble_eq_true rfl, Nat.le_of_ble_eq_true rfl⟩) tm_Gok hK hP hD hA hG hS rfl hl.1 rfl rfl (Nat.le_of_ble_eq_true rfl) dX4_clock_10 ⟨Nat.le_of_ble_eq_true rfl, Nat.le_of_ble_eq_true rfl⟩ (fun H locs hP hD hS => ?_)
  refine lv_aload_n hx hb dX4_clock_13 rfl (lv_at hl 0 rfl) ?_
  refine kq_cV (st1 := []) ⟨hx, hb, hml, hown, hts⟩ (c_refuseWhenLost_ok u hnl) (cwV 0 hts gX4_66_X4_refuseWhenLost rfl rfl rfl (by decide +kernel) ⟨Nat.le_of_ble_eq_true rfl, Nat.le_of_ble_eq_true rfl⟩) tm_Gok hK hP hD hA hG hS (va_recv hK hP (ci := 4) (q0 := 0) rfl (tm_at (i := 0) (by omega) rfl)) rfl hl.1 rfl rfl (Nat.le_of_ble_eq_true rfl) dX4_clock_14 ⟨Nat.le_of_ble_eq_true rfl, Nat.le_of_ble_eq_true rfl⟩ (fun H locs hP hD hS => ?_)
  refine lv_aload_n hx hb dX4_clock_17 rfl (lv_at hl 0 rfl) ?_
  refine lv_aload_n hx hb dX4_clock_18 rfl (lv_at hl 0 rfl) ?_
  refine tc_gT_now hx hb hts inB_X4 hown hK hP (hts _ mb_158) dX4_clock_19 ?_
  refine lv_iload_n hx hb dX4_clock_22 rfl (lv_at hl 1 rfl) ?_
  refine lv_i2d hx hb dX4_clock_23 ?_
  refine lv_aload_n hx hb dX4_clock_24 rfl (lv_at hl 0 rfl) ?_
  refine tc_gT_pace hx hb hts inB_X4 hown hK hP (hts _ mb_159) dX4_clock_25 ?_
  refine lv_dmul hx hb dX4_clock_28 ((tm_dmul (tm_i2d k (by omega)) hr2).v) ?_
  refine lv_dadd hx hb dX4_clock_29 ((tm_dadd hc (tm_dmul (tm_i2d k (by omega)) hr2)).v) ?_
  refine tc_pT_now hx hb hts inB_X4 hown hK hP hD hS (hts _ mb_158) dX4_clock_30 (fun H locs hP hD hS => ?_)
  refine lv_aload_n hx hb dX4_clock_33 rfl (lv_at hl 0 rfl) ?_
  refine kq_cV (st1 := []) ⟨hx, hb, hml, hown, hts⟩ (c_forgive (tm_D u 1 (FP.dadd (u.2.2 1) (FP.dmul (FP.i2d (nI k)) (u.2.2 2)))) (by simpa [tm_D] using hm) n (by simpa [tm_D] using hn)) (cwV 0 hts gX4_205_X4_forgiveGuesses rfl rfl rfl (by decide +kernel) ⟨Nat.le_of_ble_eq_true rfl, Nat.le_of_ble_eq_true rfl⟩) tm_Gok hK hP hD hA hG hS (va_recv hK hP (ci := 4) (q0 := 0) rfl (tm_at (i := 0) (by omega) rfl)) rfl hl.1 rfl rfl (Nat.le_of_ble_eq_true rfl) dX4_clock_34 ⟨Nat.le_of_ble_eq_true rfl, Nat.le_of_ble_eq_true rfl⟩ (fun H locs hP hD hS => ?_)
  refine lv_iload_n hx hb dX4_clock_37 rfl (lv_at hl 2 rfl) ?_
  refine lv_iconst (v := (nI 1)) hx hb dX4_clock_38 (by decide) ?_
  refine lv_icmp_ne (tgt := 57) hx hb dX4_clock_39 (by decide) (fun _ => ?_) (fun c => absurd c (by decide))
  refine lv_iload_n hx hb dX4_clock_57 rfl (lv_at hl 2 rfl) ?_
  refine lv_iconst (v := (nI 2)) hx hb dX4_clock_58 (by decide) ?_
  refine lv_icmp_ne (tgt := 74) hx hb dX4_clock_59 (by decide) (fun c => absurd (by decide) c) (fun _ => ?_)
  refine lv_aload_n hx hb dX4_clock_62 rfl (lv_at hl 0 rfl) ?_
  refine lv_aload_n hx hb dX4_clock_63 rfl (lv_at hl 0 rfl) ?_
  refine tc_gT_pace hx hb hts inB_X4 hown hK hP (hts _ mb_159) dX4_clock_64 ?_
  refine lv_ldc2d hx hb hown (hts _ mb_590) dX4_clock_67 ?_
  refine lv_dmul hx hb dX4_clock_70 ((tm_dmul (by rw [tm_fg_D _ _ _ (by decide)]; simpa [tm_D] using hr2) tm_f075).v) ?_
  refine kq_cV (st1 := []) ⟨hx, hb, hml, hown, hts⟩ (c_setPace (tm_fg n (tm_D u 1 (FP.dadd (u.2.2 1) (FP.dmul (FP.i2d (nI k)) (u.2.2 2))))) (FP.dmul ((tm_fg n (tm_D u 1 (FP.dadd (u.2.2 1) (FP.dmul (FP.i2d (nI k)) (u.2.2 2))))).2.2 2) 4604930618986332160)) (cwV 1 hts gX4_210_X4_setPace rfl rfl rfl (by decide +kernel) ⟨Nat.le_of_ble_eq_true rfl, Nat.le_of_ble_eq_true rfl⟩) tm_Gok hK hP hD hA hG hS (va_recv hK hP (ci := 4) (q0 := 0) rfl (tm_at (i := 0) (by omega) rfl)) rfl hl.1 rfl rfl (Nat.le_of_ble_eq_true rfl) dX4_clock_71 ⟨Nat.le_of_ble_eq_true rfl, Nat.le_of_ble_eq_true rfl⟩ (fun H locs hP hD hS => ?_)
  refine lv_aload_n hx hb dX4_clock_74 rfl (lv_at hl 0 rfl) ?_
  refine tc_gT_now hx hb hts inB_X4 hown hK hP (hts _ mb_158) dX4_clock_75 ?_
  refine kq_td (y := ((tm_fg n (tm_D u 1 (FP.dadd (u.2.2 1) (FP.dmul (FP.i2d (nI k)) (u.2.2 2))))).2.2 1)) (by simp [tm_L, tm_I, tm_D]) ?_
  exact kq_dret hx hb hr hlk hP hD hS dX4_clock_78
end S16
