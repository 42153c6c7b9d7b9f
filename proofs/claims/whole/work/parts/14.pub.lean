section S14
variable {l : Launch} {dC : Nat → ClassId} {dI : Nat → Nat → Nat} {gs : Nat → Nat} {ad : Nat → Nat} {cc : Nat → ClassId}
set_option maxHeartbeats 4000000 in
set_option maxRecDepth 100000 in
theorem m_power_bad (hl9 : l.stackTraces = false) (u : tm_S) (x : Int32) (h : x < (-1) ∨ ¬ x ≤ nI 100) : kc_T l dC dI gs ad cc yX4_power wsX4_power { frames := 7, cells := 1, slots := 6, locals := 104 } [.ref (ad 0), .int x] u u "java/lang/IllegalArgumentException" := by
  refine kq_ofT (cc := cX4_power) (maxL := 2) (ret := none) (R0 := RX4) (by decide) rfl rfl (Nat.le_of_ble_eq_true rfl) ?_
  intro p e s m below meth c A ls hx hb hr hlk hml hown hts hP hK hD hA hG hS hl hEx
  have hl : lv_has ls 2 [(0, .ref (ad 0)), (1, .int x)] := hl
  refine lv_iload_n hx hb dX4_power_0 rfl (lv_at hl 1 rfl) ?_
  refine lv_iconst (v := (-1)) hx hb dX4_power_1 (by decide) ?_
  refine lv_bipush (v := (nI 100)) hx hb dX4_power_2 (by decide) ?_
  exact kq_tS ⟨hx, hb, hml, hown, hts⟩ (c_refuseOutside_no hl9 u h) (va_cwS 3 hts gX4_58_X4_refuseOutside rfl rfl rfl (by decide +kernel) ⟨Nat.le_of_ble_eq_true rfl, Nat.le_of_ble_eq_true rfl⟩) tm_Gok hK hP hD hA hG hS rfl hl.1 rfl (Nat.le_of_ble_eq_true rfl) dX4_power_4 ⟨Nat.le_of_ble_eq_true rfl, Nat.le_of_ble_eq_true rfl⟩ hlk hEx (Nat.le_of_ble_eq_true rfl) (Nat.le_of_ble_eq_true rfl)
set_option maxHeartbeats 4000000 in
set_option maxRecDepth 100000 in
theorem m_power_ok (u : tm_S) (x : Int32) (h1 : ¬ x < (-1)) (h2 : x ≤ nI 100) : kc_M l dC dI gs ad cc yX4_power wsX4_power { frames := 7, cells := 0, slots := 0, locals := 104 } [.ref (ad 0), .int x] u (tm_D (tm_L (tm_I (tm_I (tm_L (tm_I (tm_I (tm_L (tm_I (tm_I (tm_L (tm_I (tm_I (tm_I (tm_I (tm_I (tm_L (tm_L (tm_L (tm_L (tm_L (tm_L (tm_L (tm_L (tm_L (tm_L (tm_L (tm_L (tm_L (tm_L (tm_L (tm_L (tm_I (tm_I u 10 0 x) 11 0 (nI 0)) 1 (8 * 0 + 0) 0) 1 (8 * 0 + 1) 0) 1 (8 * 0 + 2) 0) 1 (8 * 0 + 3) 0) 1 (8 * 0 + 4) 0) 1 (8 * 0 + 5) 0) 1 (8 * 0 + 6) 0) 1 (8 * 0 + 7) 0) 1 (8 * 1 + 0) 0) 1 (8 * 1 + 1) 0) 1 (8 * 1 + 2) 0) 1 (8 * 1 + 3) 0) 1 (8 * 1 + 4) 0) 1 (8 * 1 + 5) 0) 1 (8 * 1 + 6) 0) 1 (8 * 1 + 7) 0) 9 0 (nI 0)) 0 0 (nI 0)) 0 1 (nI 0)) 0 2 (nI 0)) 0 3 (nI 0)) 6 0 0) 4 0 (nI 0)) 5 0 (nI 0)) 6 1 0) 4 1 (nI 0)) 5 1 (nI 0)) 6 2 0) 4 2 (nI 0)) 5 2 (nI 0)) 0 2 (tm_h (u.1 0 2) 5)) 0 (u.2.2 1)) none := by
  refine kq_ofW (cc := cX4_power) (maxL := 2) (ret := none) (R0 := RX4) (by decide) rfl rfl (Nat.le_of_ble_eq_true rfl) ?_
  intro p e s m below meth c A ls hx hb hr hlk hml hown hts hP hK hD hA hG hS hl
  have hl : lv_has ls 2 [(0, .ref (ad 0)), (1, .int x)] := hl
  refine lv_iload_n hx hb dX4_power_0 rfl (lv_at hl 1 rfl) ?_
  refine lv_iconst (v := (-1)) hx hb dX4_power_1 (by decide) ?_
  refine lv_bipush (v := (nI 100)) hx hb dX4_power_2 (by decide) ?_
  refine kq_cS (st1 := []) ⟨hx, hb, hml, hown, hts⟩ (c_refuseOutside_ok u x (-1) (nI 100) h1 h2) (va_cwS 3 hts gX4_58_X4_refuseOutside rfl rfl rfl (by decide +kernel) ⟨Nat.le_of_ble_eq_true rfl, Nat.le_of_ble_eq_true rfl⟩) tm_Gok hK hP hD hA hG hS rfl hl.1 rfl rfl (Nat.le_of_ble_eq_true rfl) dX4_power_4 ⟨Nat.le_of_ble_eq_true rfl, Nat.le_of_ble_eq_true rfl⟩ (fun H locs hP hD hS => ?_)
  refine lv_aload_n hx hb dX4_power_7 rfl (lv_at hl 0 rfl) ?_
  refine lv_iload_n hx hb dX4_power_8 rfl (lv_at hl 1 rfl) ?_
  refine kq_cV (st1 := []) ⟨hx, hb, hml, hown, hts⟩ (c_powerComes u x) (cwV 1 hts gX4_54_X4_powerComes rfl rfl rfl (by decide +kernel) ⟨Nat.le_of_ble_eq_true rfl, Nat.le_of_ble_eq_true rfl⟩) tm_Gok hK hP hD hA hG hS (va_recv hK hP (ci := 4) (q0 := 0) rfl (tm_at (i := 0) (by omega) rfl)) rfl hl.1 rfl rfl (Nat.le_of_ble_eq_true rfl) dX4_power_9 ⟨Nat.le_of_ble_eq_true rfl, Nat.le_of_ble_eq_true rfl⟩ (fun H locs hP hD hS => ?_)
  exact kq_vret hx hb hr hlk hP hD hS dX4_power_12
set_option maxHeartbeats 4000000 in
set_option maxRecDepth 100000 in
theorem m_extend_b1 (hl9 : l.stackTraces = false) (u : tm_S) (x : Int32) (h : x < 0 ∨ nI 2 ≤ x) (i : Int32) (v : Int64) : kc_T l dC dI gs ad cc yX4_extend wsX4_extend { frames := 8, cells := 1, slots := 6, locals := 125 } [.ref (ad 0), .int x, .int i, .long v] u u "java/lang/IllegalArgumentException" := by
  refine kq_ofT (cc := cX4_extend) (maxL := 5) (ret := (some .long)) (R0 := RX4) (by decide) rfl rfl (Nat.le_of_ble_eq_true rfl) ?_
  intro p e s m below meth c A ls hx hb hr hlk hml hown hts hP hK hD hA hG hS hl hEx
  have hl : lv_has ls 5 [(0, .ref (ad 0)), (1, .int x), (2, .int i), (3, .long v)] := hl
  refine lv_iload_n hx hb dX4_extend_0 rfl (lv_at hl 1 rfl) ?_
  refine lv_iconst (v := (nI 2)) hx hb dX4_extend_1 (by decide) ?_
  exact kq_tS ⟨hx, hb, hml, hown, hts⟩ (c_refuseUnlessBelow_no hl9 u h (by omega) (by omega)) (va_cwS 2 hts gX4_62_X4_refuseUnlessBelow rfl rfl rfl (by decide +kernel) ⟨Nat.le_of_ble_eq_true rfl, Nat.le_of_ble_eq_true rfl⟩) tm_Gok hK hP hD hA hG hS rfl hl.1 rfl (Nat.le_of_ble_eq_true rfl) dX4_extend_2 ⟨Nat.le_of_ble_eq_true rfl, Nat.le_of_ble_eq_true rfl⟩ hlk hEx (Nat.le_of_ble_eq_true rfl) (Nat.le_of_ble_eq_true rfl)
set_option maxHeartbeats 4000000 in
set_option maxRecDepth 100000 in
theorem m_extend_b2 (hl9 : l.stackTraces = false) (u : tm_S) {j : Nat} (hj : j < 2) (x : Int32) (h : x < 0 ∨ nI 8 ≤ x) (v : Int64) : kc_T l dC dI gs ad cc yX4_extend wsX4_extend { frames := 8, cells := 1, slots := 6, locals := 125 } [.ref (ad 0), .int (nI j), .int x, .long v] u u "java/lang/IllegalArgumentException" := by
  refine kq_ofT (cc := cX4_extend) (maxL := 5) (ret := (some .long)) (R0 := RX4) (by decide) rfl rfl (Nat.le_of_ble_eq_true rfl) ?_
  intro p e s m below meth c A ls hx hb hr hlk hml hown hts hP hK hD hA hG hS hl hEx
  have hl : lv_has ls 5 [(0, .ref (ad 0)), (1, .int (nI j)), (2, .int x), (3, .long v)] := hl
  refine lv_iload_n hx hb dX4_extend_0 rfl (lv_at hl 1 rfl) ?_
  refine lv_iconst (v := (nI 2)) hx hb dX4_extend_1 (by decide) ?_
  refine kq_cS (st1 := []) ⟨hx, hb, hml, hown, hts⟩ (c_refuseUnlessBelow_ok u (by omega) (by omega)) (va_cwS 2 hts gX4_62_X4_refuseUnlessBelow rfl rfl rfl (by decide +kernel) ⟨Nat.le_of_ble_eq_true rfl, Nat.le_of_ble_eq_true rfl⟩) tm_Gok hK hP hD hA hG hS rfl hl.1 rfl rfl (Nat.le_of_ble_eq_true rfl) dX4_extend_2 ⟨Nat.le_of_ble_eq_true rfl, Nat.le_of_ble_eq_true rfl⟩ (fun H locs hP hD hS => ?_)
  refine lv_iload_n hx hb dX4_extend_5 rfl (lv_at hl 2 rfl) ?_
  refine lv_bipush (v := (nI 8)) hx hb dX4_extend_6 (by decide) ?_
  exact kq_tS ⟨hx, hb, hml, hown, hts⟩ (c_refuseUnlessBelow_no hl9 u h (by omega) (by omega)) (va_cwS 2 hts gX4_62_X4_refuseUnlessBelow rfl rfl rfl (by decide +kernel) ⟨Nat.le_of_ble_eq_true rfl, Nat.le_of_ble_eq_true rfl⟩) tm_Gok hK hP hD hA hG hS rfl hl.1 rfl (Nat.le_of_ble_eq_true rfl) dX4_extend_8 ⟨Nat.le_of_ble_eq_true rfl, Nat.le_of_ble_eq_true rfl⟩ hlk hEx (Nat.le_of_ble_eq_true rfl) (Nat.le_of_ble_eq_true rfl)
set_option maxHeartbeats 4000000 in
set_option maxRecDepth 100000 in
theorem m_extend_lo (hl9 : l.stackTraces = false) (u : tm_S) {j i : Nat} (hj : j < 2) (hi : i < 8) (v : Int64) (hlo : ¬ u.2.1 11 0 = 0)  : kc_T l dC dI gs ad cc yX4_extend wsX4_extend { frames := 8, cells := 1, slots := 6, locals := 125 } [.ref (ad 0), .int (nI j), .int (nI i), .long v] u u "java/lang/IllegalStateException" := by
  refine kq_ofT (cc := cX4_extend) (maxL := 5) (ret := (some .long)) (R0 := RX4) (by decide) rfl rfl (Nat.le_of_ble_eq_true rfl) ?_
  intro p e s m below meth c A ls hx hb hr hlk hml hown hts hP hK hD hA hG hS hl hEx
  have hl : lv_has ls 5 [(0, .ref (ad 0)), (1, .int (nI j)), (2, .int (nI i)), (3, .long v)] := hl
  refine lv_iload_n hx hb dX4_extend_0 rfl (lv_at hl 1 rfl) ?_
  refine lv_iconst (v := (nI 2)) hx hb dX4_extend_1 (by decide) ?_
  refine kq_cS (st1 := []) ⟨hx, hb, hml, hown, hts⟩ (c_refuseUnlessBelow_ok u (by omega) (by omega)) (va_cwS 2 hts gX4_62_X4_refuseUnlessBelow rfl rfl rfl (by decide +kernel) ⟨Nat.le_of_ble_eq_true rfl, Nat.le_of_ble_eq_true rfl⟩) tm_Gok hK hP hD hA hG hS rfl hl.1 rfl rfl (Nat.le_of_ble_eq_true rfl) dX4_extend_2 ⟨Nat.le_of_ble_eq_true rfl, Nat.le_of_ble_eq_true rfl⟩ (fun H locs hP hD hS => ?_)
  refine lv_iload_n hx hb dX4_extend_5 rfl (lv_at hl 2 rfl) ?_
  refine lv_bipush (v := (nI 8)) hx hb dX4_extend_6 (by decide) ?_
  refine kq_cS (st1 := []) ⟨hx, hb, hml, hown, hts⟩ (c_refuseUnlessBelow_ok u (by omega) (by omega)) (va_cwS 2 hts gX4_62_X4_refuseUnlessBelow rfl rfl rfl (by decide +kernel) ⟨Nat.le_of_ble_eq_true rfl, Nat.le_of_ble_eq_true rfl⟩) tm_Gok hK hP hD hA hG hS rfl hl.1 rfl rfl (Nat.le_of_ble_eq_true rfl) dX4_extend_8 ⟨Nat.le_of_ble_eq_true rfl, Nat.le_of_ble_eq_true rfl⟩ (fun H locs hP hD hS => ?_)
  refine lv_aload_n hx hb dX4_extend_11 rfl (lv_at hl 0 rfl) ?_
  exact kq_tV ⟨hx, hb, hml, hown, hts⟩ (c_refuseWhenLost_no hl9 u hlo) (cwV 0 hts gX4_66_X4_refuseWhenLost rfl rfl rfl (by decide +kernel) ⟨Nat.le_of_ble_eq_true rfl, Nat.le_of_ble_eq_true rfl⟩) tm_Gok hK hP hD hA hG hS (va_recv hK hP (ci := 4) (q0 := 0) rfl (tm_at (i := 0) (by omega) rfl)) rfl hl.1 rfl (Nat.le_of_ble_eq_true rfl) dX4_extend_12 ⟨Nat.le_of_ble_eq_true rfl, Nat.le_of_ble_eq_true rfl⟩ hlk hEx (Nat.le_of_ble_eq_true rfl) (Nat.le_of_ble_eq_true rfl)
set_option maxHeartbeats 4000000 in
set_option maxRecDepth 100000 in
theorem m_extend_ok (u : tm_S) {j i : Nat} (hj : j < 2) (hi : i < 8) (v : Int64) (hnl : u.2.1 11 0 = 0)  : kc_M l dC dI gs ad cc yX4_extend wsX4_extend { frames := 8, cells := 0, slots := 0, locals := 125 } [.ref (ad 0), .int (nI j), .int (nI i), .long v] u (tm_I (tm_L u 1 (8 * j + i) (tm_h (u.1 1 (8 * j + i)) v)) 9 0 ((u.2.1 9 0) + (nI 1))) (some (.long (tm_h (u.1 1 (8 * j + i)) v))) := by
  refine kq_ofW (cc := cX4_extend) (maxL := 5) (ret := (some .long)) (R0 := RX4) (by decide) rfl rfl (Nat.le_of_ble_eq_true rfl) ?_
  intro p e s m below meth c A ls hx hb hr hlk hml hown hts hP hK hD hA hG hS hl
  have hl : lv_has ls 5 [(0, .ref (ad 0)), (1, .int (nI j)), (2, .int (nI i)), (3, .long v)] := hl
  refine lv_iload_n hx hb dX4_extend_0 rfl (lv_at hl 1 rfl) ?_
  refine lv_iconst (v := (nI 2)) hx hb dX4_extend_1 (by decide) ?_
  refine kq_cS (st1 := []) ⟨hx, hb, hml, hown, hts⟩ (c_refuseUnlessBelow_ok u (by omega) (by omega)) (va_cwS 2 hts gX4_62_X4_refuseUnlessBelow rfl rfl rfl (by decide +kernel) ⟨Nat.le_of_ble_eq_true rfl, Nat.le_of_ble_eq_true rfl⟩) tm_Gok hK hP hD hA hG hS rfl hl.1 rfl rfl (Nat.le_of_ble_eq_true rfl) dX4_extend_2 ⟨Nat.le_of_ble_eq_true rfl, Nat.le_of_ble_eq_true rfl⟩ (fun H locs hP hD hS => ?_)
  refine lv_iload_n hx hb dX4_extend_5 rfl (lv_at hl 2 rfl) ?_
  refine lv_bipush (v := (nI 8)) hx hb dX4_extend_6 (by decide) ?_
  refine kq_cS (st1 := []) ⟨hx, hb, hml, hown, hts⟩ (c_refuseUnlessBelow_ok u (by omega) (by omega)) (va_cwS 2 hts gX4_62_X4_refuseUnlessBelow rfl rfl rfl (by decide +kernel) ⟨Nat.le_of_ble_eq_true rfl, Nat.le_of_ble_eq_true rfl⟩) tm_Gok hK hP hD hA hG hS rfl hl.1 rfl rfl (Nat.le_of_ble_eq_true rfl) dX4_extend_8 ⟨Nat.le_of_ble_eq_true rfl, Nat.le_of_ble_eq_true rfl⟩ (fun H locs hP hD hS => ?_)
  refine lv_aload_n hx hb dX4_extend_11 rfl (lv_at hl 0 rfl) ?_
  refine kq_cV (st1 := []) ⟨hx, hb, hml, hown, hts⟩ (c_refuseWhenLost_ok u hnl) (cwV 0 hts gX4_66_X4_refuseWhenLost rfl rfl rfl (by decide +kernel) ⟨Nat.le_of_ble_eq_true rfl, Nat.le_of_ble_eq_true rfl⟩) tm_Gok hK hP hD hA hG hS (va_recv hK hP (ci := 4) (q0 := 0) rfl (tm_at (i := 0) (by omega) rfl)) rfl hl.1 rfl rfl (Nat.le_of_ble_eq_true rfl) dX4_extend_12 ⟨Nat.le_of_ble_eq_true rfl, Nat.le_of_ble_eq_true rfl⟩ (fun H locs hP hD hS => ?_)
  refine lv_aload_n hx hb dX4_extend_15 rfl (lv_at hl 0 rfl) ?_
  refine tc_gT_pcrs hx hb hts inB_X4 hown hK hP (hts _ mb_146) dX4_extend_16 ?_
  refine lv_iload_n hx hb dX4_extend_19 rfl (lv_at hl 1 rfl) ?_
  refine tc_a_pcrs hx hb hK hP (by omega) dX4_extend_20 ?_
  refine lv_iload_n hx hb dX4_extend_21 rfl (lv_at hl 2 rfl) ?_
  refine lv_aload_n hx hb dX4_extend_22 rfl (lv_at hl 0 rfl) ?_
  refine tc_gT_pcrs hx hb hts inB_X4 hown hK hP (hts _ mb_146) dX4_extend_23 ?_
  refine lv_iload_n hx hb dX4_extend_26 rfl (lv_at hl 1 rfl) ?_
  refine tc_a_pcrs hx hb hK hP (by omega) dX4_extend_27 ?_
  refine lv_iload_n hx hb dX4_extend_28 rfl (lv_at hl 2 rfl) ?_
  refine tc_l_pcr hx hb hK hP (by omega) (by omega) dX4_extend_29 ?_
  refine lv_lload_n hx hb dX4_extend_30 rfl (lv_at hl 3 rfl) ?_
  refine kq_cS (st1 := [.long (tm_h (u.1 1 (8 * j + i)) v), .int (nI i), .ref (ad (j + 7))]) ⟨hx, hb, hml, hown, hts⟩ (c_hash u (u.1 1 (8 * j + i)) v) (va_cwS 2 hts gX4_42_X4_hash rfl rfl rfl (by decide +kernel) ⟨Nat.le_of_ble_eq_true rfl, Nat.le_of_ble_eq_true rfl⟩) tm_Gok hK hP hD hA hG hS rfl hl.1 rfl rfl (Nat.le_of_ble_eq_true rfl) dX4_extend_31 ⟨Nat.le_of_ble_eq_true rfl, Nat.le_of_ble_eq_true rfl⟩ (fun H locs hP hD hS => ?_)
  refine tc_t_pcr hx hb hK hP hD hS (by omega) (by omega) dX4_extend_34 (fun H locs hP hD hS => ?_)
  refine lv_aload_n hx hb dX4_extend_35 rfl (lv_at hl 0 rfl) ?_
  refine lv_dup hx hb dX4_extend_36 rfl ?_
  refine tc_gT_pcrCount hx hb hts inB_X4 hown hK hP (hts _ mb_151) dX4_extend_37 ?_
  refine kq_ti (y := (u.2.1 9 0)) (by simp [tm_L, tm_I, tm_D]) ?_
  refine lv_iconst (v := (nI 1)) hx hb dX4_extend_40 (by decide) ?_
  refine lv_iadd hx hb dX4_extend_41 ?_
  refine tc_pT_pcrCount hx hb hts inB_X4 hown hK hP hD hS (hts _ mb_151) dX4_extend_42 (fun H locs hP hD hS => ?_)
  refine lv_aload_n hx hb dX4_extend_45 rfl (lv_at hl 0 rfl) ?_
  refine tc_gT_pcrs hx hb hts inB_X4 hown hK hP (hts _ mb_146) dX4_extend_46 ?_
  refine lv_iload_n hx hb dX4_extend_49 rfl (lv_at hl 1 rfl) ?_
  refine tc_a_pcrs hx hb hK hP (by omega) dX4_extend_50 ?_
  refine lv_iload_n hx hb dX4_extend_51 rfl (lv_at hl 2 rfl) ?_
  refine tc_l_pcr hx hb hK hP (by omega) (by omega) dX4_extend_52 ?_
  refine kq_tl (y := (tm_h (u.1 1 (8 * j + i)) v)) (by simp [tm_L, tm_I, tm_D]) ?_
  exact kq_lret hx hb hr hlk hP hD hS dX4_extend_53
set_option maxHeartbeats 4000000 in
set_option maxRecDepth 100000 in
theorem m_primary_b1 (hl9 : l.stackTraces = false) (u : tm_S) (x : Int32) (h : x < 0 ∨ nI 3 ≤ x) (v : Int64) : kc_T l dC dI gs ad cc yX4_primary wsX4_primary { frames := 8, cells := 1, slots := 6, locals := 125 } [.ref (ad 0), .int x, .long v] u u "java/lang/IllegalArgumentException" := by
  refine kq_ofT (cc := cX4_primary) (maxL := 5) (ret := (some .int)) (R0 := RX4) (by decide) rfl rfl (Nat.le_of_ble_eq_true rfl) ?_
  intro p e s m below meth c A ls hx hb hr hlk hml hown hts hP hK hD hA hG hS hl hEx
  have hl : lv_has ls 5 [(0, .ref (ad 0)), (1, .int x), (2, .long v)] := hl
  refine lv_iload_n hx hb dX4_primary_0 rfl (lv_at hl 1 rfl) ?_
  refine lv_iconst (v := (nI 3)) hx hb dX4_primary_1 (by decide) ?_
  exact kq_tS ⟨hx, hb, hml, hown, hts⟩ (c_refuseUnlessBelow_no hl9 u h (by omega) (by omega)) (va_cwS 2 hts gX4_62_X4_refuseUnlessBelow rfl rfl rfl (by decide +kernel) ⟨Nat.le_of_ble_eq_true rfl, Nat.le_of_ble_eq_true rfl⟩) tm_Gok hK hP hD hA hG hS rfl hl.1 rfl (Nat.le_of_ble_eq_true rfl) dX4_primary_2 ⟨Nat.le_of_ble_eq_true rfl, Nat.le_of_ble_eq_true rfl⟩ hlk hEx (Nat.le_of_ble_eq_true rfl) (Nat.le_of_ble_eq_true rfl)
set_option maxHeartbeats 4000000 in
set_option maxRecDepth 100000 in
theorem m_primary_lo (hl9 : l.stackTraces = false) (u : tm_S) {j : Nat} (hj : j < 3) (v : Int64) (hlo : ¬ u.2.1 11 0 = 0)  : kc_T l dC dI gs ad cc yX4_primary wsX4_primary { frames := 8, cells := 1, slots := 6, locals := 125 } [.ref (ad 0), .int (nI j), .long v] u u "java/lang/IllegalStateException" := by
  refine kq_ofT (cc := cX4_primary) (maxL := 5) (ret := (some .int)) (R0 := RX4) (by decide) rfl rfl (Nat.le_of_ble_eq_true rfl) ?_
  intro p e s m below meth c A ls hx hb hr hlk hml hown hts hP hK hD hA hG hS hl hEx
  have hl : lv_has ls 5 [(0, .ref (ad 0)), (1, .int (nI j)), (2, .long v)] := hl
  refine lv_iload_n hx hb dX4_primary_0 rfl (lv_at hl 1 rfl) ?_
  refine lv_iconst (v := (nI 3)) hx hb dX4_primary_1 (by decide) ?_
  refine kq_cS (st1 := []) ⟨hx, hb, hml, hown, hts⟩ (c_refuseUnlessBelow_ok u (by omega) (by omega)) (va_cwS 2 hts gX4_62_X4_refuseUnlessBelow rfl rfl rfl (by decide +kernel) ⟨Nat.le_of_ble_eq_true rfl, Nat.le_of_ble_eq_true rfl⟩) tm_Gok hK hP hD hA hG hS rfl hl.1 rfl rfl (Nat.le_of_ble_eq_true rfl) dX4_primary_2 ⟨Nat.le_of_ble_eq_true rfl, Nat.le_of_ble_eq_true rfl⟩ (fun H locs hP hD hS => ?_)
  refine lv_aload_n hx hb dX4_primary_5 rfl (lv_at hl 0 rfl) ?_
  exact kq_tV ⟨hx, hb, hml, hown, hts⟩ (c_refuseWhenLost_no hl9 u hlo) (cwV 0 hts gX4_66_X4_refuseWhenLost rfl rfl rfl (by decide +kernel) ⟨Nat.le_of_ble_eq_true rfl, Nat.le_of_ble_eq_true rfl⟩) tm_Gok hK hP hD hA hG hS (va_recv hK hP (ci := 4) (q0 := 0) rfl (tm_at (i := 0) (by omega) rfl)) rfl hl.1 rfl (Nat.le_of_ble_eq_true rfl) dX4_primary_6 ⟨Nat.le_of_ble_eq_true rfl, Nat.le_of_ble_eq_true rfl⟩ hlk hEx (Nat.le_of_ble_eq_true rfl) (Nat.le_of_ble_eq_true rfl)
set_option maxHeartbeats 4000000 in
set_option maxRecDepth 100000 in
theorem m_primary_full (hl9 : l.stackTraces = false) (u : tm_S) {j : Nat} (hj : j < 3) (v : Int64) (hnl : u.2.1 11 0 = 0) (hf : ∀ i, i < 4 → ¬ u.2.1 0 i = 0) : kc_T l dC dI gs ad cc yX4_primary wsX4_primary { frames := 8, cells := 1, slots := 6, locals := 125 } [.ref (ad 0), .int (nI j), .long v] u u "java/lang/IllegalStateException" := by
  refine kq_ofT (cc := cX4_primary) (maxL := 5) (ret := (some .int)) (R0 := RX4) (by decide) rfl rfl (Nat.le_of_ble_eq_true rfl) ?_
  intro p e s m below meth c A ls hx hb hr hlk hml hown hts hP hK hD hA hG hS hl hEx
  have hl : lv_has ls 5 [(0, .ref (ad 0)), (1, .int (nI j)), (2, .long v)] := hl
  refine lv_iload_n hx hb dX4_primary_0 rfl (lv_at hl 1 rfl) ?_
  refine lv_iconst (v := (nI 3)) hx hb dX4_primary_1 (by decide) ?_
  refine kq_cS (st1 := []) ⟨hx, hb, hml, hown, hts⟩ (c_refuseUnlessBelow_ok u (by omega) (by omega)) (va_cwS 2 hts gX4_62_X4_refuseUnlessBelow rfl rfl rfl (by decide +kernel) ⟨Nat.le_of_ble_eq_true rfl, Nat.le_of_ble_eq_true rfl⟩) tm_Gok hK hP hD hA hG hS rfl hl.1 rfl rfl (Nat.le_of_ble_eq_true rfl) dX4_primary_2 ⟨Nat.le_of_ble_eq_true rfl, Nat.le_of_ble_eq_true rfl⟩ (fun H locs hP hD hS => ?_)
  refine lv_aload_n hx hb dX4_primary_5 rfl (lv_at hl 0 rfl) ?_
  refine kq_cV (st1 := []) ⟨hx, hb, hml, hown, hts⟩ (c_refuseWhenLost_ok u hnl) (cwV 0 hts gX4_66_X4_refuseWhenLost rfl rfl rfl (by decide +kernel) ⟨Nat.le_of_ble_eq_true rfl, Nat.le_of_ble_eq_true rfl⟩) tm_Gok hK hP hD hA hG hS (va_recv hK hP (ci := 4) (q0 := 0) rfl (tm_at (i := 0) (by omega) rfl)) rfl hl.1 rfl rfl (Nat.le_of_ble_eq_true rfl) dX4_primary_6 ⟨Nat.le_of_ble_eq_true rfl, Nat.le_of_ble_eq_true rfl⟩ (fun H locs hP hD hS => ?_)
  refine lv_aload_n hx hb dX4_primary_9 rfl (lv_at hl 0 rfl) ?_
  exact kq_tV ⟨hx, hb, hml, hown, hts⟩ (c_leastFree_4 hl9 u (hf 0 (by omega)) (hf 1 (by omega)) (hf 2 (by omega)) (hf 3 (by omega))) (cwV 0 hts gX4_73_X4_leastFreeHandle rfl rfl rfl (by decide +kernel) ⟨Nat.le_of_ble_eq_true rfl, Nat.le_of_ble_eq_true rfl⟩) tm_Gok hK hP hD hA hG hS (va_recv hK hP (ci := 4) (q0 := 0) rfl (tm_at (i := 0) (by omega) rfl)) rfl hl.1 rfl (Nat.le_of_ble_eq_true rfl) dX4_primary_10 ⟨Nat.le_of_ble_eq_true rfl, Nat.le_of_ble_eq_true rfl⟩ hlk hEx (Nat.le_of_ble_eq_true rfl) (Nat.le_of_ble_eq_true rfl)
set_option maxHeartbeats 4000000 in
set_option maxRecDepth 100000 in
theorem m_primary_ok (u : tm_S) {j : Nat} (hj : j < 3) (v : Int64) (hnl : u.2.1 11 0 = 0) {k : Nat} (hk : k < 4) (hf : u.2.1 0 k = 0) (ha : ∀ i, i < k → ¬ u.2.1 0 i = 0)  : kc_M l dC dI gs ad cc yX4_primary wsX4_primary { frames := 8, cells := 0, slots := 0, locals := 125 } [.ref (ad 0), .int (nI j), .long v] u (tm_I (tm_L (tm_L (tm_I (tm_L (tm_I u 0 k (nI 1)) 2 k (tm_h (u.1 0 j) v)) 1 k (nI 0)) 3 k 0) 4 k 0) 2 k (nI 1)) (some (.int (nI k))) := by
  refine kq_ofW (cc := cX4_primary) (maxL := 5) (ret := (some .int)) (R0 := RX4) (by decide) rfl rfl (Nat.le_of_ble_eq_true rfl) ?_
  intro p e s m below meth c A ls hx hb hr hlk hml hown hts hP hK hD hA hG hS hl
  have hl : lv_has ls 5 [(0, .ref (ad 0)), (1, .int (nI j)), (2, .long v)] := hl
  refine lv_iload_n hx hb dX4_primary_0 rfl (lv_at hl 1 rfl) ?_
  refine lv_iconst (v := (nI 3)) hx hb dX4_primary_1 (by decide) ?_
  refine kq_cS (st1 := []) ⟨hx, hb, hml, hown, hts⟩ (c_refuseUnlessBelow_ok u (by omega) (by omega)) (va_cwS 2 hts gX4_62_X4_refuseUnlessBelow rfl rfl rfl (by decide +kernel) ⟨Nat.le_of_ble_eq_true rfl, Nat.le_of_ble_eq_true rfl⟩) tm_Gok hK hP hD hA hG hS rfl hl.1 rfl rfl (Nat.le_of_ble_eq_true rfl) dX4_primary_2 ⟨Nat.le_of_ble_eq_true rfl, Nat.le_of_ble_eq_true rfl⟩ (fun H locs hP hD hS => ?_)
  refine lv_aload_n hx hb dX4_primary_5 rfl (lv_at hl 0 rfl) ?_
  refine kq_cV (st1 := []) ⟨hx, hb, hml, hown, hts⟩ (c_refuseWhenLost_ok u hnl) (cwV 0 hts gX4_66_X4_refuseWhenLost rfl rfl rfl (by decide +kernel) ⟨Nat.le_of_ble_eq_true rfl, Nat.le_of_ble_eq_true rfl⟩) tm_Gok hK hP hD hA hG hS (va_recv hK hP (ci := 4) (q0 := 0) rfl (tm_at (i := 0) (by omega) rfl)) rfl hl.1 rfl rfl (Nat.le_of_ble_eq_true rfl) dX4_primary_6 ⟨Nat.le_of_ble_eq_true rfl, Nat.le_of_ble_eq_true rfl⟩ (fun H locs hP hD hS => ?_)
  refine lv_aload_n hx hb dX4_primary_9 rfl (lv_at hl 0 rfl) ?_
  refine kq_cV (st1 := [.int (nI k)]) ⟨hx, hb, hml, hown, hts⟩ (c_leastFree_ok u (j := k) (by omega) hf ha) (cwV 0 hts gX4_73_X4_leastFreeHandle rfl rfl rfl (by decide +kernel) ⟨Nat.le_of_ble_eq_true rfl, Nat.le_of_ble_eq_true rfl⟩) tm_Gok hK hP hD hA hG hS (va_recv hK hP (ci := 4) (q0 := 0) rfl (tm_at (i := 0) (by omega) rfl)) rfl hl.1 rfl rfl (Nat.le_of_ble_eq_true rfl) dX4_primary_10 ⟨Nat.le_of_ble_eq_true rfl, Nat.le_of_ble_eq_true rfl⟩ (fun H locs hP hD hS => ?_)
  refine lv_istore (lv' := [(4, .int (nI k)), (0, .ref (ad 0)), (1, .int (nI j)), (2, .long v)]) hx hb dX4_primary_13 hl (by decide) rfl (fun ls hl => ?_)
  refine lv_aload_n hx hb dX4_primary_15 rfl (lv_at hl 1 rfl) ?_
  refine tc_gT_keys hx hb hts inB_X4 hown hK hP (hts _ mb_147) dX4_primary_16 ?_
  refine lv_iload hx hb dX4_primary_19 (lv_at hl 0 rfl) ?_
  refine tc_a_keys hx hb hK hP (by omega) dX4_primary_21 ?_
  refine lv_aload_n hx hb dX4_primary_22 rfl (lv_at hl 1 rfl) ?_
  refine tc_gT_seeds hx hb hts inB_X4 hown hK hP (hts _ mb_145) dX4_primary_23 ?_
  refine lv_iload_n hx hb dX4_primary_26 rfl (lv_at hl 2 rfl) ?_
  refine tc_l_seed hx hb hK hP (by omega) dX4_primary_27 ?_
  refine lv_lload_n hx hb dX4_primary_28 rfl (lv_at hl 3 rfl) ?_
  refine kq_cS (st1 := [.long (tm_h (u.1 0 j) v), .ref (ad (k + 9))]) ⟨hx, hb, hml, hown, hts⟩ (c_hash u (u.1 0 j) v) (va_cwS 2 hts gX4_42_X4_hash rfl rfl rfl (by decide +kernel) ⟨Nat.le_of_ble_eq_true rfl, Nat.le_of_ble_eq_true rfl⟩) tm_Gok hK hP hD hA hG hS rfl hl.1 rfl rfl (Nat.le_of_ble_eq_true rfl) dX4_primary_29 ⟨Nat.le_of_ble_eq_true rfl, Nat.le_of_ble_eq_true rfl⟩ (fun H locs hP hD hS => ?_)
  refine lv_iconst (v := (nI 0)) hx hb dX4_primary_32 (by decide) ?_
  refine lv_lconst (v := 0) hx hb dX4_primary_33 (by decide) ?_
  refine lv_lconst (v := 0) hx hb dX4_primary_34 (by decide) ?_
  refine lv_iconst (v := (nI 1)) hx hb dX4_primary_35 (by decide) ?_
  refine kq_cV (st1 := []) ⟨hx, hb, hml, hown, hts⟩ (c_hold u (k := k) (by omega) (tm_h (u.1 0 j) v) (nI 0) 0 0 (nI 1) (Or.inr rfl)) (cwV 5 hts gX4_77_X2_hold rfl rfl rfl (by decide +kernel) ⟨Nat.le_of_ble_eq_true rfl, Nat.le_of_ble_eq_true rfl⟩) tm_Gok hK hP hD hA hG hS (va_recv hK hP (ci := 2) (q0 := k + 9) rfl (tm_at (i := k + 9) (by omega) (tc_K (by omega)))) rfl hl.1 rfl rfl (Nat.le_of_ble_eq_true rfl) dX4_primary_36 ⟨Nat.le_of_ble_eq_true rfl, Nat.le_of_ble_eq_true rfl⟩ (fun H locs hP hD hS => ?_)
  refine lv_iload hx hb dX4_primary_39 (lv_at hl 0 rfl) ?_
  exact kq_iret hx hb hr hlk hP hD hS dX4_primary_41
set_option maxHeartbeats 4000000 in
set_option maxRecDepth 100000 in
theorem m_create_b1 (hl9 : l.stackTraces = false) (u : tm_S) (x : Int32) (h : x < 0 ∨ nI 4 ≤ x) (i : Int32) (se : Int64) (wd : Int32) (po : Int64)  : kc_T l dC dI gs ad cc yX4_create wsX4_create { frames := 8, cells := 1, slots := 6, locals := 125 } [.ref (ad 0), .int x, .int i, .long se, .int wd, .long po] u u "java/lang/IllegalArgumentException" := by
  refine kq_ofT (cc := cX4_create) (maxL := 9) (ret := none) (R0 := RX4) (by decide) rfl rfl (Nat.le_of_ble_eq_true rfl) ?_
  intro p e s m below meth c A ls hx hb hr hlk hml hown hts hP hK hD hA hG hS hl hEx
  have hl : lv_has ls 9 [(0, .ref (ad 0)), (1, .int x), (2, .int i), (3, .long se), (5, .int wd), (6, .long po)] := hl
  refine lv_iload_n hx hb dX4_create_0 rfl (lv_at hl 1 rfl) ?_
  refine lv_iconst (v := (nI 4)) hx hb dX4_create_1 (by decide) ?_
  exact kq_tS ⟨hx, hb, hml, hown, hts⟩ (c_refuseUnlessBelow_no hl9 u h (by omega) (by omega)) (va_cwS 2 hts gX4_62_X4_refuseUnlessBelow rfl rfl rfl (by decide +kernel) ⟨Nat.le_of_ble_eq_true rfl, Nat.le_of_ble_eq_true rfl⟩) tm_Gok hK hP hD hA hG hS rfl hl.1 rfl (Nat.le_of_ble_eq_true rfl) dX4_create_2 ⟨Nat.le_of_ble_eq_true rfl, Nat.le_of_ble_eq_true rfl⟩ hlk hEx (Nat.le_of_ble_eq_true rfl) (Nat.le_of_ble_eq_true rfl)
set_option maxHeartbeats 4000000 in
set_option maxRecDepth 100000 in
theorem m_create_b2 (hl9 : l.stackTraces = false) (u : tm_S) {j : Nat} (hj : j < 4) (x : Int32) (h : x < 0 ∨ nI 8 ≤ x) (se : Int64) (wd : Int32) (po : Int64)  : kc_T l dC dI gs ad cc yX4_create wsX4_create { frames := 8, cells := 1, slots := 6, locals := 125 } [.ref (ad 0), .int (nI j), .int x, .long se, .int wd, .long po] u u "java/lang/IllegalArgumentException" := by
  refine kq_ofT (cc := cX4_create) (maxL := 9) (ret := none) (R0 := RX4) (by decide) rfl rfl (Nat.le_of_ble_eq_true rfl) ?_
  intro p e s m below meth c A ls hx hb hr hlk hml hown hts hP hK hD hA hG hS hl hEx
  have hl : lv_has ls 9 [(0, .ref (ad 0)), (1, .int (nI j)), (2, .int x), (3, .long se), (5, .int wd), (6, .long po)] := hl
  refine lv_iload_n hx hb dX4_create_0 rfl (lv_at hl 1 rfl) ?_
  refine lv_iconst (v := (nI 4)) hx hb dX4_create_1 (by decide) ?_
  refine kq_cS (st1 := []) ⟨hx, hb, hml, hown, hts⟩ (c_refuseUnlessBelow_ok u (by omega) (by omega)) (va_cwS 2 hts gX4_62_X4_refuseUnlessBelow rfl rfl rfl (by decide +kernel) ⟨Nat.le_of_ble_eq_true rfl, Nat.le_of_ble_eq_true rfl⟩) tm_Gok hK hP hD hA hG hS rfl hl.1 rfl rfl (Nat.le_of_ble_eq_true rfl) dX4_create_2 ⟨Nat.le_of_ble_eq_true rfl, Nat.le_of_ble_eq_true rfl⟩ (fun H locs hP hD hS => ?_)
  refine lv_iload_n hx hb dX4_create_5 rfl (lv_at hl 2 rfl) ?_
  refine lv_bipush (v := (nI 8)) hx hb dX4_create_6 (by decide) ?_
  exact kq_tS ⟨hx, hb, hml, hown, hts⟩ (c_refuseUnlessBelow_no hl9 u h (by omega) (by omega)) (va_cwS 2 hts gX4_62_X4_refuseUnlessBelow rfl rfl rfl (by decide +kernel) ⟨Nat.le_of_ble_eq_true rfl, Nat.le_of_ble_eq_true rfl⟩) tm_Gok hK hP hD hA hG hS rfl hl.1 rfl (Nat.le_of_ble_eq_true rfl) dX4_create_8 ⟨Nat.le_of_ble_eq_true rfl, Nat.le_of_ble_eq_true rfl⟩ hlk hEx (Nat.le_of_ble_eq_true rfl) (Nat.le_of_ble_eq_true rfl)
set_option maxHeartbeats 4000000 in
set_option maxRecDepth 100000 in
theorem m_create_lo (hl9 : l.stackTraces = false) (u : tm_S) {j i : Nat} (hj : j < 4) (hi : i < 8) (se : Int64) (wd : Int32) (po : Int64) (hlo : ¬ u.2.1 11 0 = 0)  : kc_T l dC dI gs ad cc yX4_create wsX4_create { frames := 8, cells := 1, slots := 6, locals := 125 } [.ref (ad 0), .int (nI j), .int (nI i), .long se, .int wd, .long po] u u "java/lang/IllegalStateException" := by
  refine kq_ofT (cc := cX4_create) (maxL := 9) (ret := none) (R0 := RX4) (by decide) rfl rfl (Nat.le_of_ble_eq_true rfl) ?_
  intro p e s m below meth c A ls hx hb hr hlk hml hown hts hP hK hD hA hG hS hl hEx
  have hl : lv_has ls 9 [(0, .ref (ad 0)), (1, .int (nI j)), (2, .int (nI i)), (3, .long se), (5, .int wd), (6, .long po)] := hl
  refine lv_iload_n hx hb dX4_create_0 rfl (lv_at hl 1 rfl) ?_
  refine lv_iconst (v := (nI 4)) hx hb dX4_create_1 (by decide) ?_
  refine kq_cS (st1 := []) ⟨hx, hb, hml, hown, hts⟩ (c_refuseUnlessBelow_ok u (by omega) (by omega)) (va_cwS 2 hts gX4_62_X4_refuseUnlessBelow rfl rfl rfl (by decide +kernel) ⟨Nat.le_of_ble_eq_true rfl, Nat.le_of_ble_eq_true rfl⟩) tm_Gok hK hP hD hA hG hS rfl hl.1 rfl rfl (Nat.le_of_ble_eq_true rfl) dX4_create_2 ⟨Nat.le_of_ble_eq_true rfl, Nat.le_of_ble_eq_true rfl⟩ (fun H locs hP hD hS => ?_)
  refine lv_iload_n hx hb dX4_create_5 rfl (lv_at hl 2 rfl) ?_
  refine lv_bipush (v := (nI 8)) hx hb dX4_create_6 (by decide) ?_
  refine kq_cS (st1 := []) ⟨hx, hb, hml, hown, hts⟩ (c_refuseUnlessBelow_ok u (by omega) (by omega)) (va_cwS 2 hts gX4_62_X4_refuseUnlessBelow rfl rfl rfl (by decide +kernel) ⟨Nat.le_of_ble_eq_true rfl, Nat.le_of_ble_eq_true rfl⟩) tm_Gok hK hP hD hA hG hS rfl hl.1 rfl rfl (Nat.le_of_ble_eq_true rfl) dX4_create_8 ⟨Nat.le_of_ble_eq_true rfl, Nat.le_of_ble_eq_true rfl⟩ (fun H locs hP hD hS => ?_)
  refine lv_aload_n hx hb dX4_create_11 rfl (lv_at hl 0 rfl) ?_
  exact kq_tV ⟨hx, hb, hml, hown, hts⟩ (c_refuseWhenLost_no hl9 u hlo) (cwV 0 hts gX4_66_X4_refuseWhenLost rfl rfl rfl (by decide +kernel) ⟨Nat.le_of_ble_eq_true rfl, Nat.le_of_ble_eq_true rfl⟩) tm_Gok hK hP hD hA hG hS (va_recv hK hP (ci := 4) (q0 := 0) rfl (tm_at (i := 0) (by omega) rfl)) rfl hl.1 rfl (Nat.le_of_ble_eq_true rfl) dX4_create_12 ⟨Nat.le_of_ble_eq_true rfl, Nat.le_of_ble_eq_true rfl⟩ hlk hEx (Nat.le_of_ble_eq_true rfl) (Nat.le_of_ble_eq_true rfl)
set_option maxHeartbeats 4000000 in
set_option maxRecDepth 100000 in
theorem m_create_free (hl9 : l.stackTraces = false) (u : tm_S) {j i : Nat} (hj : j < 4) (hi : i < 8) (se : Int64) (wd : Int32) (po : Int64) (hnl : u.2.1 11 0 = 0) (hh : u.2.1 0 j = 0) : kc_T l dC dI gs ad cc yX4_create wsX4_create { frames := 8, cells := 1, slots := 6, locals := 125 } [.ref (ad 0), .int (nI j), .int (nI i), .long se, .int wd, .long po] u u "java/util/NoSuchElementException" := by
  refine kq_ofT (cc := cX4_create) (maxL := 9) (ret := none) (R0 := RX4) (by decide) rfl rfl (Nat.le_of_ble_eq_true rfl) ?_
  intro p e s m below meth c A ls hx hb hr hlk hml hown hts hP hK hD hA hG hS hl hEx
  have hl : lv_has ls 9 [(0, .ref (ad 0)), (1, .int (nI j)), (2, .int (nI i)), (3, .long se), (5, .int wd), (6, .long po)] := hl
  refine lv_iload_n hx hb dX4_create_0 rfl (lv_at hl 1 rfl) ?_
  refine lv_iconst (v := (nI 4)) hx hb dX4_create_1 (by decide) ?_
  refine kq_cS (st1 := []) ⟨hx, hb, hml, hown, hts⟩ (c_refuseUnlessBelow_ok u (by omega) (by omega)) (va_cwS 2 hts gX4_62_X4_refuseUnlessBelow rfl rfl rfl (by decide +kernel) ⟨Nat.le_of_ble_eq_true rfl, Nat.le_of_ble_eq_true rfl⟩) tm_Gok hK hP hD hA hG hS rfl hl.1 rfl rfl (Nat.le_of_ble_eq_true rfl) dX4_create_2 ⟨Nat.le_of_ble_eq_true rfl, Nat.le_of_ble_eq_true rfl⟩ (fun H locs hP hD hS => ?_)
  refine lv_iload_n hx hb dX4_create_5 rfl (lv_at hl 2 rfl) ?_
  refine lv_bipush (v := (nI 8)) hx hb dX4_create_6 (by decide) ?_
  refine kq_cS (st1 := []) ⟨hx, hb, hml, hown, hts⟩ (c_refuseUnlessBelow_ok u (by omega) (by omega)) (va_cwS 2 hts gX4_62_X4_refuseUnlessBelow rfl rfl rfl (by decide +kernel) ⟨Nat.le_of_ble_eq_true rfl, Nat.le_of_ble_eq_true rfl⟩) tm_Gok hK hP hD hA hG hS rfl hl.1 rfl rfl (Nat.le_of_ble_eq_true rfl) dX4_create_8 ⟨Nat.le_of_ble_eq_true rfl, Nat.le_of_ble_eq_true rfl⟩ (fun H locs hP hD hS => ?_)
  refine lv_aload_n hx hb dX4_create_11 rfl (lv_at hl 0 rfl) ?_
  refine kq_cV (st1 := []) ⟨hx, hb, hml, hown, hts⟩ (c_refuseWhenLost_ok u hnl) (cwV 0 hts gX4_66_X4_refuseWhenLost rfl rfl rfl (by decide +kernel) ⟨Nat.le_of_ble_eq_true rfl, Nat.le_of_ble_eq_true rfl⟩) tm_Gok hK hP hD hA hG hS (va_recv hK hP (ci := 4) (q0 := 0) rfl (tm_at (i := 0) (by omega) rfl)) rfl hl.1 rfl rfl (Nat.le_of_ble_eq_true rfl) dX4_create_12 ⟨Nat.le_of_ble_eq_true rfl, Nat.le_of_ble_eq_true rfl⟩ (fun H locs hP hD hS => ?_)
  refine lv_aload_n hx hb dX4_create_15 rfl (lv_at hl 0 rfl) ?_
  refine lv_iload_n hx hb dX4_create_16 rfl (lv_at hl 1 rfl) ?_
  exact kq_tV ⟨hx, hb, hml, hown, hts⟩ (c_heldKey_no hl9 u (k := j) (by omega) hh) (cwV 1 hts gX4_81_X4_heldKey rfl rfl rfl (by decide +kernel) ⟨Nat.le_of_ble_eq_true rfl, Nat.le_of_ble_eq_true rfl⟩) tm_Gok hK hP hD hA hG hS (va_recv hK hP (ci := 4) (q0 := 0) rfl (tm_at (i := 0) (by omega) rfl)) rfl hl.1 rfl (Nat.le_of_ble_eq_true rfl) dX4_create_17 ⟨Nat.le_of_ble_eq_true rfl, Nat.le_of_ble_eq_true rfl⟩ hlk hEx (Nat.le_of_ble_eq_true rfl) (Nat.le_of_ble_eq_true rfl)
set_option maxHeartbeats 4000000 in
set_option maxRecDepth 100000 in
theorem m_create_nop (hl9 : l.stackTraces = false) (u : tm_S) {j i : Nat} (hj : j < 4) (hi : i < 8) (se : Int64) (wd : Int32) (po : Int64) (hnl : u.2.1 11 0 = 0) (hh : ¬ u.2.1 0 j = 0) (hp : u.2.1 2 j = 0) : kc_T l dC dI gs ad cc yX4_create wsX4_create { frames := 8, cells := 1, slots := 6, locals := 125 } [.ref (ad 0), .int (nI j), .int (nI i), .long se, .int wd, .long po] u u "java/lang/UnsupportedOperationException" := by
  refine kq_ofT (cc := cX4_create) (maxL := 9) (ret := none) (R0 := RX4) (by decide) rfl rfl (Nat.le_of_ble_eq_true rfl) ?_
  intro p e s m below meth c A ls hx hb hr hlk hml hown hts hP hK hD hA hG hS hl hEx
  have hl : lv_has ls 9 [(0, .ref (ad 0)), (1, .int (nI j)), (2, .int (nI i)), (3, .long se), (5, .int wd), (6, .long po)] := hl
  refine lv_iload_n hx hb dX4_create_0 rfl (lv_at hl 1 rfl) ?_
  refine lv_iconst (v := (nI 4)) hx hb dX4_create_1 (by decide) ?_
  refine kq_cS (st1 := []) ⟨hx, hb, hml, hown, hts⟩ (c_refuseUnlessBelow_ok u (by omega) (by omega)) (va_cwS 2 hts gX4_62_X4_refuseUnlessBelow rfl rfl rfl (by decide +kernel) ⟨Nat.le_of_ble_eq_true rfl, Nat.le_of_ble_eq_true rfl⟩) tm_Gok hK hP hD hA hG hS rfl hl.1 rfl rfl (Nat.le_of_ble_eq_true rfl) dX4_create_2 ⟨Nat.le_of_ble_eq_true rfl, Nat.le_of_ble_eq_true rfl⟩ (fun H locs hP hD hS => ?_)
  refine lv_iload_n hx hb dX4_create_5 rfl (lv_at hl 2 rfl) ?_
  refine lv_bipush (v := (nI 8)) hx hb dX4_create_6 (by decide) ?_
  refine kq_cS (st1 := []) ⟨hx, hb, hml, hown, hts⟩ (c_refuseUnlessBelow_ok u (by omega) (by omega)) (va_cwS 2 hts gX4_62_X4_refuseUnlessBelow rfl rfl rfl (by decide +kernel) ⟨Nat.le_of_ble_eq_true rfl, Nat.le_of_ble_eq_true rfl⟩) tm_Gok hK hP hD hA hG hS rfl hl.1 rfl rfl (Nat.le_of_ble_eq_true rfl) dX4_create_8 ⟨Nat.le_of_ble_eq_true rfl, Nat.le_of_ble_eq_true rfl⟩ (fun H locs hP hD hS => ?_)
  refine lv_aload_n hx hb dX4_create_11 rfl (lv_at hl 0 rfl) ?_
  refine kq_cV (st1 := []) ⟨hx, hb, hml, hown, hts⟩ (c_refuseWhenLost_ok u hnl) (cwV 0 hts gX4_66_X4_refuseWhenLost rfl rfl rfl (by decide +kernel) ⟨Nat.le_of_ble_eq_true rfl, Nat.le_of_ble_eq_true rfl⟩) tm_Gok hK hP hD hA hG hS (va_recv hK hP (ci := 4) (q0 := 0) rfl (tm_at (i := 0) (by omega) rfl)) rfl hl.1 rfl rfl (Nat.le_of_ble_eq_true rfl) dX4_create_12 ⟨Nat.le_of_ble_eq_true rfl, Nat.le_of_ble_eq_true rfl⟩ (fun H locs hP hD hS => ?_)
  refine lv_aload_n hx hb dX4_create_15 rfl (lv_at hl 0 rfl) ?_
  refine lv_iload_n hx hb dX4_create_16 rfl (lv_at hl 1 rfl) ?_
  refine kq_cV (st1 := [.ref (ad (j + 9))]) ⟨hx, hb, hml, hown, hts⟩ (c_heldKey_ok u (k := j) (by omega) hh) (cwV 1 hts gX4_81_X4_heldKey rfl rfl rfl (by decide +kernel) ⟨Nat.le_of_ble_eq_true rfl, Nat.le_of_ble_eq_true rfl⟩) tm_Gok hK hP hD hA hG hS (va_recv hK hP (ci := 4) (q0 := 0) rfl (tm_at (i := 0) (by omega) rfl)) rfl hl.1 rfl rfl (Nat.le_of_ble_eq_true rfl) dX4_create_17 ⟨Nat.le_of_ble_eq_true rfl, Nat.le_of_ble_eq_true rfl⟩ (fun H locs hP hD hS => ?_)
  refine lv_astore (lv' := [(8, .ref (ad (j + 9))), (0, .ref (ad 0)), (1, .int (nI j)), (2, .int (nI i)), (3, .long se), (5, .int wd), (6, .long po)]) hx hb dX4_create_20 hl (by decide) rfl (fun ls hl => ?_)
  refine lv_aload hx hb dX4_create_22 (lv_at hl 0 rfl) ?_
  exact kq_tS ⟨hx, hb, hml, hown, hts⟩ (c_refuseUnlessParent_no hl9 u (k := j) (by omega) hp) (va_cwS 1 hts gX4_85_X4_refuseUnlessParent rfl rfl rfl (by decide +kernel) ⟨Nat.le_of_ble_eq_true rfl, Nat.le_of_ble_eq_true rfl⟩) tm_Gok hK hP hD hA hG hS rfl hl.1 rfl (Nat.le_of_ble_eq_true rfl) dX4_create_24 ⟨Nat.le_of_ble_eq_true rfl, Nat.le_of_ble_eq_true rfl⟩ hlk hEx (Nat.le_of_ble_eq_true rfl) (Nat.le_of_ble_eq_true rfl)
set_option maxHeartbeats 4000000 in
set_option maxRecDepth 100000 in
theorem m_create_ok (u : tm_S) {j i : Nat} (hj : j < 4) (hi : i < 8) (se : Int64) (wd : Int32) (po : Int64) (hnl : u.2.1 11 0 = 0) (hh : ¬ u.2.1 0 j = 0) (hp : ¬ u.2.1 2 j = 0)  : kc_M l dC dI gs ad cc yX4_create wsX4_create { frames := 8, cells := 0, slots := 0, locals := 125 } [.ref (ad 0), .int (nI j), .int (nI i), .long se, .int wd, .long po] u (tm_L (tm_L (tm_L (tm_L (tm_I u 3 i (nI 1)) 5 (4 * i + 0) (se ^^^ (tm_h (u.1 2 j) 1))) 5 (4 * i + 1) ((wd.toInt64) ^^^ (tm_h (u.1 2 j) 2))) 5 (4 * i + 2) po) 5 (4 * i + 3) (tm_h (tm_h (u.1 2 j) 3) (tm_h (tm_h ((tm_L (tm_L (tm_L (tm_I u 3 i (nI 1)) 5 (4 * i + 0) (se ^^^ (tm_h (u.1 2 j) 1))) 5 (4 * i + 1) ((wd.toInt64) ^^^ (tm_h (u.1 2 j) 2))) 5 (4 * i + 2) po).1 5 (4 * i + 0)) ((tm_L (tm_L (tm_L (tm_I u 3 i (nI 1)) 5 (4 * i + 0) (se ^^^ (tm_h (u.1 2 j) 1))) 5 (4 * i + 1) ((wd.toInt64) ^^^ (tm_h (u.1 2 j) 2))) 5 (4 * i + 2) po).1 5 (4 * i + 1))) ((tm_L (tm_L (tm_L (tm_I u 3 i (nI 1)) 5 (4 * i + 0) (se ^^^ (tm_h (u.1 2 j) 1))) 5 (4 * i + 1) ((wd.toInt64) ^^^ (tm_h (u.1 2 j) 2))) 5 (4 * i + 2) po).1 5 (4 * i + 2))))) none := by
  refine kq_ofW (cc := cX4_create) (maxL := 9) (ret := none) (R0 := RX4) (by decide) rfl rfl (Nat.le_of_ble_eq_true rfl) ?_
  intro p e s m below meth c A ls hx hb hr hlk hml hown hts hP hK hD hA hG hS hl
  have hl : lv_has ls 9 [(0, .ref (ad 0)), (1, .int (nI j)), (2, .int (nI i)), (3, .long se), (5, .int wd), (6, .long po)] := hl
  refine lv_iload_n hx hb dX4_create_0 rfl (lv_at hl 1 rfl) ?_
  refine lv_iconst (v := (nI 4)) hx hb dX4_create_1 (by decide) ?_
  refine kq_cS (st1 := []) ⟨hx, hb, hml, hown, hts⟩ (c_refuseUnlessBelow_ok u (by omega) (by omega)) (va_cwS 2 hts gX4_62_X4_refuseUnlessBelow rfl rfl rfl (by decide +kernel) ⟨Nat.le_of_ble_eq_true rfl, Nat.le_of_ble_eq_true rfl⟩) tm_Gok hK hP hD hA hG hS rfl hl.1 rfl rfl (Nat.le_of_ble_eq_true rfl) dX4_create_2 ⟨Nat.le_of_ble_eq_true rfl, Nat.le_of_ble_eq_true rfl⟩ (fun H locs hP hD hS => ?_)
  refine lv_iload_n hx hb dX4_create_5 rfl (lv_at hl 2 rfl) ?_
  refine lv_bipush (v := (nI 8)) hx hb dX4_create_6 (by decide) ?_
  refine kq_cS (st1 := []) ⟨hx, hb, hml, hown, hts⟩ (c_refuseUnlessBelow_ok u (by omega) (by omega)) (va_cwS 2 hts gX4_62_X4_refuseUnlessBelow rfl rfl rfl (by decide +kernel) ⟨Nat.le_of_ble_eq_true rfl, Nat.le_of_ble_eq_true rfl⟩) tm_Gok hK hP hD hA hG hS rfl hl.1 rfl rfl (Nat.le_of_ble_eq_true rfl) dX4_create_8 ⟨Nat.le_of_ble_eq_true rfl, Nat.le_of_ble_eq_true rfl⟩ (fun H locs hP hD hS => ?_)
  refine lv_aload_n hx hb dX4_create_11 rfl (lv_at hl 0 rfl) ?_
  refine kq_cV (st1 := []) ⟨hx, hb, hml, hown, hts⟩ (c_refuseWhenLost_ok u hnl) (cwV 0 hts gX4_66_X4_refuseWhenLost rfl rfl rfl (by decide +kernel) ⟨Nat.le_of_ble_eq_true rfl, Nat.le_of_ble_eq_true rfl⟩) tm_Gok hK hP hD hA hG hS (va_recv hK hP (ci := 4) (q0 := 0) rfl (tm_at (i := 0) (by omega) rfl)) rfl hl.1 rfl rfl (Nat.le_of_ble_eq_true rfl) dX4_create_12 ⟨Nat.le_of_ble_eq_true rfl, Nat.le_of_ble_eq_true rfl⟩ (fun H locs hP hD hS => ?_)
  refine lv_aload_n hx hb dX4_create_15 rfl (lv_at hl 0 rfl) ?_
  refine lv_iload_n hx hb dX4_create_16 rfl (lv_at hl 1 rfl) ?_
  refine kq_cV (st1 := [.ref (ad (j + 9))]) ⟨hx, hb, hml, hown, hts⟩ (c_heldKey_ok u (k := j) (by omega) hh) (cwV 1 hts gX4_81_X4_heldKey rfl rfl rfl (by decide +kernel) ⟨Nat.le_of_ble_eq_true rfl, Nat.le_of_ble_eq_true rfl⟩) tm_Gok hK hP hD hA hG hS (va_recv hK hP (ci := 4) (q0 := 0) rfl (tm_at (i := 0) (by omega) rfl)) rfl hl.1 rfl rfl (Nat.le_of_ble_eq_true rfl) dX4_create_17 ⟨Nat.le_of_ble_eq_true rfl, Nat.le_of_ble_eq_true rfl⟩ (fun H locs hP hD hS => ?_)
  refine lv_astore (lv' := [(8, .ref (ad (j + 9))), (0, .ref (ad 0)), (1, .int (nI j)), (2, .int (nI i)), (3, .long se), (5, .int wd), (6, .long po)]) hx hb dX4_create_20 hl (by decide) rfl (fun ls hl => ?_)
  refine lv_aload hx hb dX4_create_22 (lv_at hl 0 rfl) ?_
  refine kq_cS (st1 := []) ⟨hx, hb, hml, hown, hts⟩ (c_refuseUnlessParent_ok u (k := j) (by omega) hp) (va_cwS 1 hts gX4_85_X4_refuseUnlessParent rfl rfl rfl (by decide +kernel) ⟨Nat.le_of_ble_eq_true rfl, Nat.le_of_ble_eq_true rfl⟩) tm_Gok hK hP hD hA hG hS rfl hl.1 rfl rfl (Nat.le_of_ble_eq_true rfl) dX4_create_24 ⟨Nat.le_of_ble_eq_true rfl, Nat.le_of_ble_eq_true rfl⟩ (fun H locs hP hD hS => ?_)
  refine lv_aload_n hx hb dX4_create_27 rfl (lv_at hl 1 rfl) ?_
  refine tc_gT_blobs hx hb hts inB_X4 hown hK hP (hts _ mb_148) dX4_create_28 ?_
  refine lv_iload_n hx hb dX4_create_31 rfl (lv_at hl 3 rfl) ?_
  refine tc_a_blobs hx hb hK hP (by omega) dX4_create_32 ?_
  refine lv_aload hx hb dX4_create_33 (lv_at hl 0 rfl) ?_
  refine tc_gK_value hx hb hts inB_X2 hown hK hP (by omega) (hts _ mb_47) dX4_create_35 ?_
  refine lv_lload_n hx hb dX4_create_38 rfl (lv_at hl 4 rfl) ?_
  refine lv_iload hx hb dX4_create_39 (lv_at hl 5 rfl) ?_
  refine lv_lload hx hb dX4_create_41 (lv_at hl 6 rfl) ?_
  refine kq_cV (st1 := []) ⟨hx, hb, hml, hown, hts⟩ (c_wrap u (k := i) (by omega) (u.1 2 j) se wd po) (cwV 4 hts gX4_93_X0_wrap rfl rfl rfl (by decide +kernel) ⟨Nat.le_of_ble_eq_true rfl, Nat.le_of_ble_eq_true rfl⟩) tm_Gok hK hP hD hA hG hS (va_recv hK hP (ci := 0) (q0 := i + 13) rfl (tm_at (i := i + 13) (by omega) (tc_B (by omega)))) rfl hl.1 rfl rfl (Nat.le_of_ble_eq_true rfl) dX4_create_43 ⟨Nat.le_of_ble_eq_true rfl, Nat.le_of_ble_eq_true rfl⟩ (fun H locs hP hD hS => ?_)
  exact kq_vret hx hb hr hlk hP hD hS dX4_create_46
set_option maxHeartbeats 4000000 in
set_option maxRecDepth 100000 in
theorem m_load_b1 (hl9 : l.stackTraces = false) (u : tm_S) (x : Int32) (h : x < 0 ∨ nI 4 ≤ x) (i : Int32) : kc_T l dC dI gs ad cc yX4_load wsX4_load { frames := 8, cells := 1, slots := 6, locals := 125 } [.ref (ad 0), .int x, .int i] u u "java/lang/IllegalArgumentException" := by
  refine kq_ofT (cc := cX4_load) (maxL := 8) (ret := (some .int)) (R0 := RX4) (by decide) rfl rfl (Nat.le_of_ble_eq_true rfl) ?_
  intro p e s m below meth c A ls hx hb hr hlk hml hown hts hP hK hD hA hG hS hl hEx
  have hl : lv_has ls 8 [(0, .ref (ad 0)), (1, .int x), (2, .int i)] := hl
  refine lv_iload_n hx hb dX4_load_0 rfl (lv_at hl 1 rfl) ?_
  refine lv_iconst (v := (nI 4)) hx hb dX4_load_1 (by decide) ?_
  exact kq_tS ⟨hx, hb, hml, hown, hts⟩ (c_refuseUnlessBelow_no hl9 u h (by omega) (by omega)) (va_cwS 2 hts gX4_62_X4_refuseUnlessBelow rfl rfl rfl (by decide +kernel) ⟨Nat.le_of_ble_eq_true rfl, Nat.le_of_ble_eq_true rfl⟩) tm_Gok hK hP hD hA hG hS rfl hl.1 rfl (Nat.le_of_ble_eq_true rfl) dX4_load_2 ⟨Nat.le_of_ble_eq_true rfl, Nat.le_of_ble_eq_true rfl⟩ hlk hEx (Nat.le_of_ble_eq_true rfl) (Nat.le_of_ble_eq_true rfl)
set_option maxHeartbeats 4000000 in
set_option maxRecDepth 100000 in
theorem m_load_b2 (hl9 : l.stackTraces = false) (u : tm_S) {j : Nat} (hj : j < 4) (x : Int32) (h : x < 0 ∨ nI 8 ≤ x)  : kc_T l dC dI gs ad cc yX4_load wsX4_load { frames := 8, cells := 1, slots := 6, locals := 125 } [.ref (ad 0), .int (nI j), .int x] u u "java/lang/IllegalArgumentException" := by
  refine kq_ofT (cc := cX4_load) (maxL := 8) (ret := (some .int)) (R0 := RX4) (by decide) rfl rfl (Nat.le_of_ble_eq_true rfl) ?_
  intro p e s m below meth c A ls hx hb hr hlk hml hown hts hP hK hD hA hG hS hl hEx
  have hl : lv_has ls 8 [(0, .ref (ad 0)), (1, .int (nI j)), (2, .int x)] := hl
  refine lv_iload_n hx hb dX4_load_0 rfl (lv_at hl 1 rfl) ?_
  refine lv_iconst (v := (nI 4)) hx hb dX4_load_1 (by decide) ?_
  refine kq_cS (st1 := []) ⟨hx, hb, hml, hown, hts⟩ (c_refuseUnlessBelow_ok u (by omega) (by omega)) (va_cwS 2 hts gX4_62_X4_refuseUnlessBelow rfl rfl rfl (by decide +kernel) ⟨Nat.le_of_ble_eq_true rfl, Nat.le_of_ble_eq_true rfl⟩) tm_Gok hK hP hD hA hG hS rfl hl.1 rfl rfl (Nat.le_of_ble_eq_true rfl) dX4_load_2 ⟨Nat.le_of_ble_eq_true rfl, Nat.le_of_ble_eq_true rfl⟩ (fun H locs hP hD hS => ?_)
  refine lv_iload_n hx hb dX4_load_5 rfl (lv_at hl 2 rfl) ?_
  refine lv_bipush (v := (nI 8)) hx hb dX4_load_6 (by decide) ?_
  exact kq_tS ⟨hx, hb, hml, hown, hts⟩ (c_refuseUnlessBelow_no hl9 u h (by omega) (by omega)) (va_cwS 2 hts gX4_62_X4_refuseUnlessBelow rfl rfl rfl (by decide +kernel) ⟨Nat.le_of_ble_eq_true rfl, Nat.le_of_ble_eq_true rfl⟩) tm_Gok hK hP hD hA hG hS rfl hl.1 rfl (Nat.le_of_ble_eq_true rfl) dX4_load_8 ⟨Nat.le_of_ble_eq_true rfl, Nat.le_of_ble_eq_true rfl⟩ hlk hEx (Nat.le_of_ble_eq_true rfl) (Nat.le_of_ble_eq_true rfl)
set_option maxHeartbeats 4000000 in
set_option maxRecDepth 100000 in
theorem m_load_lo (hl9 : l.stackTraces = false) (u : tm_S) {j i : Nat} (hj : j < 4) (hi : i < 8) (hlo : ¬ u.2.1 11 0 = 0)  : kc_T l dC dI gs ad cc yX4_load wsX4_load { frames := 8, cells := 1, slots := 6, locals := 125 } [.ref (ad 0), .int (nI j), .int (nI i)] u u "java/lang/IllegalStateException" := by
  refine kq_ofT (cc := cX4_load) (maxL := 8) (ret := (some .int)) (R0 := RX4) (by decide) rfl rfl (Nat.le_of_ble_eq_true rfl) ?_
  intro p e s m below meth c A ls hx hb hr hlk hml hown hts hP hK hD hA hG hS hl hEx
  have hl : lv_has ls 8 [(0, .ref (ad 0)), (1, .int (nI j)), (2, .int (nI i))] := hl
  refine lv_iload_n hx hb dX4_load_0 rfl (lv_at hl 1 rfl) ?_
  refine lv_iconst (v := (nI 4)) hx hb dX4_load_1 (by decide) ?_
  refine kq_cS (st1 := []) ⟨hx, hb, hml, hown, hts⟩ (c_refuseUnlessBelow_ok u (by omega) (by omega)) (va_cwS 2 hts gX4_62_X4_refuseUnlessBelow rfl rfl rfl (by decide +kernel) ⟨Nat.le_of_ble_eq_true rfl, Nat.le_of_ble_eq_true rfl⟩) tm_Gok hK hP hD hA hG hS rfl hl.1 rfl rfl (Nat.le_of_ble_eq_true rfl) dX4_load_2 ⟨Nat.le_of_ble_eq_true rfl, Nat.le_of_ble_eq_true rfl⟩ (fun H locs hP hD hS => ?_)
  refine lv_iload_n hx hb dX4_load_5 rfl (lv_at hl 2 rfl) ?_
  refine lv_bipush (v := (nI 8)) hx hb dX4_load_6 (by decide) ?_
  refine kq_cS (st1 := []) ⟨hx, hb, hml, hown, hts⟩ (c_refuseUnlessBelow_ok u (by omega) (by omega)) (va_cwS 2 hts gX4_62_X4_refuseUnlessBelow rfl rfl rfl (by decide +kernel) ⟨Nat.le_of_ble_eq_true rfl, Nat.le_of_ble_eq_true rfl⟩) tm_Gok hK hP hD hA hG hS rfl hl.1 rfl rfl (Nat.le_of_ble_eq_true rfl) dX4_load_8 ⟨Nat.le_of_ble_eq_true rfl, Nat.le_of_ble_eq_true rfl⟩ (fun H locs hP hD hS => ?_)
  refine lv_aload_n hx hb dX4_load_11 rfl (lv_at hl 0 rfl) ?_
  exact kq_tV ⟨hx, hb, hml, hown, hts⟩ (c_refuseWhenLost_no hl9 u hlo) (cwV 0 hts gX4_66_X4_refuseWhenLost rfl rfl rfl (by decide +kernel) ⟨Nat.le_of_ble_eq_true rfl, Nat.le_of_ble_eq_true rfl⟩) tm_Gok hK hP hD hA hG hS (va_recv hK hP (ci := 4) (q0 := 0) rfl (tm_at (i := 0) (by omega) rfl)) rfl hl.1 rfl (Nat.le_of_ble_eq_true rfl) dX4_load_12 ⟨Nat.le_of_ble_eq_true rfl, Nat.le_of_ble_eq_true rfl⟩ hlk hEx (Nat.le_of_ble_eq_true rfl) (Nat.le_of_ble_eq_true rfl)
set_option maxHeartbeats 4000000 in
set_option maxRecDepth 100000 in
theorem m_load_free (hl9 : l.stackTraces = false) (u : tm_S) {j i : Nat} (hj : j < 4) (hi : i < 8) (hnl : u.2.1 11 0 = 0) (hh : u.2.1 0 j = 0) : kc_T l dC dI gs ad cc yX4_load wsX4_load { frames := 8, cells := 1, slots := 6, locals := 125 } [.ref (ad 0), .int (nI j), .int (nI i)] u u "java/util/NoSuchElementException" := by
  refine kq_ofT (cc := cX4_load) (maxL := 8) (ret := (some .int)) (R0 := RX4) (by decide) rfl rfl (Nat.le_of_ble_eq_true rfl) ?_
  intro p e s m below meth c A ls hx hb hr hlk hml hown hts hP hK hD hA hG hS hl hEx
  have hl : lv_has ls 8 [(0, .ref (ad 0)), (1, .int (nI j)), (2, .int (nI i))] := hl
  refine lv_iload_n hx hb dX4_load_0 rfl (lv_at hl 1 rfl) ?_
  refine lv_iconst (v := (nI 4)) hx hb dX4_load_1 (by decide) ?_
  refine kq_cS (st1 := []) ⟨hx, hb, hml, hown, hts⟩ (c_refuseUnlessBelow_ok u (by omega) (by omega)) (va_cwS 2 hts gX4_62_X4_refuseUnlessBelow rfl rfl rfl (by decide +kernel) ⟨Nat.le_of_ble_eq_true rfl, Nat.le_of_ble_eq_true rfl⟩) tm_Gok hK hP hD hA hG hS rfl hl.1 rfl rfl (Nat.le_of_ble_eq_true rfl) dX4_load_2 ⟨Nat.le_of_ble_eq_true rfl, Nat.le_of_ble_eq_true rfl⟩ (fun H locs hP hD hS => ?_)
  refine lv_iload_n hx hb dX4_load_5 rfl (lv_at hl 2 rfl) ?_
  refine lv_bipush (v := (nI 8)) hx hb dX4_load_6 (by decide) ?_
  refine kq_cS (st1 := []) ⟨hx, hb, hml, hown, hts⟩ (c_refuseUnlessBelow_ok u (by omega) (by omega)) (va_cwS 2 hts gX4_62_X4_refuseUnlessBelow rfl rfl rfl (by decide +kernel) ⟨Nat.le_of_ble_eq_true rfl, Nat.le_of_ble_eq_true rfl⟩) tm_Gok hK hP hD hA hG hS rfl hl.1 rfl rfl (Nat.le_of_ble_eq_true rfl) dX4_load_8 ⟨Nat.le_of_ble_eq_true rfl, Nat.le_of_ble_eq_true rfl⟩ (fun H locs hP hD hS => ?_)
  refine lv_aload_n hx hb dX4_load_11 rfl (lv_at hl 0 rfl) ?_
  refine kq_cV (st1 := []) ⟨hx, hb, hml, hown, hts⟩ (c_refuseWhenLost_ok u hnl) (cwV 0 hts gX4_66_X4_refuseWhenLost rfl rfl rfl (by decide +kernel) ⟨Nat.le_of_ble_eq_true rfl, Nat.le_of_ble_eq_true rfl⟩) tm_Gok hK hP hD hA hG hS (va_recv hK hP (ci := 4) (q0 := 0) rfl (tm_at (i := 0) (by omega) rfl)) rfl hl.1 rfl rfl (Nat.le_of_ble_eq_true rfl) dX4_load_12 ⟨Nat.le_of_ble_eq_true rfl, Nat.le_of_ble_eq_true rfl⟩ (fun H locs hP hD hS => ?_)
  refine lv_aload_n hx hb dX4_load_15 rfl (lv_at hl 0 rfl) ?_
  refine lv_iload_n hx hb dX4_load_16 rfl (lv_at hl 1 rfl) ?_
  exact kq_tV ⟨hx, hb, hml, hown, hts⟩ (c_heldKey_no hl9 u (k := j) (by omega) hh) (cwV 1 hts gX4_81_X4_heldKey rfl rfl rfl (by decide +kernel) ⟨Nat.le_of_ble_eq_true rfl, Nat.le_of_ble_eq_true rfl⟩) tm_Gok hK hP hD hA hG hS (va_recv hK hP (ci := 4) (q0 := 0) rfl (tm_at (i := 0) (by omega) rfl)) rfl hl.1 rfl (Nat.le_of_ble_eq_true rfl) dX4_load_17 ⟨Nat.le_of_ble_eq_true rfl, Nat.le_of_ble_eq_true rfl⟩ hlk hEx (Nat.le_of_ble_eq_true rfl) (Nat.le_of_ble_eq_true rfl)
set_option maxHeartbeats 4000000 in
set_option maxRecDepth 100000 in
theorem m_load_none (hl9 : l.stackTraces = false) (u : tm_S) {j i : Nat} (hj : j < 4) (hi : i < 8) (hnl : u.2.1 11 0 = 0) (hh : ¬ u.2.1 0 j = 0) (hm : u.2.1 3 i = 0) : kc_T l dC dI gs ad cc yX4_load wsX4_load { frames := 8, cells := 1, slots := 6, locals := 125 } [.ref (ad 0), .int (nI j), .int (nI i)] u u "java/util/NoSuchElementException" := by
  refine kq_ofT (cc := cX4_load) (maxL := 8) (ret := (some .int)) (R0 := RX4) (by decide) rfl rfl (Nat.le_of_ble_eq_true rfl) ?_
  intro p e s m below meth c A ls hx hb hr hlk hml hown hts hP hK hD hA hG hS hl hEx
  have hl : lv_has ls 8 [(0, .ref (ad 0)), (1, .int (nI j)), (2, .int (nI i))] := hl
  refine lv_iload_n hx hb dX4_load_0 rfl (lv_at hl 1 rfl) ?_
  refine lv_iconst (v := (nI 4)) hx hb dX4_load_1 (by decide) ?_
  refine kq_cS (st1 := []) ⟨hx, hb, hml, hown, hts⟩ (c_refuseUnlessBelow_ok u (by omega) (by omega)) (va_cwS 2 hts gX4_62_X4_refuseUnlessBelow rfl rfl rfl (by decide +kernel) ⟨Nat.le_of_ble_eq_true rfl, Nat.le_of_ble_eq_true rfl⟩) tm_Gok hK hP hD hA hG hS rfl hl.1 rfl rfl (Nat.le_of_ble_eq_true rfl) dX4_load_2 ⟨Nat.le_of_ble_eq_true rfl, Nat.le_of_ble_eq_true rfl⟩ (fun H locs hP hD hS => ?_)
  refine lv_iload_n hx hb dX4_load_5 rfl (lv_at hl 2 rfl) ?_
  refine lv_bipush (v := (nI 8)) hx hb dX4_load_6 (by decide) ?_
  refine kq_cS (st1 := []) ⟨hx, hb, hml, hown, hts⟩ (c_refuseUnlessBelow_ok u (by omega) (by omega)) (va_cwS 2 hts gX4_62_X4_refuseUnlessBelow rfl rfl rfl (by decide +kernel) ⟨Nat.le_of_ble_eq_true rfl, Nat.le_of_ble_eq_true rfl⟩) tm_Gok hK hP hD hA hG hS rfl hl.1 rfl rfl (Nat.le_of_ble_eq_true rfl) dX4_load_8 ⟨Nat.le_of_ble_eq_true rfl, Nat.le_of_ble_eq_true rfl⟩ (fun H locs hP hD hS => ?_)
  refine lv_aload_n hx hb dX4_load_11 rfl (lv_at hl 0 rfl) ?_
  refine kq_cV (st1 := []) ⟨hx, hb, hml, hown, hts⟩ (c_refuseWhenLost_ok u hnl) (cwV 0 hts gX4_66_X4_refuseWhenLost rfl rfl rfl (by decide +kernel) ⟨Nat.le_of_ble_eq_true rfl, Nat.le_of_ble_eq_true rfl⟩) tm_Gok hK hP hD hA hG hS (va_recv hK hP (ci := 4) (q0 := 0) rfl (tm_at (i := 0) (by omega) rfl)) rfl hl.1 rfl rfl (Nat.le_of_ble_eq_true rfl) dX4_load_12 ⟨Nat.le_of_ble_eq_true rfl, Nat.le_of_ble_eq_true rfl⟩ (fun H locs hP hD hS => ?_)
  refine lv_aload_n hx hb dX4_load_15 rfl (lv_at hl 0 rfl) ?_
  refine lv_iload_n hx hb dX4_load_16 rfl (lv_at hl 1 rfl) ?_
  refine kq_cV (st1 := [.ref (ad (j + 9))]) ⟨hx, hb, hml, hown, hts⟩ (c_heldKey_ok u (k := j) (by omega) hh) (cwV 1 hts gX4_81_X4_heldKey rfl rfl rfl (by decide +kernel) ⟨Nat.le_of_ble_eq_true rfl, Nat.le_of_ble_eq_true rfl⟩) tm_Gok hK hP hD hA hG hS (va_recv hK hP (ci := 4) (q0 := 0) rfl (tm_at (i := 0) (by omega) rfl)) rfl hl.1 rfl rfl (Nat.le_of_ble_eq_true rfl) dX4_load_17 ⟨Nat.le_of_ble_eq_true rfl, Nat.le_of_ble_eq_true rfl⟩ (fun H locs hP hD hS => ?_)
  refine lv_astore_n (lv' := [(3, .ref (ad (j + 9))), (0, .ref (ad 0)), (1, .int (nI j)), (2, .int (nI i))]) hx hb dX4_load_20 rfl hl (by decide) rfl (fun ls hl => ?_)
  refine lv_aload_n hx hb dX4_load_21 rfl (lv_at hl 1 rfl) ?_
  refine lv_iload_n hx hb dX4_load_22 rfl (lv_at hl 3 rfl) ?_
  exact kq_tV ⟨hx, hb, hml, hown, hts⟩ (c_madeBlob_no hl9 u (k := i) (by omega) hm) (cwV 1 hts gX4_97_X4_madeBlob rfl rfl rfl (by decide +kernel) ⟨Nat.le_of_ble_eq_true rfl, Nat.le_of_ble_eq_true rfl⟩) tm_Gok hK hP hD hA hG hS (va_recv hK hP (ci := 4) (q0 := 0) rfl (tm_at (i := 0) (by omega) rfl)) rfl hl.1 rfl (Nat.le_of_ble_eq_true rfl) dX4_load_23 ⟨Nat.le_of_ble_eq_true rfl, Nat.le_of_ble_eq_true rfl⟩ hlk hEx (Nat.le_of_ble_eq_true rfl) (Nat.le_of_ble_eq_true rfl)
set_option maxHeartbeats 4000000 in
set_option maxRecDepth 100000 in
theorem m_load_nop (hl9 : l.stackTraces = false) (u : tm_S) {j i : Nat} (hj : j < 4) (hi : i < 8) (hnl : u.2.1 11 0 = 0) (hh : ¬ u.2.1 0 j = 0) (hm : ¬ u.2.1 3 i = 0) (hp : u.2.1 2 j = 0) : kc_T l dC dI gs ad cc yX4_load wsX4_load { frames := 8, cells := 1, slots := 6, locals := 125 } [.ref (ad 0), .int (nI j), .int (nI i)] u u "java/lang/UnsupportedOperationException" := by
  refine kq_ofT (cc := cX4_load) (maxL := 8) (ret := (some .int)) (R0 := RX4) (by decide) rfl rfl (Nat.le_of_ble_eq_true rfl) ?_
  intro p e s m below meth c A ls hx hb hr hlk hml hown hts hP hK hD hA hG hS hl hEx
  have hl : lv_has ls 8 [(0, .ref (ad 0)), (1, .int (nI j)), (2, .int (nI i))] := hl
  refine lv_iload_n hx hb dX4_load_0 rfl (lv_at hl 1 rfl) ?_
  refine lv_iconst (v := (nI 4)) hx hb dX4_load_1 (by decide) ?_
  refine kq_cS (st1 := []) ⟨hx, hb, hml, hown, hts⟩ (c_refuseUnlessBelow_ok u (by omega) (by omega)) (va_cwS 2 hts gX4_62_X4_refuseUnlessBelow rfl rfl rfl (by decide +kernel) ⟨Nat.le_of_ble_eq_true rfl, Nat.le_of_ble_eq_true rfl⟩) tm_Gok hK hP hD hA hG hS rfl hl.1 rfl rfl (Nat.le_of_ble_eq_true rfl) dX4_load_2 ⟨Nat.le_of_ble_eq_true rfl, Nat.le_of_ble_eq_true rfl⟩ (fun H locs hP hD hS => ?_)
  refine lv_iload_n hx hb dX4_load_5 rfl (lv_at hl 2 rfl) ?_
  refine lv_bipush (v := (nI 8)) hx hb dX4_load_6 (by decide) ?_
  refine kq_cS (st1 := []) ⟨hx, hb, hml, hown, hts⟩ (c_refuseUnlessBelow_ok u (by omega) (by omega)) (va_cwS 2 hts gX4_62_X4_refuseUnlessBelow rfl rfl rfl (by decide +kernel) ⟨Nat.le_of_ble_eq_true rfl, Nat.le_of_ble_eq_true rfl⟩) tm_Gok hK hP hD hA hG hS rfl hl.1 rfl rfl (Nat.le_of_ble_eq_true rfl) dX4_load_8 ⟨Nat.le_of_ble_eq_true rfl, Nat.le_of_ble_eq_true rfl⟩ (fun H locs hP hD hS => ?_)
  refine lv_aload_n hx hb dX4_load_11 rfl (lv_at hl 0 rfl) ?_
  refine kq_cV (st1 := []) ⟨hx, hb, hml, hown, hts⟩ (c_refuseWhenLost_ok u hnl) (cwV 0 hts gX4_66_X4_refuseWhenLost rfl rfl rfl (by decide +kernel) ⟨Nat.le_of_ble_eq_true rfl, Nat.le_of_ble_eq_true rfl⟩) tm_Gok hK hP hD hA hG hS (va_recv hK hP (ci := 4) (q0 := 0) rfl (tm_at (i := 0) (by omega) rfl)) rfl hl.1 rfl rfl (Nat.le_of_ble_eq_true rfl) dX4_load_12 ⟨Nat.le_of_ble_eq_true rfl, Nat.le_of_ble_eq_true rfl⟩ (fun H locs hP hD hS => ?_)
  refine lv_aload_n hx hb dX4_load_15 rfl (lv_at hl 0 rfl) ?_
  refine lv_iload_n hx hb dX4_load_16 rfl (lv_at hl 1 rfl) ?_
  refine kq_cV (st1 := [.ref (ad (j + 9))]) ⟨hx, hb, hml, hown, hts⟩ (c_heldKey_ok u (k := j) (by omega) hh) (cwV 1 hts gX4_81_X4_heldKey rfl rfl rfl (by decide +kernel) ⟨Nat.le_of_ble_eq_true rfl, Nat.le_of_ble_eq_true rfl⟩) tm_Gok hK hP hD hA hG hS (va_recv hK hP (ci := 4) (q0 := 0) rfl (tm_at (i := 0) (by omega) rfl)) rfl hl.1 rfl rfl (Nat.le_of_ble_eq_true rfl) dX4_load_17 ⟨Nat.le_of_ble_eq_true rfl, Nat.le_of_ble_eq_true rfl⟩ (fun H locs hP hD hS => ?_)
  refine lv_astore_n (lv' := [(3, .ref (ad (j + 9))), (0, .ref (ad 0)), (1, .int (nI j)), (2, .int (nI i))]) hx hb dX4_load_20 rfl hl (by decide) rfl (fun ls hl => ?_)
  refine lv_aload_n hx hb dX4_load_21 rfl (lv_at hl 1 rfl) ?_
  refine lv_iload_n hx hb dX4_load_22 rfl (lv_at hl 3 rfl) ?_
  refine kq_cV (st1 := [.ref (ad (i + 13))]) ⟨hx, hb, hml, hown, hts⟩ (c_madeBlob_ok u (k := i) (by omega) hm) (cwV 1 hts gX4_97_X4_madeBlob rfl rfl rfl (by decide +kernel) ⟨Nat.le_of_ble_eq_true rfl, Nat.le_of_ble_eq_true rfl⟩) tm_Gok hK hP hD hA hG hS (va_recv hK hP (ci := 4) (q0 := 0) rfl (tm_at (i := 0) (by omega) rfl)) rfl hl.1 rfl rfl (Nat.le_of_ble_eq_true rfl) dX4_load_23 ⟨Nat.le_of_ble_eq_true rfl, Nat.le_of_ble_eq_true rfl⟩ (fun H locs hP hD hS => ?_)
  refine lv_astore (lv' := [(4, .ref (ad (i + 13))), (3, .ref (ad (j + 9))), (0, .ref (ad 0)), (1, .int (nI j)), (2, .int (nI i))]) hx hb dX4_load_26 hl (by decide) rfl (fun ls hl => ?_)
  refine lv_aload_n hx hb dX4_load_28 rfl (lv_at hl 1 rfl) ?_
  exact kq_tS ⟨hx, hb, hml, hown, hts⟩ (c_refuseUnlessParent_no hl9 u (k := j) (by omega) hp) (va_cwS 1 hts gX4_85_X4_refuseUnlessParent rfl rfl rfl (by decide +kernel) ⟨Nat.le_of_ble_eq_true rfl, Nat.le_of_ble_eq_true rfl⟩) tm_Gok hK hP hD hA hG hS rfl hl.1 rfl (Nat.le_of_ble_eq_true rfl) dX4_load_29 ⟨Nat.le_of_ble_eq_true rfl, Nat.le_of_ble_eq_true rfl⟩ hlk hEx (Nat.le_of_ble_eq_true rfl) (Nat.le_of_ble_eq_true rfl)
set_option maxHeartbeats 4000000 in
set_option maxRecDepth 100000 in
theorem m_load_tam (hl9 : l.stackTraces = false) (u : tm_S) {j i : Nat} (hj : j < 4) (hi : i < 8) (hnl : u.2.1 11 0 = 0) (hh : ¬ u.2.1 0 j = 0) (hm : ¬ u.2.1 3 i = 0) (hp : ¬ u.2.1 2 j = 0) (ht : ¬ u.1 5 (4 * i + 3) = tm_h (tm_h (u.1 2 j) 3) (tm_h (tm_h (u.1 5 (4 * i + 0)) (u.1 5 (4 * i + 1))) (u.1 5 (4 * i + 2))))  : kc_T l dC dI gs ad cc yX4_load wsX4_load { frames := 8, cells := 1, slots := 6, locals := 125 } [.ref (ad 0), .int (nI j), .int (nI i)] u u "java/lang/ArithmeticException" := by
  refine kq_ofT (cc := cX4_load) (maxL := 8) (ret := (some .int)) (R0 := RX4) (by decide) rfl rfl (Nat.le_of_ble_eq_true rfl) ?_
  intro p e s m below meth c A ls hx hb hr hlk hml hown hts hP hK hD hA hG hS hl hEx
  have hl : lv_has ls 8 [(0, .ref (ad 0)), (1, .int (nI j)), (2, .int (nI i))] := hl
  refine lv_iload_n hx hb dX4_load_0 rfl (lv_at hl 1 rfl) ?_
  refine lv_iconst (v := (nI 4)) hx hb dX4_load_1 (by decide) ?_
  refine kq_cS (st1 := []) ⟨hx, hb, hml, hown, hts⟩ (c_refuseUnlessBelow_ok u (by omega) (by omega)) (va_cwS 2 hts gX4_62_X4_refuseUnlessBelow rfl rfl rfl (by decide +kernel) ⟨Nat.le_of_ble_eq_true rfl, Nat.le_of_ble_eq_true rfl⟩) tm_Gok hK hP hD hA hG hS rfl hl.1 rfl rfl (Nat.le_of_ble_eq_true rfl) dX4_load_2 ⟨Nat.le_of_ble_eq_true rfl, Nat.le_of_ble_eq_true rfl⟩ (fun H locs hP hD hS => ?_)
  refine lv_iload_n hx hb dX4_load_5 rfl (lv_at hl 2 rfl) ?_
  refine lv_bipush (v := (nI 8)) hx hb dX4_load_6 (by decide) ?_
  refine kq_cS (st1 := []) ⟨hx, hb, hml, hown, hts⟩ (c_refuseUnlessBelow_ok u (by omega) (by omega)) (va_cwS 2 hts gX4_62_X4_refuseUnlessBelow rfl rfl rfl (by decide +kernel) ⟨Nat.le_of_ble_eq_true rfl, Nat.le_of_ble_eq_true rfl⟩) tm_Gok hK hP hD hA hG hS rfl hl.1 rfl rfl (Nat.le_of_ble_eq_true rfl) dX4_load_8 ⟨Nat.le_of_ble_eq_true rfl, Nat.le_of_ble_eq_true rfl⟩ (fun H locs hP hD hS => ?_)
  refine lv_aload_n hx hb dX4_load_11 rfl (lv_at hl 0 rfl) ?_
  refine kq_cV (st1 := []) ⟨hx, hb, hml, hown, hts⟩ (c_refuseWhenLost_ok u hnl) (cwV 0 hts gX4_66_X4_refuseWhenLost rfl rfl rfl (by decide +kernel) ⟨Nat.le_of_ble_eq_true rfl, Nat.le_of_ble_eq_true rfl⟩) tm_Gok hK hP hD hA hG hS (va_recv hK hP (ci := 4) (q0 := 0) rfl (tm_at (i := 0) (by omega) rfl)) rfl hl.1 rfl rfl (Nat.le_of_ble_eq_true rfl) dX4_load_12 ⟨Nat.le_of_ble_eq_true rfl, Nat.le_of_ble_eq_true rfl⟩ (fun H locs hP hD hS => ?_)
  refine lv_aload_n hx hb dX4_load_15 rfl (lv_at hl 0 rfl) ?_
  refine lv_iload_n hx hb dX4_load_16 rfl (lv_at hl 1 rfl) ?_
  refine kq_cV (st1 := [.ref (ad (j + 9))]) ⟨hx, hb, hml, hown, hts⟩ (c_heldKey_ok u (k := j) (by omega) hh) (cwV 1 hts gX4_81_X4_heldKey rfl rfl rfl (by decide +kernel) ⟨Nat.le_of_ble_eq_true rfl, Nat.le_of_ble_eq_true rfl⟩) tm_Gok hK hP hD hA hG hS (va_recv hK hP (ci := 4) (q0 := 0) rfl (tm_at (i := 0) (by omega) rfl)) rfl hl.1 rfl rfl (Nat.le_of_ble_eq_true rfl) dX4_load_17 ⟨Nat.le_of_ble_eq_true rfl, Nat.le_of_ble_eq_true rfl⟩ (fun H locs hP hD hS => ?_)
  refine lv_astore_n (lv' := [(3, .ref (ad (j + 9))), (0, .ref (ad 0)), (1, .int (nI j)), (2, .int (nI i))]) hx hb dX4_load_20 rfl hl (by decide) rfl (fun ls hl => ?_)
  refine lv_aload_n hx hb dX4_load_21 rfl (lv_at hl 1 rfl) ?_
  refine lv_iload_n hx hb dX4_load_22 rfl (lv_at hl 3 rfl) ?_
  refine kq_cV (st1 := [.ref (ad (i + 13))]) ⟨hx, hb, hml, hown, hts⟩ (c_madeBlob_ok u (k := i) (by omega) hm) (cwV 1 hts gX4_97_X4_madeBlob rfl rfl rfl (by decide +kernel) ⟨Nat.le_of_ble_eq_true rfl, Nat.le_of_ble_eq_true rfl⟩) tm_Gok hK hP hD hA hG hS (va_recv hK hP (ci := 4) (q0 := 0) rfl (tm_at (i := 0) (by omega) rfl)) rfl hl.1 rfl rfl (Nat.le_of_ble_eq_true rfl) dX4_load_23 ⟨Nat.le_of_ble_eq_true rfl, Nat.le_of_ble_eq_true rfl⟩ (fun H locs hP hD hS => ?_)
  refine lv_astore (lv' := [(4, .ref (ad (i + 13))), (3, .ref (ad (j + 9))), (0, .ref (ad 0)), (1, .int (nI j)), (2, .int (nI i))]) hx hb dX4_load_26 hl (by decide) rfl (fun ls hl => ?_)
  refine lv_aload_n hx hb dX4_load_28 rfl (lv_at hl 1 rfl) ?_
  refine kq_cS (st1 := []) ⟨hx, hb, hml, hown, hts⟩ (c_refuseUnlessParent_ok u (k := j) (by omega) hp) (va_cwS 1 hts gX4_85_X4_refuseUnlessParent rfl rfl rfl (by decide +kernel) ⟨Nat.le_of_ble_eq_true rfl, Nat.le_of_ble_eq_true rfl⟩) tm_Gok hK hP hD hA hG hS rfl hl.1 rfl rfl (Nat.le_of_ble_eq_true rfl) dX4_load_29 ⟨Nat.le_of_ble_eq_true rfl, Nat.le_of_ble_eq_true rfl⟩ (fun H locs hP hD hS => ?_)
  refine lv_aload hx hb dX4_load_32 (lv_at hl 0 rfl) ?_
  refine lv_aload_n hx hb dX4_load_34 rfl (lv_at hl 1 rfl) ?_
  refine tc_gK_value hx hb hts inB_X2 hown hK hP (by omega) (hts _ mb_47) dX4_load_35 ?_
  exact kq_tS ⟨hx, hb, hml, hown, hts⟩ (c_refuseTampered_no hl9 u (k := i) (by omega) (u.1 2 j) ht) (va_cwS 2 hts gX4_101_X4_refuseTampered rfl rfl rfl (by decide +kernel) ⟨Nat.le_of_ble_eq_true rfl, Nat.le_of_ble_eq_true rfl⟩) tm_Gok hK hP hD hA hG hS rfl hl.1 rfl (Nat.le_of_ble_eq_true rfl) dX4_load_38 ⟨Nat.le_of_ble_eq_true rfl, Nat.le_of_ble_eq_true rfl⟩ hlk hEx (Nat.le_of_ble_eq_true rfl) (Nat.le_of_ble_eq_true rfl)
set_option maxHeartbeats 4000000 in
set_option maxRecDepth 100000 in
theorem m_load_full (hl9 : l.stackTraces = false) (u : tm_S) {j i : Nat} (hj : j < 4) (hi : i < 8) (hnl : u.2.1 11 0 = 0) (hh : ¬ u.2.1 0 j = 0) (hm : ¬ u.2.1 3 i = 0) (hp : ¬ u.2.1 2 j = 0) (ht : u.1 5 (4 * i + 3) = tm_h (tm_h (u.1 2 j) 3) (tm_h (tm_h (u.1 5 (4 * i + 0)) (u.1 5 (4 * i + 1))) (u.1 5 (4 * i + 2)))) (hf : ∀ i, i < 4 → ¬ u.2.1 0 i = 0) : kc_T l dC dI gs ad cc yX4_load wsX4_load { frames := 8, cells := 1, slots := 6, locals := 125 } [.ref (ad 0), .int (nI j), .int (nI i)] u u "java/lang/IllegalStateException" := by
  refine kq_ofT (cc := cX4_load) (maxL := 8) (ret := (some .int)) (R0 := RX4) (by decide) rfl rfl (Nat.le_of_ble_eq_true rfl) ?_
  intro p e s m below meth c A ls hx hb hr hlk hml hown hts hP hK hD hA hG hS hl hEx
  have hl : lv_has ls 8 [(0, .ref (ad 0)), (1, .int (nI j)), (2, .int (nI i))] := hl
  refine lv_iload_n hx hb dX4_load_0 rfl (lv_at hl 1 rfl) ?_
  refine lv_iconst (v := (nI 4)) hx hb dX4_load_1 (by decide) ?_
  refine kq_cS (st1 := []) ⟨hx, hb, hml, hown, hts⟩ (c_refuseUnlessBelow_ok u (by omega) (by omega)) (va_cwS 2 hts gX4_62_X4_refuseUnlessBelow rfl rfl rfl (by decide +kernel) ⟨Nat.le_of_ble_eq_true rfl, Nat.le_of_ble_eq_true rfl⟩) tm_Gok hK hP hD hA hG hS rfl hl.1 rfl rfl (Nat.le_of_ble_eq_true rfl) dX4_load_2 ⟨Nat.le_of_ble_eq_true rfl, Nat.le_of_ble_eq_true rfl⟩ (fun H locs hP hD hS => ?_)
  refine lv_iload_n hx hb dX4_load_5 rfl (lv_at hl 2 rfl) ?_
  refine lv_bipush (v := (nI 8)) hx hb dX4_load_6 (by decide) ?_
  refine kq_cS (st1 := []) ⟨hx, hb, hml, hown, hts⟩ (c_refuseUnlessBelow_ok u (by omega) (by omega)) (va_cwS 2 hts gX4_62_X4_refuseUnlessBelow rfl rfl rfl (by decide +kernel) ⟨Nat.le_of_ble_eq_true rfl, Nat.le_of_ble_eq_true rfl⟩) tm_Gok hK hP hD hA hG hS rfl hl.1 rfl rfl (Nat.le_of_ble_eq_true rfl) dX4_load_8 ⟨Nat.le_of_ble_eq_true rfl, Nat.le_of_ble_eq_true rfl⟩ (fun H locs hP hD hS => ?_)
  refine lv_aload_n hx hb dX4_load_11 rfl (lv_at hl 0 rfl) ?_
  refine kq_cV (st1 := []) ⟨hx, hb, hml, hown, hts⟩ (c_refuseWhenLost_ok u hnl) (cwV 0 hts gX4_66_X4_refuseWhenLost rfl rfl rfl (by decide +kernel) ⟨Nat.le_of_ble_eq_true rfl, Nat.le_of_ble_eq_true rfl⟩) tm_Gok hK hP hD hA hG hS (va_recv hK hP (ci := 4) (q0 := 0) rfl (tm_at (i := 0) (by omega) rfl)) rfl hl.1 rfl rfl (Nat.le_of_ble_eq_true rfl) dX4_load_12 ⟨Nat.le_of_ble_eq_true rfl, Nat.le_of_ble_eq_true rfl⟩ (fun H locs hP hD hS => ?_)
  refine lv_aload_n hx hb dX4_load_15 rfl (lv_at hl 0 rfl) ?_
  refine lv_iload_n hx hb dX4_load_16 rfl (lv_at hl 1 rfl) ?_
  refine kq_cV (st1 := [.ref (ad (j + 9))]) ⟨hx, hb, hml, hown, hts⟩ (c_heldKey_ok u (k := j) (by omega) hh) (cwV 1 hts gX4_81_X4_heldKey rfl rfl rfl (by decide +kernel) ⟨Nat.le_of_ble_eq_true rfl, Nat.le_of_ble_eq_true rfl⟩) tm_Gok hK hP hD hA hG hS (va_recv hK hP (ci := 4) (q0 := 0) rfl (tm_at (i := 0) (by omega) rfl)) rfl hl.1 rfl rfl (Nat.le_of_ble_eq_true rfl) dX4_load_17 ⟨Nat.le_of_ble_eq_true rfl, Nat.le_of_ble_eq_true rfl⟩ (fun H locs hP hD hS => ?_)
  refine lv_astore_n (lv' := [(3, .ref (ad (j + 9))), (0, .ref (ad 0)), (1, .int (nI j)), (2, .int (nI i))]) hx hb dX4_load_20 rfl hl (by decide) rfl (fun ls hl => ?_)
  refine lv_aload_n hx hb dX4_load_21 rfl (lv_at hl 1 rfl) ?_
  refine lv_iload_n hx hb dX4_load_22 rfl (lv_at hl 3 rfl) ?_
  refine kq_cV (st1 := [.ref (ad (i + 13))]) ⟨hx, hb, hml, hown, hts⟩ (c_madeBlob_ok u (k := i) (by omega) hm) (cwV 1 hts gX4_97_X4_madeBlob rfl rfl rfl (by decide +kernel) ⟨Nat.le_of_ble_eq_true rfl, Nat.le_of_ble_eq_true rfl⟩) tm_Gok hK hP hD hA hG hS (va_recv hK hP (ci := 4) (q0 := 0) rfl (tm_at (i := 0) (by omega) rfl)) rfl hl.1 rfl rfl (Nat.le_of_ble_eq_true rfl) dX4_load_23 ⟨Nat.le_of_ble_eq_true rfl, Nat.le_of_ble_eq_true rfl⟩ (fun H locs hP hD hS => ?_)
  refine lv_astore (lv' := [(4, .ref (ad (i + 13))), (3, .ref (ad (j + 9))), (0, .ref (ad 0)), (1, .int (nI j)), (2, .int (nI i))]) hx hb dX4_load_26 hl (by decide) rfl (fun ls hl => ?_)
  refine lv_aload_n hx hb dX4_load_28 rfl (lv_at hl 1 rfl) ?_
  refine kq_cS (st1 := []) ⟨hx, hb, hml, hown, hts⟩ (c_refuseUnlessParent_ok u (k := j) (by omega) hp) (va_cwS 1 hts gX4_85_X4_refuseUnlessParent rfl rfl rfl (by decide +kernel) ⟨Nat.le_of_ble_eq_true rfl, Nat.le_of_ble_eq_true rfl⟩) tm_Gok hK hP hD hA hG hS rfl hl.1 rfl rfl (Nat.le_of_ble_eq_true rfl) dX4_load_29 ⟨Nat.le_of_ble_eq_true rfl, Nat.le_of_ble_eq_true rfl⟩ (fun H locs hP hD hS => ?_)
  refine lv_aload hx hb dX4_load_32 (lv_at hl 0 rfl) ?_
  refine lv_aload_n hx hb dX4_load_34 rfl (lv_at hl 1 rfl) ?_
  refine tc_gK_value hx hb hts inB_X2 hown hK hP (by omega) (hts _ mb_47) dX4_load_35 ?_
  refine kq_cS (st1 := []) ⟨hx, hb, hml, hown, hts⟩ (c_refuseTampered_ok u (k := i) (by omega) (u.1 2 j) ht) (va_cwS 2 hts gX4_101_X4_refuseTampered rfl rfl rfl (by decide +kernel) ⟨Nat.le_of_ble_eq_true rfl, Nat.le_of_ble_eq_true rfl⟩) tm_Gok hK hP hD hA hG hS rfl hl.1 rfl rfl (Nat.le_of_ble_eq_true rfl) dX4_load_38 ⟨Nat.le_of_ble_eq_true rfl, Nat.le_of_ble_eq_true rfl⟩ (fun H locs hP hD hS => ?_)
  refine lv_aload_n hx hb dX4_load_41 rfl (lv_at hl 2 rfl) ?_
  exact kq_tV ⟨hx, hb, hml, hown, hts⟩ (c_leastFree_4 hl9 u (hf 0 (by omega)) (hf 1 (by omega)) (hf 2 (by omega)) (hf 3 (by omega))) (cwV 0 hts gX4_73_X4_leastFreeHandle rfl rfl rfl (by decide +kernel) ⟨Nat.le_of_ble_eq_true rfl, Nat.le_of_ble_eq_true rfl⟩) tm_Gok hK hP hD hA hG hS (va_recv hK hP (ci := 4) (q0 := 0) rfl (tm_at (i := 0) (by omega) rfl)) rfl hl.1 rfl (Nat.le_of_ble_eq_true rfl) dX4_load_42 ⟨Nat.le_of_ble_eq_true rfl, Nat.le_of_ble_eq_true rfl⟩ hlk hEx (Nat.le_of_ble_eq_true rfl) (Nat.le_of_ble_eq_true rfl)
set_option maxHeartbeats 4000000 in
set_option maxRecDepth 100000 in
theorem m_load_even (u : tm_S) {j i : Nat} (hj : j < 4) (hi : i < 8) (hnl : u.2.1 11 0 = 0) (hh : ¬ u.2.1 0 j = 0) (hm : ¬ u.2.1 3 i = 0) (hp : ¬ u.2.1 2 j = 0) (ht : u.1 5 (4 * i + 3) = tm_h (tm_h (u.1 2 j) 3) (tm_h (tm_h (u.1 5 (4 * i + 0)) (u.1 5 (4 * i + 1))) (u.1 5 (4 * i + 2)))) {k : Nat} (hk : k < 4) (hf : u.2.1 0 k = 0) (ha : ∀ i, i < k → ¬ u.2.1 0 i = 0) (he : ((u.1 5 (4 * i + 0)) ^^^ (tm_h (u.1 2 j) 1)) &&& 1 = 0) : kc_M l dC dI gs ad cc yX4_load wsX4_load { frames := 8, cells := 0, slots := 0, locals := 125 } [.ref (ad 0), .int (nI j), .int (nI i)] u (tm_I (tm_L (tm_L (tm_I (tm_L (tm_I u 0 k (nI 1)) 2 k (tm_h (u.1 2 j) (u.1 5 (4 * i + 3)))) 1 k (((u.1 5 (4 * i + 1)) ^^^ (tm_h (u.1 2 j) 2)).toInt32)) 3 k (u.1 5 (4 * i + 2))) 4 k ((u.1 5 (4 * i + 0)) ^^^ (tm_h (u.1 2 j) 1))) 2 k (nI 1)) (some (.int (nI k))) := by
  refine kq_ofW (cc := cX4_load) (maxL := 8) (ret := (some .int)) (R0 := RX4) (by decide) rfl rfl (Nat.le_of_ble_eq_true rfl) ?_
  intro p e s m below meth c A ls hx hb hr hlk hml hown hts hP hK hD hA hG hS hl
  have hl : lv_has ls 8 [(0, .ref (ad 0)), (1, .int (nI j)), (2, .int (nI i))] := hl
  refine lv_iload_n hx hb dX4_load_0 rfl (lv_at hl 1 rfl) ?_
  refine lv_iconst (v := (nI 4)) hx hb dX4_load_1 (by decide) ?_
  refine kq_cS (st1 := []) ⟨hx, hb, hml, hown, hts⟩ (c_refuseUnlessBelow_ok u (by omega) (by omega)) (va_cwS 2 hts gX4_62_X4_refuseUnlessBelow rfl rfl rfl (by decide +kernel) ⟨Nat.le_of_ble_eq_true rfl, Nat.le_of_ble_eq_true rfl⟩) tm_Gok hK hP hD hA hG hS rfl hl.1 rfl rfl (Nat.le_of_ble_eq_true rfl) dX4_load_2 ⟨Nat.le_of_ble_eq_true rfl, Nat.le_of_ble_eq_true rfl⟩ (fun H locs hP hD hS => ?_)
  refine lv_iload_n hx hb dX4_load_5 rfl (lv_at hl 2 rfl) ?_
  refine lv_bipush (v := (nI 8)) hx hb dX4_load_6 (by decide) ?_
  refine kq_cS (st1 := []) ⟨hx, hb, hml, hown, hts⟩ (c_refuseUnlessBelow_ok u (by omega) (by omega)) (va_cwS 2 hts gX4_62_X4_refuseUnlessBelow rfl rfl rfl (by decide +kernel) ⟨Nat.le_of_ble_eq_true rfl, Nat.le_of_ble_eq_true rfl⟩) tm_Gok hK hP hD hA hG hS rfl hl.1 rfl rfl (Nat.le_of_ble_eq_true rfl) dX4_load_8 ⟨Nat.le_of_ble_eq_true rfl, Nat.le_of_ble_eq_true rfl⟩ (fun H locs hP hD hS => ?_)
  refine lv_aload_n hx hb dX4_load_11 rfl (lv_at hl 0 rfl) ?_
  refine kq_cV (st1 := []) ⟨hx, hb, hml, hown, hts⟩ (c_refuseWhenLost_ok u hnl) (cwV 0 hts gX4_66_X4_refuseWhenLost rfl rfl rfl (by decide +kernel) ⟨Nat.le_of_ble_eq_true rfl, Nat.le_of_ble_eq_true rfl⟩) tm_Gok hK hP hD hA hG hS (va_recv hK hP (ci := 4) (q0 := 0) rfl (tm_at (i := 0) (by omega) rfl)) rfl hl.1 rfl rfl (Nat.le_of_ble_eq_true rfl) dX4_load_12 ⟨Nat.le_of_ble_eq_true rfl, Nat.le_of_ble_eq_true rfl⟩ (fun H locs hP hD hS => ?_)
  refine lv_aload_n hx hb dX4_load_15 rfl (lv_at hl 0 rfl) ?_
  refine lv_iload_n hx hb dX4_load_16 rfl (lv_at hl 1 rfl) ?_
  refine kq_cV (st1 := [.ref (ad (j + 9))]) ⟨hx, hb, hml, hown, hts⟩ (c_heldKey_ok u (k := j) (by omega) hh) (cwV 1 hts gX4_81_X4_heldKey rfl rfl rfl (by decide +kernel) ⟨Nat.le_of_ble_eq_true rfl, Nat.le_of_ble_eq_true rfl⟩) tm_Gok hK hP hD hA hG hS (va_recv hK hP (ci := 4) (q0 := 0) rfl (tm_at (i := 0) (by omega) rfl)) rfl hl.1 rfl rfl (Nat.le_of_ble_eq_true rfl) dX4_load_17 ⟨Nat.le_of_ble_eq_true rfl, Nat.le_of_ble_eq_true rfl⟩ (fun H locs hP hD hS => ?_)
  refine lv_astore_n (lv' := [(3, .ref (ad (j + 9))), (0, .ref (ad 0)), (1, .int (nI j)), (2, .int (nI i))]) hx hb dX4_load_20 rfl hl (by decide) rfl (fun ls hl => ?_)
  refine lv_aload_n hx hb dX4_load_21 rfl (lv_at hl 1 rfl) ?_
  refine lv_iload_n hx hb dX4_load_22 rfl (lv_at hl 3 rfl) ?_
  refine kq_cV (st1 := [.ref (ad (i + 13))]) ⟨hx, hb, hml, hown, hts⟩ (c_madeBlob_ok u (k := i) (by omega) hm) (cwV 1 hts gX4_97_X4_madeBlob rfl rfl rfl (by decide +kernel) ⟨Nat.le_of_ble_eq_true rfl, Nat.le_of_ble_eq_true rfl⟩) tm_Gok hK hP hD hA hG hS (va_recv hK hP (ci := 4) (q0 := 0) rfl (tm_at (i := 0) (by omega) rfl)) rfl hl.1 rfl rfl (Nat.le_of_ble_eq_true rfl) dX4_load_23 ⟨Nat.le_of_ble_eq_true rfl, Nat.le_of_ble_eq_true rfl⟩ (fun H locs hP hD hS => ?_)
  refine lv_astore (lv' := [(4, .ref (ad (i + 13))), (3, .ref (ad (j + 9))), (0, .ref (ad 0)), (1, .int (nI j)), (2, .int (nI i))]) hx hb dX4_load_26 hl (by decide) rfl (fun ls hl => ?_)
  refine lv_aload_n hx hb dX4_load_28 rfl (lv_at hl 1 rfl) ?_
  refine kq_cS (st1 := []) ⟨hx, hb, hml, hown, hts⟩ (c_refuseUnlessParent_ok u (k := j) (by omega) hp) (va_cwS 1 hts gX4_85_X4_refuseUnlessParent rfl rfl rfl (by decide +kernel) ⟨Nat.le_of_ble_eq_true rfl, Nat.le_of_ble_eq_true rfl⟩) tm_Gok hK hP hD hA hG hS rfl hl.1 rfl rfl (Nat.le_of_ble_eq_true rfl) dX4_load_29 ⟨Nat.le_of_ble_eq_true rfl, Nat.le_of_ble_eq_true rfl⟩ (fun H locs hP hD hS => ?_)
  refine lv_aload hx hb dX4_load_32 (lv_at hl 0 rfl) ?_
  refine lv_aload_n hx hb dX4_load_34 rfl (lv_at hl 1 rfl) ?_
  refine tc_gK_value hx hb hts inB_X2 hown hK hP (by omega) (hts _ mb_47) dX4_load_35 ?_
  refine kq_cS (st1 := []) ⟨hx, hb, hml, hown, hts⟩ (c_refuseTampered_ok u (k := i) (by omega) (u.1 2 j) ht) (va_cwS 2 hts gX4_101_X4_refuseTampered rfl rfl rfl (by decide +kernel) ⟨Nat.le_of_ble_eq_true rfl, Nat.le_of_ble_eq_true rfl⟩) tm_Gok hK hP hD hA hG hS rfl hl.1 rfl rfl (Nat.le_of_ble_eq_true rfl) dX4_load_38 ⟨Nat.le_of_ble_eq_true rfl, Nat.le_of_ble_eq_true rfl⟩ (fun H locs hP hD hS => ?_)
  refine lv_aload_n hx hb dX4_load_41 rfl (lv_at hl 2 rfl) ?_
  refine kq_cV (st1 := [.int (nI k)]) ⟨hx, hb, hml, hown, hts⟩ (c_leastFree_ok u (j := k) (by omega) hf ha) (cwV 0 hts gX4_73_X4_leastFreeHandle rfl rfl rfl (by decide +kernel) ⟨Nat.le_of_ble_eq_true rfl, Nat.le_of_ble_eq_true rfl⟩) tm_Gok hK hP hD hA hG hS (va_recv hK hP (ci := 4) (q0 := 0) rfl (tm_at (i := 0) (by omega) rfl)) rfl hl.1 rfl rfl (Nat.le_of_ble_eq_true rfl) dX4_load_42 ⟨Nat.le_of_ble_eq_true rfl, Nat.le_of_ble_eq_true rfl⟩ (fun H locs hP hD hS => ?_)
  refine lv_istore (lv' := [(5, .int (nI k)), (4, .ref (ad (i + 13))), (3, .ref (ad (j + 9))), (0, .ref (ad 0)), (1, .int (nI j)), (2, .int (nI i))]) hx hb dX4_load_45 hl (by decide) rfl (fun ls hl => ?_)
  refine lv_aload hx hb dX4_load_47 (lv_at hl 1 rfl) ?_
  refine lv_aload_n hx hb dX4_load_49 rfl (lv_at hl 2 rfl) ?_
  refine tc_gK_value hx hb hts inB_X2 hown hK hP (by omega) (hts _ mb_47) dX4_load_50 ?_
  refine kq_cV (st1 := [.long ((u.1 5 (4 * i + 0)) ^^^ (tm_h (u.1 2 j) 1))]) ⟨hx, hb, hml, hown, hts⟩ (c_secretUnder u (k := i) (by omega) (u.1 2 j)) (cwV 1 hts gX4_105_X0_secretUnder rfl rfl rfl (by decide +kernel) ⟨Nat.le_of_ble_eq_true rfl, Nat.le_of_ble_eq_true rfl⟩) tm_Gok hK hP hD hA hG hS (va_recv hK hP (ci := 0) (q0 := i + 13) rfl (tm_at (i := i + 13) (by omega) (tc_B (by omega)))) rfl hl.1 rfl rfl (Nat.le_of_ble_eq_true rfl) dX4_load_53 ⟨Nat.le_of_ble_eq_true rfl, Nat.le_of_ble_eq_true rfl⟩ (fun H locs hP hD hS => ?_)
  refine lv_lstore (lv' := [(6, .long ((u.1 5 (4 * i + 0)) ^^^ (tm_h (u.1 2 j) 1))), (5, .int (nI k)), (4, .ref (ad (i + 13))), (3, .ref (ad (j + 9))), (0, .ref (ad 0)), (1, .int (nI j)), (2, .int (nI i))]) hx hb dX4_load_56 hl (by decide) rfl (fun ls hl => ?_)
  refine lv_aload_n hx hb dX4_load_58 rfl (lv_at hl 4 rfl) ?_
  refine tc_gT_keys hx hb hts inB_X4 hown hK hP (hts _ mb_147) dX4_load_59 ?_
  refine lv_iload hx hb dX4_load_62 (lv_at hl 1 rfl) ?_
  refine tc_a_keys hx hb hK hP (by omega) dX4_load_64 ?_
  refine lv_aload_n hx hb dX4_load_65 rfl (lv_at hl 3 rfl) ?_
  refine tc_gK_value hx hb hts inB_X2 hown hK hP (by omega) (hts _ mb_47) dX4_load_66 ?_
  refine lv_aload hx hb dX4_load_69 (lv_at hl 2 rfl) ?_
  refine tc_gB_longs hx hb hts inB_X0 hown hK hP (by omega) (hts _ mb_78) dX4_load_71 ?_
  refine lv_iconst (v := (nI 3)) hx hb dX4_load_74 (by decide) ?_
  refine tc_l_blob hx hb hK hP (by omega) (by omega) dX4_load_75 ?_
  refine kq_cS (st1 := [.long (tm_h (u.1 2 j) (u.1 5 (4 * i + 3))), .ref (ad (k + 9))]) ⟨hx, hb, hml, hown, hts⟩ (c_hash u (u.1 2 j) (u.1 5 (4 * i + 3))) (va_cwS 2 hts gX4_42_X4_hash rfl rfl rfl (by decide +kernel) ⟨Nat.le_of_ble_eq_true rfl, Nat.le_of_ble_eq_true rfl⟩) tm_Gok hK hP hD hA hG hS rfl hl.1 rfl rfl (Nat.le_of_ble_eq_true rfl) dX4_load_76 ⟨Nat.le_of_ble_eq_true rfl, Nat.le_of_ble_eq_true rfl⟩ (fun H locs hP hD hS => ?_)
  refine lv_aload hx hb dX4_load_79 (lv_at hl 2 rfl) ?_
  refine lv_aload_n hx hb dX4_load_81 rfl (lv_at hl 3 rfl) ?_
  refine tc_gK_value hx hb hts inB_X2 hown hK hP (by omega) (hts _ mb_47) dX4_load_82 ?_
  refine kq_cV (st1 := [.int ((u.1 5 (4 * i + 1)) ^^^ (tm_h (u.1 2 j) 2)).toInt32, .long (tm_h (u.1 2 j) (u.1 5 (4 * i + 3))), .ref (ad (k + 9))]) ⟨hx, hb, hml, hown, hts⟩ (c_wordUnder u (k := i) (by omega) (u.1 2 j)) (cwV 1 hts gX4_112_X0_wordUnder rfl rfl rfl (by decide +kernel) ⟨Nat.le_of_ble_eq_true rfl, Nat.le_of_ble_eq_true rfl⟩) tm_Gok hK hP hD hA hG hS (va_recv hK hP (ci := 0) (q0 := i + 13) rfl (tm_at (i := i + 13) (by omega) (tc_B (by omega)))) rfl hl.1 rfl rfl (Nat.le_of_ble_eq_true rfl) dX4_load_85 ⟨Nat.le_of_ble_eq_true rfl, Nat.le_of_ble_eq_true rfl⟩ (fun H locs hP hD hS => ?_)
  refine lv_aload hx hb dX4_load_88 (lv_at hl 2 rfl) ?_
  refine tc_gB_longs hx hb hts inB_X0 hown hK hP (by omega) (hts _ mb_78) dX4_load_90 ?_
  refine lv_iconst (v := (nI 2)) hx hb dX4_load_93 (by decide) ?_
  refine tc_l_blob hx hb hK hP (by omega) (by omega) dX4_load_94 ?_
  refine lv_lload hx hb dX4_load_95 (lv_at hl 0 rfl) ?_
  refine lv_lload hx hb dX4_load_97 (lv_at hl 0 rfl) ?_
  refine lv_lconst (v := 1) hx hb dX4_load_99 (by decide) ?_
  refine lv_land hx hb dX4_load_100 ?_
  refine lv_lconst (v := 0) hx hb dX4_load_101 (by decide) ?_
  refine W.lcmp hx hb dX4_load_102 ?_
  refine lv_if_ne (tgt := 110) hx hb dX4_load_103 (by decide) (fun c => absurd (tm_cmp0.mpr he) c) (fun _ => ?_)
  refine lv_iconst (v := (nI 1)) hx hb dX4_load_106 (by decide) ?_
  refine lv_goto (tgt := 111) hx hb dX4_load_107 (by decide) ?_
  refine kq_cV (st1 := []) ⟨hx, hb, hml, hown, hts⟩ (c_hold u (k := k) (by omega) (tm_h (u.1 2 j) (u.1 5 (4 * i + 3))) (((u.1 5 (4 * i + 1)) ^^^ (tm_h (u.1 2 j) 2)).toInt32) (u.1 5 (4 * i + 2)) ((u.1 5 (4 * i + 0)) ^^^ (tm_h (u.1 2 j) 1)) (nI 1) (Or.inr rfl)) (cwV 5 hts gX4_77_X2_hold rfl rfl rfl (by decide +kernel) ⟨Nat.le_of_ble_eq_true rfl, Nat.le_of_ble_eq_true rfl⟩) tm_Gok hK hP hD hA hG hS (va_recv hK hP (ci := 2) (q0 := k + 9) rfl (tm_at (i := k + 9) (by omega) (tc_K (by omega)))) rfl hl.1 rfl rfl (Nat.le_of_ble_eq_true rfl) dX4_load_111 ⟨Nat.le_of_ble_eq_true rfl, Nat.le_of_ble_eq_true rfl⟩ (fun H locs hP hD hS => ?_)
  refine lv_iload hx hb dX4_load_114 (lv_at hl 1 rfl) ?_
  exact kq_iret hx hb hr hlk hP hD hS dX4_load_116
set_option maxHeartbeats 4000000 in
set_option maxRecDepth 100000 in
theorem m_load_odd (u : tm_S) {j i : Nat} (hj : j < 4) (hi : i < 8) (hnl : u.2.1 11 0 = 0) (hh : ¬ u.2.1 0 j = 0) (hm : ¬ u.2.1 3 i = 0) (hp : ¬ u.2.1 2 j = 0) (ht : u.1 5 (4 * i + 3) = tm_h (tm_h (u.1 2 j) 3) (tm_h (tm_h (u.1 5 (4 * i + 0)) (u.1 5 (4 * i + 1))) (u.1 5 (4 * i + 2)))) {k : Nat} (hk : k < 4) (hf : u.2.1 0 k = 0) (ha : ∀ i, i < k → ¬ u.2.1 0 i = 0) (he : ¬ ((u.1 5 (4 * i + 0)) ^^^ (tm_h (u.1 2 j) 1)) &&& 1 = 0) : kc_M l dC dI gs ad cc yX4_load wsX4_load { frames := 8, cells := 0, slots := 0, locals := 125 } [.ref (ad 0), .int (nI j), .int (nI i)] u (tm_I (tm_L (tm_L (tm_I (tm_L (tm_I u 0 k (nI 1)) 2 k (tm_h (u.1 2 j) (u.1 5 (4 * i + 3)))) 1 k (((u.1 5 (4 * i + 1)) ^^^ (tm_h (u.1 2 j) 2)).toInt32)) 3 k (u.1 5 (4 * i + 2))) 4 k ((u.1 5 (4 * i + 0)) ^^^ (tm_h (u.1 2 j) 1))) 2 k (nI 0)) (some (.int (nI k))) := by
  refine kq_ofW (cc := cX4_load) (maxL := 8) (ret := (some .int)) (R0 := RX4) (by decide) rfl rfl (Nat.le_of_ble_eq_true rfl) ?_
  intro p e s m below meth c A ls hx hb hr hlk hml hown hts hP hK hD hA hG hS hl
  have hl : lv_has ls 8 [(0, .ref (ad 0)), (1, .int (nI j)), (2, .int (nI i))] := hl
  refine lv_iload_n hx hb dX4_load_0 rfl (lv_at hl 1 rfl) ?_
  refine lv_iconst (v := (nI 4)) hx hb dX4_load_1 (by decide) ?_
  refine kq_cS (st1 := []) ⟨hx, hb, hml, hown, hts⟩ (c_refuseUnlessBelow_ok u (by omega) (by omega)) (va_cwS 2 hts gX4_62_X4_refuseUnlessBelow rfl rfl rfl (by decide +kernel) ⟨Nat.le_of_ble_eq_true rfl, Nat.le_of_ble_eq_true rfl⟩) tm_Gok hK hP hD hA hG hS rfl hl.1 rfl rfl (Nat.le_of_ble_eq_true rfl) dX4_load_2 ⟨Nat.le_of_ble_eq_true rfl, Nat.le_of_ble_eq_true rfl⟩ (fun H locs hP hD hS => ?_)
  refine lv_iload_n hx hb dX4_load_5 rfl (lv_at hl 2 rfl) ?_
  refine lv_bipush (v := (nI 8)) hx hb dX4_load_6 (by decide) ?_
  refine kq_cS (st1 := []) ⟨hx, hb, hml, hown, hts⟩ (c_refuseUnlessBelow_ok u (by omega) (by omega)) (va_cwS 2 hts gX4_62_X4_refuseUnlessBelow rfl rfl rfl (by decide +kernel) ⟨Nat.le_of_ble_eq_true rfl, Nat.le_of_ble_eq_true rfl⟩) tm_Gok hK hP hD hA hG hS rfl hl.1 rfl rfl (Nat.le_of_ble_eq_true rfl) dX4_load_8 ⟨Nat.le_of_ble_eq_true rfl, Nat.le_of_ble_eq_true rfl⟩ (fun H locs hP hD hS => ?_)
  refine lv_aload_n hx hb dX4_load_11 rfl (lv_at hl 0 rfl) ?_
  refine kq_cV (st1 := []) ⟨hx, hb, hml, hown, hts⟩ (c_refuseWhenLost_ok u hnl) (cwV 0 hts gX4_66_X4_refuseWhenLost rfl rfl rfl (by decide +kernel) ⟨Nat.le_of_ble_eq_true rfl, Nat.le_of_ble_eq_true rfl⟩) tm_Gok hK hP hD hA hG hS (va_recv hK hP (ci := 4) (q0 := 0) rfl (tm_at (i := 0) (by omega) rfl)) rfl hl.1 rfl rfl (Nat.le_of_ble_eq_true rfl) dX4_load_12 ⟨Nat.le_of_ble_eq_true rfl, Nat.le_of_ble_eq_true rfl⟩ (fun H locs hP hD hS => ?_)
  refine lv_aload_n hx hb dX4_load_15 rfl (lv_at hl 0 rfl) ?_
  refine lv_iload_n hx hb dX4_load_16 rfl (lv_at hl 1 rfl) ?_
  refine kq_cV (st1 := [.ref (ad (j + 9))]) ⟨hx, hb, hml, hown, hts⟩ (c_heldKey_ok u (k := j) (by omega) hh) (cwV 1 hts gX4_81_X4_heldKey rfl rfl rfl (by decide +kernel) ⟨Nat.le_of_ble_eq_true rfl, Nat.le_of_ble_eq_true rfl⟩) tm_Gok hK hP hD hA hG hS (va_recv hK hP (ci := 4) (q0 := 0) rfl (tm_at (i := 0) (by omega) rfl)) rfl hl.1 rfl rfl (Nat.le_of_ble_eq_true rfl) dX4_load_17 ⟨Nat.le_of_ble_eq_true rfl, Nat.le_of_ble_eq_true rfl⟩ (fun H locs hP hD hS => ?_)
  refine lv_astore_n (lv' := [(3, .ref (ad (j + 9))), (0, .ref (ad 0)), (1, .int (nI j)), (2, .int (nI i))]) hx hb dX4_load_20 rfl hl (by decide) rfl (fun ls hl => ?_)
  refine lv_aload_n hx hb dX4_load_21 rfl (lv_at hl 1 rfl) ?_
  refine lv_iload_n hx hb dX4_load_22 rfl (lv_at hl 3 rfl) ?_
  refine kq_cV (st1 := [.ref (ad (i + 13))]) ⟨hx, hb, hml, hown, hts⟩ (c_madeBlob_ok u (k := i) (by omega) hm) (cwV 1 hts gX4_97_X4_madeBlob rfl rfl rfl (by decide +kernel) ⟨Nat.le_of_ble_eq_true rfl, Nat.le_of_ble_eq_true rfl⟩) tm_Gok hK hP hD hA hG hS (va_recv hK hP (ci := 4) (q0 := 0) rfl (tm_at (i := 0) (by omega) rfl)) rfl hl.1 rfl rfl (Nat.le_of_ble_eq_true rfl) dX4_load_23 ⟨Nat.le_of_ble_eq_true rfl, Nat.le_of_ble_eq_true rfl⟩ (fun H locs hP hD hS => ?_)
  refine lv_astore (lv' := [(4, .ref (ad (i + 13))), (3, .ref (ad (j + 9))), (0, .ref (ad 0)), (1, .int (nI j)), (2, .int (nI i))]) hx hb dX4_load_26 hl (by decide) rfl (fun ls hl => ?_)
  refine lv_aload_n hx hb dX4_load_28 rfl (lv_at hl 1 rfl) ?_
  refine kq_cS (st1 := []) ⟨hx, hb, hml, hown, hts⟩ (c_refuseUnlessParent_ok u (k := j) (by omega) hp) (va_cwS 1 hts gX4_85_X4_refuseUnlessParent rfl rfl rfl (by decide +kernel) ⟨Nat.le_of_ble_eq_true rfl, Nat.le_of_ble_eq_true rfl⟩) tm_Gok hK hP hD hA hG hS rfl hl.1 rfl rfl (Nat.le_of_ble_eq_true rfl) dX4_load_29 ⟨Nat.le_of_ble_eq_true rfl, Nat.le_of_ble_eq_true rfl⟩ (fun H locs hP hD hS => ?_)
  refine lv_aload hx hb dX4_load_32 (lv_at hl 0 rfl) ?_
  refine lv_aload_n hx hb dX4_load_34 rfl (lv_at hl 1 rfl) ?_
  refine tc_gK_value hx hb hts inB_X2 hown hK hP (by omega) (hts _ mb_47) dX4_load_35 ?_
  refine kq_cS (st1 := []) ⟨hx, hb, hml, hown, hts⟩ (c_refuseTampered_ok u (k := i) (by omega) (u.1 2 j) ht) (va_cwS 2 hts gX4_101_X4_refuseTampered rfl rfl rfl (by decide +kernel) ⟨Nat.le_of_ble_eq_true rfl, Nat.le_of_ble_eq_true rfl⟩) tm_Gok hK hP hD hA hG hS rfl hl.1 rfl rfl (Nat.le_of_ble_eq_true rfl) dX4_load_38 ⟨Nat.le_of_ble_eq_true rfl, Nat.le_of_ble_eq_true rfl⟩ (fun H locs hP hD hS => ?_)
  refine lv_aload_n hx hb dX4_load_41 rfl (lv_at hl 2 rfl) ?_
  refine kq_cV (st1 := [.int (nI k)]) ⟨hx, hb, hml, hown, hts⟩ (c_leastFree_ok u (j := k) (by omega) hf ha) (cwV 0 hts gX4_73_X4_leastFreeHandle rfl rfl rfl (by decide +kernel) ⟨Nat.le_of_ble_eq_true rfl, Nat.le_of_ble_eq_true rfl⟩) tm_Gok hK hP hD hA hG hS (va_recv hK hP (ci := 4) (q0 := 0) rfl (tm_at (i := 0) (by omega) rfl)) rfl hl.1 rfl rfl (Nat.le_of_ble_eq_true rfl) dX4_load_42 ⟨Nat.le_of_ble_eq_true rfl, Nat.le_of_ble_eq_true rfl⟩ (fun H locs hP hD hS => ?_)
  refine lv_istore (lv' := [(5, .int (nI k)), (4, .ref (ad (i + 13))), (3, .ref (ad (j + 9))), (0, .ref (ad 0)), (1, .int (nI j)), (2, .int (nI i))]) hx hb dX4_load_45 hl (by decide) rfl (fun ls hl => ?_)
  refine lv_aload hx hb dX4_load_47 (lv_at hl 1 rfl) ?_
  refine lv_aload_n hx hb dX4_load_49 rfl (lv_at hl 2 rfl) ?_
  refine tc_gK_value hx hb hts inB_X2 hown hK hP (by omega) (hts _ mb_47) dX4_load_50 ?_
  refine kq_cV (st1 := [.long ((u.1 5 (4 * i + 0)) ^^^ (tm_h (u.1 2 j) 1))]) ⟨hx, hb, hml, hown, hts⟩ (c_secretUnder u (k := i) (by omega) (u.1 2 j)) (cwV 1 hts gX4_105_X0_secretUnder rfl rfl rfl (by decide +kernel) ⟨Nat.le_of_ble_eq_true rfl, Nat.le_of_ble_eq_true rfl⟩) tm_Gok hK hP hD hA hG hS (va_recv hK hP (ci := 0) (q0 := i + 13) rfl (tm_at (i := i + 13) (by omega) (tc_B (by omega)))) rfl hl.1 rfl rfl (Nat.le_of_ble_eq_true rfl) dX4_load_53 ⟨Nat.le_of_ble_eq_true rfl, Nat.le_of_ble_eq_true rfl⟩ (fun H locs hP hD hS => ?_)
  refine lv_lstore (lv' := [(6, .long ((u.1 5 (4 * i + 0)) ^^^ (tm_h (u.1 2 j) 1))), (5, .int (nI k)), (4, .ref (ad (i + 13))), (3, .ref (ad (j + 9))), (0, .ref (ad 0)), (1, .int (nI j)), (2, .int (nI i))]) hx hb dX4_load_56 hl (by decide) rfl (fun ls hl => ?_)
  refine lv_aload_n hx hb dX4_load_58 rfl (lv_at hl 4 rfl) ?_
  refine tc_gT_keys hx hb hts inB_X4 hown hK hP (hts _ mb_147) dX4_load_59 ?_
  refine lv_iload hx hb dX4_load_62 (lv_at hl 1 rfl) ?_
  refine tc_a_keys hx hb hK hP (by omega) dX4_load_64 ?_
  refine lv_aload_n hx hb dX4_load_65 rfl (lv_at hl 3 rfl) ?_
  refine tc_gK_value hx hb hts inB_X2 hown hK hP (by omega) (hts _ mb_47) dX4_load_66 ?_
  refine lv_aload hx hb dX4_load_69 (lv_at hl 2 rfl) ?_
  refine tc_gB_longs hx hb hts inB_X0 hown hK hP (by omega) (hts _ mb_78) dX4_load_71 ?_
  refine lv_iconst (v := (nI 3)) hx hb dX4_load_74 (by decide) ?_
  refine tc_l_blob hx hb hK hP (by omega) (by omega) dX4_load_75 ?_
  refine kq_cS (st1 := [.long (tm_h (u.1 2 j) (u.1 5 (4 * i + 3))), .ref (ad (k + 9))]) ⟨hx, hb, hml, hown, hts⟩ (c_hash u (u.1 2 j) (u.1 5 (4 * i + 3))) (va_cwS 2 hts gX4_42_X4_hash rfl rfl rfl (by decide +kernel) ⟨Nat.le_of_ble_eq_true rfl, Nat.le_of_ble_eq_true rfl⟩) tm_Gok hK hP hD hA hG hS rfl hl.1 rfl rfl (Nat.le_of_ble_eq_true rfl) dX4_load_76 ⟨Nat.le_of_ble_eq_true rfl, Nat.le_of_ble_eq_true rfl⟩ (fun H locs hP hD hS => ?_)
  refine lv_aload hx hb dX4_load_79 (lv_at hl 2 rfl) ?_
  refine lv_aload_n hx hb dX4_load_81 rfl (lv_at hl 3 rfl) ?_
  refine tc_gK_value hx hb hts inB_X2 hown hK hP (by omega) (hts _ mb_47) dX4_load_82 ?_
  refine kq_cV (st1 := [.int ((u.1 5 (4 * i + 1)) ^^^ (tm_h (u.1 2 j) 2)).toInt32, .long (tm_h (u.1 2 j) (u.1 5 (4 * i + 3))), .ref (ad (k + 9))]) ⟨hx, hb, hml, hown, hts⟩ (c_wordUnder u (k := i) (by omega) (u.1 2 j)) (cwV 1 hts gX4_112_X0_wordUnder rfl rfl rfl (by decide +kernel) ⟨Nat.le_of_ble_eq_true rfl, Nat.le_of_ble_eq_true rfl⟩) tm_Gok hK hP hD hA hG hS (va_recv hK hP (ci := 0) (q0 := i + 13) rfl (tm_at (i := i + 13) (by omega) (tc_B (by omega)))) rfl hl.1 rfl rfl (Nat.le_of_ble_eq_true rfl) dX4_load_85 ⟨Nat.le_of_ble_eq_true rfl, Nat.le_of_ble_eq_true rfl⟩ (fun H locs hP hD hS => ?_)
  refine lv_aload hx hb dX4_load_88 (lv_at hl 2 rfl) ?_
  refine tc_gB_longs hx hb hts inB_X0 hown hK hP (by omega) (hts _ mb_78) dX4_load_90 ?_
  refine lv_iconst (v := (nI 2)) hx hb dX4_load_93 (by decide) ?_
  refine tc_l_blob hx hb hK hP (by omega) (by omega) dX4_load_94 ?_
  refine lv_lload hx hb dX4_load_95 (lv_at hl 0 rfl) ?_
  refine lv_lload hx hb dX4_load_97 (lv_at hl 0 rfl) ?_
  refine lv_lconst (v := 1) hx hb dX4_load_99 (by decide) ?_
  refine lv_land hx hb dX4_load_100 ?_
  refine lv_lconst (v := 0) hx hb dX4_load_101 (by decide) ?_
  refine W.lcmp hx hb dX4_load_102 ?_
  refine lv_if_ne (tgt := 110) hx hb dX4_load_103 (by decide) (fun _ => ?_) (fun c => absurd c (fun q => he (tm_cmp0.mp q)))
  refine lv_iconst (v := (nI 0)) hx hb dX4_load_110 (by decide) ?_
  refine kq_cV (st1 := []) ⟨hx, hb, hml, hown, hts⟩ (c_hold u (k := k) (by omega) (tm_h (u.1 2 j) (u.1 5 (4 * i + 3))) (((u.1 5 (4 * i + 1)) ^^^ (tm_h (u.1 2 j) 2)).toInt32) (u.1 5 (4 * i + 2)) ((u.1 5 (4 * i + 0)) ^^^ (tm_h (u.1 2 j) 1)) (nI 0) (Or.inl rfl)) (cwV 5 hts gX4_77_X2_hold rfl rfl rfl (by decide +kernel) ⟨Nat.le_of_ble_eq_true rfl, Nat.le_of_ble_eq_true rfl⟩) tm_Gok hK hP hD hA hG hS (va_recv hK hP (ci := 2) (q0 := k + 9) rfl (tm_at (i := k + 9) (by omega) (tc_K (by omega)))) rfl hl.1 rfl rfl (Nat.le_of_ble_eq_true rfl) dX4_load_111 ⟨Nat.le_of_ble_eq_true rfl, Nat.le_of_ble_eq_true rfl⟩ (fun H locs hP hD hS => ?_)
  refine lv_iload hx hb dX4_load_114 (lv_at hl 1 rfl) ?_
  exact kq_iret hx hb hr hlk hP hD hS dX4_load_116
set_option maxHeartbeats 4000000 in
set_option maxRecDepth 100000 in
theorem m_tamper_b1 (hl9 : l.stackTraces = false) (u : tm_S) (x : Int32) (h : x < 0 ∨ nI 8 ≤ x) (i : Int32) (v : Int64) : kc_T l dC dI gs ad cc yX4_tamper wsX4_tamper { frames := 8, cells := 1, slots := 6, locals := 125 } [.ref (ad 0), .int x, .int i, .long v] u u "java/lang/IllegalArgumentException" := by
  refine kq_ofT (cc := cX4_tamper) (maxL := 6) (ret := none) (R0 := RX4) (by decide) rfl rfl (Nat.le_of_ble_eq_true rfl) ?_
  intro p e s m below meth c A ls hx hb hr hlk hml hown hts hP hK hD hA hG hS hl hEx
  have hl : lv_has ls 6 [(0, .ref (ad 0)), (1, .int x), (2, .int i), (3, .long v)] := hl
  refine lv_iload_n hx hb dX4_tamper_0 rfl (lv_at hl 1 rfl) ?_
  refine lv_bipush (v := (nI 8)) hx hb dX4_tamper_1 (by decide) ?_
  exact kq_tS ⟨hx, hb, hml, hown, hts⟩ (c_refuseUnlessBelow_no hl9 u h (by omega) (by omega)) (va_cwS 2 hts gX4_62_X4_refuseUnlessBelow rfl rfl rfl (by decide +kernel) ⟨Nat.le_of_ble_eq_true rfl, Nat.le_of_ble_eq_true rfl⟩) tm_Gok hK hP hD hA hG hS rfl hl.1 rfl (Nat.le_of_ble_eq_true rfl) dX4_tamper_3 ⟨Nat.le_of_ble_eq_true rfl, Nat.le_of_ble_eq_true rfl⟩ hlk hEx (Nat.le_of_ble_eq_true rfl) (Nat.le_of_ble_eq_true rfl)
set_option maxHeartbeats 4000000 in
set_option maxRecDepth 100000 in
theorem m_tamper_b2 (hl9 : l.stackTraces = false) (u : tm_S) {j : Nat} (hj : j < 8) (x : Int32) (h : x < 0 ∨ nI 4 ≤ x) (v : Int64) : kc_T l dC dI gs ad cc yX4_tamper wsX4_tamper { frames := 8, cells := 1, slots := 6, locals := 125 } [.ref (ad 0), .int (nI j), .int x, .long v] u u "java/lang/IllegalArgumentException" := by
  refine kq_ofT (cc := cX4_tamper) (maxL := 6) (ret := none) (R0 := RX4) (by decide) rfl rfl (Nat.le_of_ble_eq_true rfl) ?_
  intro p e s m below meth c A ls hx hb hr hlk hml hown hts hP hK hD hA hG hS hl hEx
  have hl : lv_has ls 6 [(0, .ref (ad 0)), (1, .int (nI j)), (2, .int x), (3, .long v)] := hl
  refine lv_iload_n hx hb dX4_tamper_0 rfl (lv_at hl 1 rfl) ?_
  refine lv_bipush (v := (nI 8)) hx hb dX4_tamper_1 (by decide) ?_
  refine kq_cS (st1 := []) ⟨hx, hb, hml, hown, hts⟩ (c_refuseUnlessBelow_ok u (by omega) (by omega)) (va_cwS 2 hts gX4_62_X4_refuseUnlessBelow rfl rfl rfl (by decide +kernel) ⟨Nat.le_of_ble_eq_true rfl, Nat.le_of_ble_eq_true rfl⟩) tm_Gok hK hP hD hA hG hS rfl hl.1 rfl rfl (Nat.le_of_ble_eq_true rfl) dX4_tamper_3 ⟨Nat.le_of_ble_eq_true rfl, Nat.le_of_ble_eq_true rfl⟩ (fun H locs hP hD hS => ?_)
  refine lv_iload_n hx hb dX4_tamper_6 rfl (lv_at hl 2 rfl) ?_
  refine lv_iconst (v := (nI 4)) hx hb dX4_tamper_7 (by decide) ?_
  exact kq_tS ⟨hx, hb, hml, hown, hts⟩ (c_refuseUnlessBelow_no hl9 u h (by omega) (by omega)) (va_cwS 2 hts gX4_62_X4_refuseUnlessBelow rfl rfl rfl (by decide +kernel) ⟨Nat.le_of_ble_eq_true rfl, Nat.le_of_ble_eq_true rfl⟩) tm_Gok hK hP hD hA hG hS rfl hl.1 rfl (Nat.le_of_ble_eq_true rfl) dX4_tamper_8 ⟨Nat.le_of_ble_eq_true rfl, Nat.le_of_ble_eq_true rfl⟩ hlk hEx (Nat.le_of_ble_eq_true rfl) (Nat.le_of_ble_eq_true rfl)
set_option maxHeartbeats 4000000 in
set_option maxRecDepth 100000 in
theorem m_tamper_none (hl9 : l.stackTraces = false) (u : tm_S) {j i : Nat} (hj : j < 8) (hi : i < 4) (v : Int64) (hm : u.2.1 3 j = 0) : kc_T l dC dI gs ad cc yX4_tamper wsX4_tamper { frames := 8, cells := 1, slots := 6, locals := 125 } [.ref (ad 0), .int (nI j), .int (nI i), .long v] u u "java/util/NoSuchElementException" := by
  refine kq_ofT (cc := cX4_tamper) (maxL := 6) (ret := none) (R0 := RX4) (by decide) rfl rfl (Nat.le_of_ble_eq_true rfl) ?_
  intro p e s m below meth c A ls hx hb hr hlk hml hown hts hP hK hD hA hG hS hl hEx
  have hl : lv_has ls 6 [(0, .ref (ad 0)), (1, .int (nI j)), (2, .int (nI i)), (3, .long v)] := hl
  refine lv_iload_n hx hb dX4_tamper_0 rfl (lv_at hl 1 rfl) ?_
  refine lv_bipush (v := (nI 8)) hx hb dX4_tamper_1 (by decide) ?_
  refine kq_cS (st1 := []) ⟨hx, hb, hml, hown, hts⟩ (c_refuseUnlessBelow_ok u (by omega) (by omega)) (va_cwS 2 hts gX4_62_X4_refuseUnlessBelow rfl rfl rfl (by decide +kernel) ⟨Nat.le_of_ble_eq_true rfl, Nat.le_of_ble_eq_true rfl⟩) tm_Gok hK hP hD hA hG hS rfl hl.1 rfl rfl (Nat.le_of_ble_eq_true rfl) dX4_tamper_3 ⟨Nat.le_of_ble_eq_true rfl, Nat.le_of_ble_eq_true rfl⟩ (fun H locs hP hD hS => ?_)
  refine lv_iload_n hx hb dX4_tamper_6 rfl (lv_at hl 2 rfl) ?_
  refine lv_iconst (v := (nI 4)) hx hb dX4_tamper_7 (by decide) ?_
  refine kq_cS (st1 := []) ⟨hx, hb, hml, hown, hts⟩ (c_refuseUnlessBelow_ok u (by omega) (by omega)) (va_cwS 2 hts gX4_62_X4_refuseUnlessBelow rfl rfl rfl (by decide +kernel) ⟨Nat.le_of_ble_eq_true rfl, Nat.le_of_ble_eq_true rfl⟩) tm_Gok hK hP hD hA hG hS rfl hl.1 rfl rfl (Nat.le_of_ble_eq_true rfl) dX4_tamper_8 ⟨Nat.le_of_ble_eq_true rfl, Nat.le_of_ble_eq_true rfl⟩ (fun H locs hP hD hS => ?_)
  refine lv_aload_n hx hb dX4_tamper_11 rfl (lv_at hl 0 rfl) ?_
  refine lv_iload_n hx hb dX4_tamper_12 rfl (lv_at hl 1 rfl) ?_
  exact kq_tV ⟨hx, hb, hml, hown, hts⟩ (c_madeBlob_no hl9 u (k := j) (by omega) hm) (cwV 1 hts gX4_97_X4_madeBlob rfl rfl rfl (by decide +kernel) ⟨Nat.le_of_ble_eq_true rfl, Nat.le_of_ble_eq_true rfl⟩) tm_Gok hK hP hD hA hG hS (va_recv hK hP (ci := 4) (q0 := 0) rfl (tm_at (i := 0) (by omega) rfl)) rfl hl.1 rfl (Nat.le_of_ble_eq_true rfl) dX4_tamper_13 ⟨Nat.le_of_ble_eq_true rfl, Nat.le_of_ble_eq_true rfl⟩ hlk hEx (Nat.le_of_ble_eq_true rfl) (Nat.le_of_ble_eq_true rfl)
set_option maxHeartbeats 4000000 in
set_option maxRecDepth 100000 in
theorem m_tamper_ok (u : tm_S) {j i : Nat} (hj : j < 8) (hi : i < 4) (v : Int64) (hm : ¬ u.2.1 3 j = 0) : kc_M l dC dI gs ad cc yX4_tamper wsX4_tamper { frames := 8, cells := 0, slots := 0, locals := 125 } [.ref (ad 0), .int (nI j), .int (nI i), .long v] u (tm_L u 5 (4 * j + i) ((u.1 5 (4 * j + i)) ^^^ v)) none := by
  refine kq_ofW (cc := cX4_tamper) (maxL := 6) (ret := none) (R0 := RX4) (by decide) rfl rfl (Nat.le_of_ble_eq_true rfl) ?_
  intro p e s m below meth c A ls hx hb hr hlk hml hown hts hP hK hD hA hG hS hl
  have hl : lv_has ls 6 [(0, .ref (ad 0)), (1, .int (nI j)), (2, .int (nI i)), (3, .long v)] := hl
  refine lv_iload_n hx hb dX4_tamper_0 rfl (lv_at hl 1 rfl) ?_
  refine lv_bipush (v := (nI 8)) hx hb dX4_tamper_1 (by decide) ?_
  refine kq_cS (st1 := []) ⟨hx, hb, hml, hown, hts⟩ (c_refuseUnlessBelow_ok u (by omega) (by omega)) (va_cwS 2 hts gX4_62_X4_refuseUnlessBelow rfl rfl rfl (by decide +kernel) ⟨Nat.le_of_ble_eq_true rfl, Nat.le_of_ble_eq_true rfl⟩) tm_Gok hK hP hD hA hG hS rfl hl.1 rfl rfl (Nat.le_of_ble_eq_true rfl) dX4_tamper_3 ⟨Nat.le_of_ble_eq_true rfl, Nat.le_of_ble_eq_true rfl⟩ (fun H locs hP hD hS => ?_)
  refine lv_iload_n hx hb dX4_tamper_6 rfl (lv_at hl 2 rfl) ?_
  refine lv_iconst (v := (nI 4)) hx hb dX4_tamper_7 (by decide) ?_
  refine kq_cS (st1 := []) ⟨hx, hb, hml, hown, hts⟩ (c_refuseUnlessBelow_ok u (by omega) (by omega)) (va_cwS 2 hts gX4_62_X4_refuseUnlessBelow rfl rfl rfl (by decide +kernel) ⟨Nat.le_of_ble_eq_true rfl, Nat.le_of_ble_eq_true rfl⟩) tm_Gok hK hP hD hA hG hS rfl hl.1 rfl rfl (Nat.le_of_ble_eq_true rfl) dX4_tamper_8 ⟨Nat.le_of_ble_eq_true rfl, Nat.le_of_ble_eq_true rfl⟩ (fun H locs hP hD hS => ?_)
  refine lv_aload_n hx hb dX4_tamper_11 rfl (lv_at hl 0 rfl) ?_
  refine lv_iload_n hx hb dX4_tamper_12 rfl (lv_at hl 1 rfl) ?_
  refine kq_cV (st1 := [.ref (ad (j + 13))]) ⟨hx, hb, hml, hown, hts⟩ (c_madeBlob_ok u (k := j) (by omega) hm) (cwV 1 hts gX4_97_X4_madeBlob rfl rfl rfl (by decide +kernel) ⟨Nat.le_of_ble_eq_true rfl, Nat.le_of_ble_eq_true rfl⟩) tm_Gok hK hP hD hA hG hS (va_recv hK hP (ci := 4) (q0 := 0) rfl (tm_at (i := 0) (by omega) rfl)) rfl hl.1 rfl rfl (Nat.le_of_ble_eq_true rfl) dX4_tamper_13 ⟨Nat.le_of_ble_eq_true rfl, Nat.le_of_ble_eq_true rfl⟩ (fun H locs hP hD hS => ?_)
  refine lv_astore (lv' := [(5, .ref (ad (j + 13))), (0, .ref (ad 0)), (1, .int (nI j)), (2, .int (nI i)), (3, .long v)]) hx hb dX4_tamper_16 hl (by decide) rfl (fun ls hl => ?_)
  refine lv_aload hx hb dX4_tamper_18 (lv_at hl 0 rfl) ?_
  refine tc_gB_longs hx hb hts inB_X0 hown hK hP (by omega) (hts _ mb_78) dX4_tamper_20 ?_
  refine lv_iload_n hx hb dX4_tamper_23 rfl (lv_at hl 3 rfl) ?_
  refine lv_aload hx hb dX4_tamper_24 (lv_at hl 0 rfl) ?_
  refine tc_gB_longs hx hb hts inB_X0 hown hK hP (by omega) (hts _ mb_78) dX4_tamper_26 ?_
  refine lv_iload_n hx hb dX4_tamper_29 rfl (lv_at hl 3 rfl) ?_
  refine tc_l_blob hx hb hK hP (by omega) (by omega) dX4_tamper_30 ?_
  refine lv_lload_n hx hb dX4_tamper_31 rfl (lv_at hl 4 rfl) ?_
  refine lv_lxor hx hb dX4_tamper_32 ?_
  refine tc_t_blob hx hb hK hP hD hS (by omega) (by omega) dX4_tamper_33 (fun H locs hP hD hS => ?_)
  exact kq_vret hx hb hr hlk hP hD hS dX4_tamper_34
set_option maxHeartbeats 4000000 in
set_option maxRecDepth 100000 in
theorem m_flush_b1 (hl9 : l.stackTraces = false) (u : tm_S) (x : Int32) (h : x < 0 ∨ nI 4 ≤ x)  : kc_T l dC dI gs ad cc yX4_flush wsX4_flush { frames := 8, cells := 1, slots := 6, locals := 125 } [.ref (ad 0), .int x] u u "java/lang/IllegalArgumentException" := by
  refine kq_ofT (cc := cX4_flush) (maxL := 2) (ret := none) (R0 := RX4) (by decide) rfl rfl (Nat.le_of_ble_eq_true rfl) ?_
  intro p e s m below meth c A ls hx hb hr hlk hml hown hts hP hK hD hA hG hS hl hEx
  have hl : lv_has ls 2 [(0, .ref (ad 0)), (1, .int x)] := hl
  refine lv_iload_n hx hb dX4_flush_0 rfl (lv_at hl 1 rfl) ?_
  refine lv_iconst (v := (nI 4)) hx hb dX4_flush_1 (by decide) ?_
  exact kq_tS ⟨hx, hb, hml, hown, hts⟩ (c_refuseUnlessBelow_no hl9 u h (by omega) (by omega)) (va_cwS 2 hts gX4_62_X4_refuseUnlessBelow rfl rfl rfl (by decide +kernel) ⟨Nat.le_of_ble_eq_true rfl, Nat.le_of_ble_eq_true rfl⟩) tm_Gok hK hP hD hA hG hS rfl hl.1 rfl (Nat.le_of_ble_eq_true rfl) dX4_flush_2 ⟨Nat.le_of_ble_eq_true rfl, Nat.le_of_ble_eq_true rfl⟩ hlk hEx (Nat.le_of_ble_eq_true rfl) (Nat.le_of_ble_eq_true rfl)
set_option maxHeartbeats 4000000 in
set_option maxRecDepth 100000 in
theorem m_flush_lo (hl9 : l.stackTraces = false) (u : tm_S) {j : Nat} (hj : j < 4) (hlo : ¬ u.2.1 11 0 = 0)  : kc_T l dC dI gs ad cc yX4_flush wsX4_flush { frames := 8, cells := 1, slots := 6, locals := 125 } [.ref (ad 0), .int (nI j)] u u "java/lang/IllegalStateException" := by
  refine kq_ofT (cc := cX4_flush) (maxL := 2) (ret := none) (R0 := RX4) (by decide) rfl rfl (Nat.le_of_ble_eq_true rfl) ?_
  intro p e s m below meth c A ls hx hb hr hlk hml hown hts hP hK hD hA hG hS hl hEx
  have hl : lv_has ls 2 [(0, .ref (ad 0)), (1, .int (nI j))] := hl
  refine lv_iload_n hx hb dX4_flush_0 rfl (lv_at hl 1 rfl) ?_
  refine lv_iconst (v := (nI 4)) hx hb dX4_flush_1 (by decide) ?_
  refine kq_cS (st1 := []) ⟨hx, hb, hml, hown, hts⟩ (c_refuseUnlessBelow_ok u (by omega) (by omega)) (va_cwS 2 hts gX4_62_X4_refuseUnlessBelow rfl rfl rfl (by decide +kernel) ⟨Nat.le_of_ble_eq_true rfl, Nat.le_of_ble_eq_true rfl⟩) tm_Gok hK hP hD hA hG hS rfl hl.1 rfl rfl (Nat.le_of_ble_eq_true rfl) dX4_flush_2 ⟨Nat.le_of_ble_eq_true rfl, Nat.le_of_ble_eq_true rfl⟩ (fun H locs hP hD hS => ?_)
  refine lv_aload_n hx hb dX4_flush_5 rfl (lv_at hl 0 rfl) ?_
  exact kq_tV ⟨hx, hb, hml, hown, hts⟩ (c_refuseWhenLost_no hl9 u hlo) (cwV 0 hts gX4_66_X4_refuseWhenLost rfl rfl rfl (by decide +kernel) ⟨Nat.le_of_ble_eq_true rfl, Nat.le_of_ble_eq_true rfl⟩) tm_Gok hK hP hD hA hG hS (va_recv hK hP (ci := 4) (q0 := 0) rfl (tm_at (i := 0) (by omega) rfl)) rfl hl.1 rfl (Nat.le_of_ble_eq_true rfl) dX4_flush_6 ⟨Nat.le_of_ble_eq_true rfl, Nat.le_of_ble_eq_true rfl⟩ hlk hEx (Nat.le_of_ble_eq_true rfl) (Nat.le_of_ble_eq_true rfl)
set_option maxHeartbeats 4000000 in
set_option maxRecDepth 100000 in
theorem m_flush_free (hl9 : l.stackTraces = false) (u : tm_S) {j : Nat} (hj : j < 4) (hnl : u.2.1 11 0 = 0) (hh : u.2.1 0 j = 0) : kc_T l dC dI gs ad cc yX4_flush wsX4_flush { frames := 8, cells := 1, slots := 6, locals := 125 } [.ref (ad 0), .int (nI j)] u u "java/util/NoSuchElementException" := by
  refine kq_ofT (cc := cX4_flush) (maxL := 2) (ret := none) (R0 := RX4) (by decide) rfl rfl (Nat.le_of_ble_eq_true rfl) ?_
  intro p e s m below meth c A ls hx hb hr hlk hml hown hts hP hK hD hA hG hS hl hEx
  have hl : lv_has ls 2 [(0, .ref (ad 0)), (1, .int (nI j))] := hl
  refine lv_iload_n hx hb dX4_flush_0 rfl (lv_at hl 1 rfl) ?_
  refine lv_iconst (v := (nI 4)) hx hb dX4_flush_1 (by decide) ?_
  refine kq_cS (st1 := []) ⟨hx, hb, hml, hown, hts⟩ (c_refuseUnlessBelow_ok u (by omega) (by omega)) (va_cwS 2 hts gX4_62_X4_refuseUnlessBelow rfl rfl rfl (by decide +kernel) ⟨Nat.le_of_ble_eq_true rfl, Nat.le_of_ble_eq_true rfl⟩) tm_Gok hK hP hD hA hG hS rfl hl.1 rfl rfl (Nat.le_of_ble_eq_true rfl) dX4_flush_2 ⟨Nat.le_of_ble_eq_true rfl, Nat.le_of_ble_eq_true rfl⟩ (fun H locs hP hD hS => ?_)
  refine lv_aload_n hx hb dX4_flush_5 rfl (lv_at hl 0 rfl) ?_
  refine kq_cV (st1 := []) ⟨hx, hb, hml, hown, hts⟩ (c_refuseWhenLost_ok u hnl) (cwV 0 hts gX4_66_X4_refuseWhenLost rfl rfl rfl (by decide +kernel) ⟨Nat.le_of_ble_eq_true rfl, Nat.le_of_ble_eq_true rfl⟩) tm_Gok hK hP hD hA hG hS (va_recv hK hP (ci := 4) (q0 := 0) rfl (tm_at (i := 0) (by omega) rfl)) rfl hl.1 rfl rfl (Nat.le_of_ble_eq_true rfl) dX4_flush_6 ⟨Nat.le_of_ble_eq_true rfl, Nat.le_of_ble_eq_true rfl⟩ (fun H locs hP hD hS => ?_)
  refine lv_aload_n hx hb dX4_flush_9 rfl (lv_at hl 0 rfl) ?_
  refine lv_iload_n hx hb dX4_flush_10 rfl (lv_at hl 1 rfl) ?_
  exact kq_tV ⟨hx, hb, hml, hown, hts⟩ (c_heldKey_no hl9 u (k := j) (by omega) hh) (cwV 1 hts gX4_81_X4_heldKey rfl rfl rfl (by decide +kernel) ⟨Nat.le_of_ble_eq_true rfl, Nat.le_of_ble_eq_true rfl⟩) tm_Gok hK hP hD hA hG hS (va_recv hK hP (ci := 4) (q0 := 0) rfl (tm_at (i := 0) (by omega) rfl)) rfl hl.1 rfl (Nat.le_of_ble_eq_true rfl) dX4_flush_11 ⟨Nat.le_of_ble_eq_true rfl, Nat.le_of_ble_eq_true rfl⟩ hlk hEx (Nat.le_of_ble_eq_true rfl) (Nat.le_of_ble_eq_true rfl)
set_option maxHeartbeats 4000000 in
set_option maxRecDepth 100000 in
theorem m_flush_ok (u : tm_S) {j : Nat} (hj : j < 4) (hnl : u.2.1 11 0 = 0) (hh : ¬ u.2.1 0 j = 0)  : kc_M l dC dI gs ad cc yX4_flush wsX4_flush { frames := 8, cells := 0, slots := 0, locals := 125 } [.ref (ad 0), .int (nI j)] u (tm_I u 0 j (nI 0)) none := by
  refine kq_ofW (cc := cX4_flush) (maxL := 2) (ret := none) (R0 := RX4) (by decide) rfl rfl (Nat.le_of_ble_eq_true rfl) ?_
  intro p e s m below meth c A ls hx hb hr hlk hml hown hts hP hK hD hA hG hS hl
  have hl : lv_has ls 2 [(0, .ref (ad 0)), (1, .int (nI j))] := hl
  refine lv_iload_n hx hb dX4_flush_0 rfl (lv_at hl 1 rfl) ?_
  refine lv_iconst (v := (nI 4)) hx hb dX4_flush_1 (by decide) ?_
  refine kq_cS (st1 := []) ⟨hx, hb, hml, hown, hts⟩ (c_refuseUnlessBelow_ok u (by omega) (by omega)) (va_cwS 2 hts gX4_62_X4_refuseUnlessBelow rfl rfl rfl (by decide +kernel) ⟨Nat.le_of_ble_eq_true rfl, Nat.le_of_ble_eq_true rfl⟩) tm_Gok hK hP hD hA hG hS rfl hl.1 rfl rfl (Nat.le_of_ble_eq_true rfl) dX4_flush_2 ⟨Nat.le_of_ble_eq_true rfl, Nat.le_of_ble_eq_true rfl⟩ (fun H locs hP hD hS => ?_)
  refine lv_aload_n hx hb dX4_flush_5 rfl (lv_at hl 0 rfl) ?_
  refine kq_cV (st1 := []) ⟨hx, hb, hml, hown, hts⟩ (c_refuseWhenLost_ok u hnl) (cwV 0 hts gX4_66_X4_refuseWhenLost rfl rfl rfl (by decide +kernel) ⟨Nat.le_of_ble_eq_true rfl, Nat.le_of_ble_eq_true rfl⟩) tm_Gok hK hP hD hA hG hS (va_recv hK hP (ci := 4) (q0 := 0) rfl (tm_at (i := 0) (by omega) rfl)) rfl hl.1 rfl rfl (Nat.le_of_ble_eq_true rfl) dX4_flush_6 ⟨Nat.le_of_ble_eq_true rfl, Nat.le_of_ble_eq_true rfl⟩ (fun H locs hP hD hS => ?_)
  refine lv_aload_n hx hb dX4_flush_9 rfl (lv_at hl 0 rfl) ?_
  refine lv_iload_n hx hb dX4_flush_10 rfl (lv_at hl 1 rfl) ?_
  refine kq_cV (st1 := [.ref (ad (j + 9))]) ⟨hx, hb, hml, hown, hts⟩ (c_heldKey_ok u (k := j) (by omega) hh) (cwV 1 hts gX4_81_X4_heldKey rfl rfl rfl (by decide +kernel) ⟨Nat.le_of_ble_eq_true rfl, Nat.le_of_ble_eq_true rfl⟩) tm_Gok hK hP hD hA hG hS (va_recv hK hP (ci := 4) (q0 := 0) rfl (tm_at (i := 0) (by omega) rfl)) rfl hl.1 rfl rfl (Nat.le_of_ble_eq_true rfl) dX4_flush_11 ⟨Nat.le_of_ble_eq_true rfl, Nat.le_of_ble_eq_true rfl⟩ (fun H locs hP hD hS => ?_)
  refine lv_iconst (v := (nI 0)) hx hb dX4_flush_14 (by decide) ?_
  refine tc_pK_held hx hb hts inB_X2 hown hK hP hD hS (by omega) (by first | rfl | decide) (by first | rfl | decide) (hts _ mb_45) dX4_flush_15 (fun H locs hP hD hS => ?_)
  exact kq_vret hx hb hr hlk hP hD hS dX4_flush_18
set_option maxHeartbeats 4000000 in
set_option maxRecDepth 100000 in
theorem m_open_b1 (hl9 : l.stackTraces = false) (u : tm_S) (x : Int32) (h : x < 0 ∨ nI 4 ≤ x) (wd : Int32)  : kc_T l dC dI gs ad cc yX4_open wsX4_open { frames := 8, cells := 1, slots := 6, locals := 125 } [.ref (ad 0), .int x, .int wd] u u "java/lang/IllegalArgumentException" := by
  refine kq_ofT (cc := cX4_open) (maxL := 4) (ret := (some .long)) (R0 := RX4) (by decide) rfl rfl (Nat.le_of_ble_eq_true rfl) ?_
  intro p e s m below meth c A ls hx hb hr hlk hml hown hts hP hK hD hA hG hS hl hEx
  have hl : lv_has ls 4 [(0, .ref (ad 0)), (1, .int x), (2, .int wd)] := hl
  refine lv_iload_n hx hb dX4_open_0 rfl (lv_at hl 1 rfl) ?_
  refine lv_iconst (v := (nI 4)) hx hb dX4_open_1 (by decide) ?_
  exact kq_tS ⟨hx, hb, hml, hown, hts⟩ (c_refuseUnlessBelow_no hl9 u h (by omega) (by omega)) (va_cwS 2 hts gX4_62_X4_refuseUnlessBelow rfl rfl rfl (by decide +kernel) ⟨Nat.le_of_ble_eq_true rfl, Nat.le_of_ble_eq_true rfl⟩) tm_Gok hK hP hD hA hG hS rfl hl.1 rfl (Nat.le_of_ble_eq_true rfl) dX4_open_2 ⟨Nat.le_of_ble_eq_true rfl, Nat.le_of_ble_eq_true rfl⟩ hlk hEx (Nat.le_of_ble_eq_true rfl) (Nat.le_of_ble_eq_true rfl)
set_option maxHeartbeats 4000000 in
set_option maxRecDepth 100000 in
theorem m_open_lo (hl9 : l.stackTraces = false) (u : tm_S) {j : Nat} (hj : j < 4) (wd : Int32) (hlo : ¬ u.2.1 11 0 = 0)  : kc_T l dC dI gs ad cc yX4_open wsX4_open { frames := 8, cells := 1, slots := 6, locals := 125 } [.ref (ad 0), .int (nI j), .int wd] u u "java/lang/IllegalStateException" := by
  refine kq_ofT (cc := cX4_open) (maxL := 4) (ret := (some .long)) (R0 := RX4) (by decide) rfl rfl (Nat.le_of_ble_eq_true rfl) ?_
  intro p e s m below meth c A ls hx hb hr hlk hml hown hts hP hK hD hA hG hS hl hEx
  have hl : lv_has ls 4 [(0, .ref (ad 0)), (1, .int (nI j)), (2, .int wd)] := hl
  refine lv_iload_n hx hb dX4_open_0 rfl (lv_at hl 1 rfl) ?_
  refine lv_iconst (v := (nI 4)) hx hb dX4_open_1 (by decide) ?_
  refine kq_cS (st1 := []) ⟨hx, hb, hml, hown, hts⟩ (c_refuseUnlessBelow_ok u (by omega) (by omega)) (va_cwS 2 hts gX4_62_X4_refuseUnlessBelow rfl rfl rfl (by decide +kernel) ⟨Nat.le_of_ble_eq_true rfl, Nat.le_of_ble_eq_true rfl⟩) tm_Gok hK hP hD hA hG hS rfl hl.1 rfl rfl (Nat.le_of_ble_eq_true rfl) dX4_open_2 ⟨Nat.le_of_ble_eq_true rfl, Nat.le_of_ble_eq_true rfl⟩ (fun H locs hP hD hS => ?_)
  refine lv_aload_n hx hb dX4_open_5 rfl (lv_at hl 0 rfl) ?_
  exact kq_tV ⟨hx, hb, hml, hown, hts⟩ (c_refuseWhenLost_no hl9 u hlo) (cwV 0 hts gX4_66_X4_refuseWhenLost rfl rfl rfl (by decide +kernel) ⟨Nat.le_of_ble_eq_true rfl, Nat.le_of_ble_eq_true rfl⟩) tm_Gok hK hP hD hA hG hS (va_recv hK hP (ci := 4) (q0 := 0) rfl (tm_at (i := 0) (by omega) rfl)) rfl hl.1 rfl (Nat.le_of_ble_eq_true rfl) dX4_open_6 ⟨Nat.le_of_ble_eq_true rfl, Nat.le_of_ble_eq_true rfl⟩ hlk hEx (Nat.le_of_ble_eq_true rfl) (Nat.le_of_ble_eq_true rfl)
set_option maxHeartbeats 4000000 in
set_option maxRecDepth 100000 in
theorem m_open_free (hl9 : l.stackTraces = false) (u : tm_S) {j : Nat} (hj : j < 4) (wd : Int32) (hnl : u.2.1 11 0 = 0) (hh : u.2.1 0 j = 0) : kc_T l dC dI gs ad cc yX4_open wsX4_open { frames := 8, cells := 1, slots := 6, locals := 125 } [.ref (ad 0), .int (nI j), .int wd] u u "java/util/NoSuchElementException" := by
  refine kq_ofT (cc := cX4_open) (maxL := 4) (ret := (some .long)) (R0 := RX4) (by decide) rfl rfl (Nat.le_of_ble_eq_true rfl) ?_
  intro p e s m below meth c A ls hx hb hr hlk hml hown hts hP hK hD hA hG hS hl hEx
  have hl : lv_has ls 4 [(0, .ref (ad 0)), (1, .int (nI j)), (2, .int wd)] := hl
  refine lv_iload_n hx hb dX4_open_0 rfl (lv_at hl 1 rfl) ?_
  refine lv_iconst (v := (nI 4)) hx hb dX4_open_1 (by decide) ?_
  refine kq_cS (st1 := []) ⟨hx, hb, hml, hown, hts⟩ (c_refuseUnlessBelow_ok u (by omega) (by omega)) (va_cwS 2 hts gX4_62_X4_refuseUnlessBelow rfl rfl rfl (by decide +kernel) ⟨Nat.le_of_ble_eq_true rfl, Nat.le_of_ble_eq_true rfl⟩) tm_Gok hK hP hD hA hG hS rfl hl.1 rfl rfl (Nat.le_of_ble_eq_true rfl) dX4_open_2 ⟨Nat.le_of_ble_eq_true rfl, Nat.le_of_ble_eq_true rfl⟩ (fun H locs hP hD hS => ?_)
  refine lv_aload_n hx hb dX4_open_5 rfl (lv_at hl 0 rfl) ?_
  refine kq_cV (st1 := []) ⟨hx, hb, hml, hown, hts⟩ (c_refuseWhenLost_ok u hnl) (cwV 0 hts gX4_66_X4_refuseWhenLost rfl rfl rfl (by decide +kernel) ⟨Nat.le_of_ble_eq_true rfl, Nat.le_of_ble_eq_true rfl⟩) tm_Gok hK hP hD hA hG hS (va_recv hK hP (ci := 4) (q0 := 0) rfl (tm_at (i := 0) (by omega) rfl)) rfl hl.1 rfl rfl (Nat.le_of_ble_eq_true rfl) dX4_open_6 ⟨Nat.le_of_ble_eq_true rfl, Nat.le_of_ble_eq_true rfl⟩ (fun H locs hP hD hS => ?_)
  refine lv_aload_n hx hb dX4_open_9 rfl (lv_at hl 0 rfl) ?_
  refine lv_iload_n hx hb dX4_open_10 rfl (lv_at hl 1 rfl) ?_
  exact kq_tV ⟨hx, hb, hml, hown, hts⟩ (c_heldKey_no hl9 u (k := j) (by omega) hh) (cwV 1 hts gX4_81_X4_heldKey rfl rfl rfl (by decide +kernel) ⟨Nat.le_of_ble_eq_true rfl, Nat.le_of_ble_eq_true rfl⟩) tm_Gok hK hP hD hA hG hS (va_recv hK hP (ci := 4) (q0 := 0) rfl (tm_at (i := 0) (by omega) rfl)) rfl hl.1 rfl (Nat.le_of_ble_eq_true rfl) dX4_open_11 ⟨Nat.le_of_ble_eq_true rfl, Nat.le_of_ble_eq_true rfl⟩ hlk hEx (Nat.le_of_ble_eq_true rfl) (Nat.le_of_ble_eq_true rfl)
set_option maxHeartbeats 4000000 in
set_option maxRecDepth 100000 in
theorem m_open_w0 (u : tm_S) {j : Nat} (hj : j < 4) (wd : Int32) (hnl : u.2.1 11 0 = 0) (hh : ¬ u.2.1 0 j = 0) (hw : u.2.1 1 j = 0) : kc_M l dC dI gs ad cc yX4_open wsX4_open { frames := 8, cells := 0, slots := 0, locals := 125 } [.ref (ad 0), .int (nI j), .int wd] u u (some (.long (u.1 4 j))) := by
  refine kq_ofW (cc := cX4_open) (maxL := 4) (ret := (some .long)) (R0 := RX4) (by decide) rfl rfl (Nat.le_of_ble_eq_true rfl) ?_
  intro p e s m below meth c A ls hx hb hr hlk hml hown hts hP hK hD hA hG hS hl
  have hl : lv_has ls 4 [(0, .ref (ad 0)), (1, .int (nI j)), (2, .int wd)] := hl
  refine lv_iload_n hx hb dX4_open_0 rfl (lv_at hl 1 rfl) ?_
  refine lv_iconst (v := (nI 4)) hx hb dX4_open_1 (by decide) ?_
  refine kq_cS (st1 := []) ⟨hx, hb, hml, hown, hts⟩ (c_refuseUnlessBelow_ok u (by omega) (by omega)) (va_cwS 2 hts gX4_62_X4_refuseUnlessBelow rfl rfl rfl (by decide +kernel) ⟨Nat.le_of_ble_eq_true rfl, Nat.le_of_ble_eq_true rfl⟩) tm_Gok hK hP hD hA hG hS rfl hl.1 rfl rfl (Nat.le_of_ble_eq_true rfl) dX4_open_2 ⟨Nat.le_of_ble_eq_true rfl, Nat.le_of_ble_eq_true rfl⟩ (fun H locs hP hD hS => ?_)
  refine lv_aload_n hx hb dX4_open_5 rfl (lv_at hl 0 rfl) ?_
  refine kq_cV (st1 := []) ⟨hx, hb, hml, hown, hts⟩ (c_refuseWhenLost_ok u hnl) (cwV 0 hts gX4_66_X4_refuseWhenLost rfl rfl rfl (by decide +kernel) ⟨Nat.le_of_ble_eq_true rfl, Nat.le_of_ble_eq_true rfl⟩) tm_Gok hK hP hD hA hG hS (va_recv hK hP (ci := 4) (q0 := 0) rfl (tm_at (i := 0) (by omega) rfl)) rfl hl.1 rfl rfl (Nat.le_of_ble_eq_true rfl) dX4_open_6 ⟨Nat.le_of_ble_eq_true rfl, Nat.le_of_ble_eq_true rfl⟩ (fun H locs hP hD hS => ?_)
  refine lv_aload_n hx hb dX4_open_9 rfl (lv_at hl 0 rfl) ?_
  refine lv_iload_n hx hb dX4_open_10 rfl (lv_at hl 1 rfl) ?_
  refine kq_cV (st1 := [.ref (ad (j + 9))]) ⟨hx, hb, hml, hown, hts⟩ (c_heldKey_ok u (k := j) (by omega) hh) (cwV 1 hts gX4_81_X4_heldKey rfl rfl rfl (by decide +kernel) ⟨Nat.le_of_ble_eq_true rfl, Nat.le_of_ble_eq_true rfl⟩) tm_Gok hK hP hD hA hG hS (va_recv hK hP (ci := 4) (q0 := 0) rfl (tm_at (i := 0) (by omega) rfl)) rfl hl.1 rfl rfl (Nat.le_of_ble_eq_true rfl) dX4_open_11 ⟨Nat.le_of_ble_eq_true rfl, Nat.le_of_ble_eq_true rfl⟩ (fun H locs hP hD hS => ?_)
  refine lv_astore_n (lv' := [(3, .ref (ad (j + 9))), (0, .ref (ad 0)), (1, .int (nI j)), (2, .int wd)]) hx hb dX4_open_14 rfl hl (by decide) rfl (fun ls hl => ?_)
  refine lv_aload_n hx hb dX4_open_15 rfl (lv_at hl 1 rfl) ?_
  refine lv_aload_n hx hb dX4_open_16 rfl (lv_at hl 0 rfl) ?_
  refine lv_iload_n hx hb dX4_open_17 rfl (lv_at hl 3 rfl) ?_
  refine kq_cV (st1 := []) ⟨hx, hb, hml, hown, hts⟩ (c_allowByWord_0 u (k := j) (by omega) wd hw) (cwV 2 hts gX4_120_X4_allowByWord rfl rfl rfl (by decide +kernel) ⟨Nat.le_of_ble_eq_true rfl, Nat.le_of_ble_eq_true rfl⟩) tm_Gok hK hP hD hA hG hS (va_recv hK hP (ci := 4) (q0 := 0) rfl (tm_at (i := 0) (by omega) rfl)) rfl hl.1 rfl rfl (Nat.le_of_ble_eq_true rfl) dX4_open_18 ⟨Nat.le_of_ble_eq_true rfl, Nat.le_of_ble_eq_true rfl⟩ (fun H locs hP hD hS => ?_)
  refine lv_aload_n hx hb dX4_open_21 rfl (lv_at hl 0 rfl) ?_
  refine tc_gK_secret hx hb hts inB_X2 hown hK hP (by omega) (hts _ mb_53) dX4_open_22 ?_
  exact kq_lret hx hb hr hlk hP hD hS dX4_open_25
set_option maxHeartbeats 4000000 in
set_option maxRecDepth 100000 in
theorem m_open_lock (hl9 : l.stackTraces = false) (u : tm_S) {j : Nat} (hj : j < 4) (wd : Int32) (hnl : u.2.1 11 0 = 0) (hh : ¬ u.2.1 0 j = 0) (hw : ¬ u.2.1 1 j = 0) (hg : ¬ u.2.1 13 0 < nI 3) : kc_T l dC dI gs ad cc yX4_open wsX4_open { frames := 8, cells := 1, slots := 6, locals := 125 } [.ref (ad 0), .int (nI j), .int wd] u u "java/lang/IllegalStateException" := by
  refine kq_ofT (cc := cX4_open) (maxL := 4) (ret := (some .long)) (R0 := RX4) (by decide) rfl rfl (Nat.le_of_ble_eq_true rfl) ?_
  intro p e s m below meth c A ls hx hb hr hlk hml hown hts hP hK hD hA hG hS hl hEx
  have hl : lv_has ls 4 [(0, .ref (ad 0)), (1, .int (nI j)), (2, .int wd)] := hl
  refine lv_iload_n hx hb dX4_open_0 rfl (lv_at hl 1 rfl) ?_
  refine lv_iconst (v := (nI 4)) hx hb dX4_open_1 (by decide) ?_
  refine kq_cS (st1 := []) ⟨hx, hb, hml, hown, hts⟩ (c_refuseUnlessBelow_ok u (by omega) (by omega)) (va_cwS 2 hts gX4_62_X4_refuseUnlessBelow rfl rfl rfl (by decide +kernel) ⟨Nat.le_of_ble_eq_true rfl, Nat.le_of_ble_eq_true rfl⟩) tm_Gok hK hP hD hA hG hS rfl hl.1 rfl rfl (Nat.le_of_ble_eq_true rfl) dX4_open_2 ⟨Nat.le_of_ble_eq_true rfl, Nat.le_of_ble_eq_true rfl⟩ (fun H locs hP hD hS => ?_)
  refine lv_aload_n hx hb dX4_open_5 rfl (lv_at hl 0 rfl) ?_
  refine kq_cV (st1 := []) ⟨hx, hb, hml, hown, hts⟩ (c_refuseWhenLost_ok u hnl) (cwV 0 hts gX4_66_X4_refuseWhenLost rfl rfl rfl (by decide +kernel) ⟨Nat.le_of_ble_eq_true rfl, Nat.le_of_ble_eq_true rfl⟩) tm_Gok hK hP hD hA hG hS (va_recv hK hP (ci := 4) (q0 := 0) rfl (tm_at (i := 0) (by omega) rfl)) rfl hl.1 rfl rfl (Nat.le_of_ble_eq_true rfl) dX4_open_6 ⟨Nat.le_of_ble_eq_true rfl, Nat.le_of_ble_eq_true rfl⟩ (fun H locs hP hD hS => ?_)
  refine lv_aload_n hx hb dX4_open_9 rfl (lv_at hl 0 rfl) ?_
  refine lv_iload_n hx hb dX4_open_10 rfl (lv_at hl 1 rfl) ?_
  refine kq_cV (st1 := [.ref (ad (j + 9))]) ⟨hx, hb, hml, hown, hts⟩ (c_heldKey_ok u (k := j) (by omega) hh) (cwV 1 hts gX4_81_X4_heldKey rfl rfl rfl (by decide +kernel) ⟨Nat.le_of_ble_eq_true rfl, Nat.le_of_ble_eq_true rfl⟩) tm_Gok hK hP hD hA hG hS (va_recv hK hP (ci := 4) (q0 := 0) rfl (tm_at (i := 0) (by omega) rfl)) rfl hl.1 rfl rfl (Nat.le_of_ble_eq_true rfl) dX4_open_11 ⟨Nat.le_of_ble_eq_true rfl, Nat.le_of_ble_eq_true rfl⟩ (fun H locs hP hD hS => ?_)
  refine lv_astore_n (lv' := [(3, .ref (ad (j + 9))), (0, .ref (ad 0)), (1, .int (nI j)), (2, .int wd)]) hx hb dX4_open_14 rfl hl (by decide) rfl (fun ls hl => ?_)
  refine lv_aload_n hx hb dX4_open_15 rfl (lv_at hl 1 rfl) ?_
  refine lv_aload_n hx hb dX4_open_16 rfl (lv_at hl 0 rfl) ?_
  refine lv_iload_n hx hb dX4_open_17 rfl (lv_at hl 3 rfl) ?_
  exact kq_tV ⟨hx, hb, hml, hown, hts⟩ (c_allowByWord_lock hl9 u (k := j) (by omega) wd hw hg) (cwV 2 hts gX4_120_X4_allowByWord rfl rfl rfl (by decide +kernel) ⟨Nat.le_of_ble_eq_true rfl, Nat.le_of_ble_eq_true rfl⟩) tm_Gok hK hP hD hA hG hS (va_recv hK hP (ci := 4) (q0 := 0) rfl (tm_at (i := 0) (by omega) rfl)) rfl hl.1 rfl (Nat.le_of_ble_eq_true rfl) dX4_open_18 ⟨Nat.le_of_ble_eq_true rfl, Nat.le_of_ble_eq_true rfl⟩ hlk hEx (Nat.le_of_ble_eq_true rfl) (Nat.le_of_ble_eq_true rfl)
set_option maxHeartbeats 4000000 in
set_option maxRecDepth 100000 in
theorem m_open_wok (u : tm_S) {j : Nat} (hj : j < 4) (wd : Int32) (hnl : u.2.1 11 0 = 0) (hh : ¬ u.2.1 0 j = 0) (hw : ¬ u.2.1 1 j = 0) (hg : u.2.1 13 0 < nI 3) (he : u.2.1 1 j = wd) : kc_M l dC dI gs ad cc yX4_open wsX4_open { frames := 8, cells := 0, slots := 0, locals := 125 } [.ref (ad 0), .int (nI j), .int wd] u u (some (.long (u.1 4 j))) := by
  refine kq_ofW (cc := cX4_open) (maxL := 4) (ret := (some .long)) (R0 := RX4) (by decide) rfl rfl (Nat.le_of_ble_eq_true rfl) ?_
  intro p e s m below meth c A ls hx hb hr hlk hml hown hts hP hK hD hA hG hS hl
  have hl : lv_has ls 4 [(0, .ref (ad 0)), (1, .int (nI j)), (2, .int wd)] := hl
  refine lv_iload_n hx hb dX4_open_0 rfl (lv_at hl 1 rfl) ?_
  refine lv_iconst (v := (nI 4)) hx hb dX4_open_1 (by decide) ?_
  refine kq_cS (st1 := []) ⟨hx, hb, hml, hown, hts⟩ (c_refuseUnlessBelow_ok u (by omega) (by omega)) (va_cwS 2 hts gX4_62_X4_refuseUnlessBelow rfl rfl rfl (by decide +kernel) ⟨Nat.le_of_ble_eq_true rfl, Nat.le_of_ble_eq_true rfl⟩) tm_Gok hK hP hD hA hG hS rfl hl.1 rfl rfl (Nat.le_of_ble_eq_true rfl) dX4_open_2 ⟨Nat.le_of_ble_eq_true rfl, Nat.le_of_ble_eq_true rfl⟩ (fun H locs hP hD hS => ?_)
  refine lv_aload_n hx hb dX4_open_5 rfl (lv_at hl 0 rfl) ?_
  refine kq_cV (st1 := []) ⟨hx, hb, hml, hown, hts⟩ (c_refuseWhenLost_ok u hnl) (cwV 0 hts gX4_66_X4_refuseWhenLost rfl rfl rfl (by decide +kernel) ⟨Nat.le_of_ble_eq_true rfl, Nat.le_of_ble_eq_true rfl⟩) tm_Gok hK hP hD hA hG hS (va_recv hK hP (ci := 4) (q0 := 0) rfl (tm_at (i := 0) (by omega) rfl)) rfl hl.1 rfl rfl (Nat.le_of_ble_eq_true rfl) dX4_open_6 ⟨Nat.le_of_ble_eq_true rfl, Nat.le_of_ble_eq_true rfl⟩ (fun H locs hP hD hS => ?_)
  refine lv_aload_n hx hb dX4_open_9 rfl (lv_at hl 0 rfl) ?_
  refine lv_iload_n hx hb dX4_open_10 rfl (lv_at hl 1 rfl) ?_
  refine kq_cV (st1 := [.ref (ad (j + 9))]) ⟨hx, hb, hml, hown, hts⟩ (c_heldKey_ok u (k := j) (by omega) hh) (cwV 1 hts gX4_81_X4_heldKey rfl rfl rfl (by decide +kernel) ⟨Nat.le_of_ble_eq_true rfl, Nat.le_of_ble_eq_true rfl⟩) tm_Gok hK hP hD hA hG hS (va_recv hK hP (ci := 4) (q0 := 0) rfl (tm_at (i := 0) (by omega) rfl)) rfl hl.1 rfl rfl (Nat.le_of_ble_eq_true rfl) dX4_open_11 ⟨Nat.le_of_ble_eq_true rfl, Nat.le_of_ble_eq_true rfl⟩ (fun H locs hP hD hS => ?_)
  refine lv_astore_n (lv' := [(3, .ref (ad (j + 9))), (0, .ref (ad 0)), (1, .int (nI j)), (2, .int wd)]) hx hb dX4_open_14 rfl hl (by decide) rfl (fun ls hl => ?_)
  refine lv_aload_n hx hb dX4_open_15 rfl (lv_at hl 1 rfl) ?_
  refine lv_aload_n hx hb dX4_open_16 rfl (lv_at hl 0 rfl) ?_
  refine lv_iload_n hx hb dX4_open_17 rfl (lv_at hl 3 rfl) ?_
  refine kq_cV (st1 := []) ⟨hx, hb, hml, hown, hts⟩ (c_allowByWord_ok u (k := j) (by omega) wd hw hg he) (cwV 2 hts gX4_120_X4_allowByWord rfl rfl rfl (by decide +kernel) ⟨Nat.le_of_ble_eq_true rfl, Nat.le_of_ble_eq_true rfl⟩) tm_Gok hK hP hD hA hG hS (va_recv hK hP (ci := 4) (q0 := 0) rfl (tm_at (i := 0) (by omega) rfl)) rfl hl.1 rfl rfl (Nat.le_of_ble_eq_true rfl) dX4_open_18 ⟨Nat.le_of_ble_eq_true rfl, Nat.le_of_ble_eq_true rfl⟩ (fun H locs hP hD hS => ?_)
  refine lv_aload_n hx hb dX4_open_21 rfl (lv_at hl 0 rfl) ?_
  refine tc_gK_secret hx hb hts inB_X2 hown hK hP (by omega) (hts _ mb_53) dX4_open_22 ?_
  exact kq_lret hx hb hr hlk hP hD hS dX4_open_25
set_option maxHeartbeats 4000000 in
set_option maxRecDepth 100000 in
theorem m_open_wno (hl9 : l.stackTraces = false) (u : tm_S) {j : Nat} (hj : j < 4) (wd : Int32) (hnl : u.2.1 11 0 = 0) (hh : ¬ u.2.1 0 j = 0) (hw : ¬ u.2.1 1 j = 0) (hg : u.2.1 13 0 < nI 3) (he : ¬ u.2.1 1 j = wd) : kc_T l dC dI gs ad cc yX4_open wsX4_open { frames := 8, cells := 1, slots := 6, locals := 125 } [.ref (ad 0), .int (nI j), .int wd] u (tm_D (tm_I u 13 0 ((u.2.1 13 0) + (nI 1))) 0 (u.2.2 1)) "java/lang/UnsupportedOperationException" := by
  refine kq_ofT (cc := cX4_open) (maxL := 4) (ret := (some .long)) (R0 := RX4) (by decide) rfl rfl (Nat.le_of_ble_eq_true rfl) ?_
  intro p e s m below meth c A ls hx hb hr hlk hml hown hts hP hK hD hA hG hS hl hEx
  have hl : lv_has ls 4 [(0, .ref (ad 0)), (1, .int (nI j)), (2, .int wd)] := hl
  refine lv_iload_n hx hb dX4_open_0 rfl (lv_at hl 1 rfl) ?_
  refine lv_iconst (v := (nI 4)) hx hb dX4_open_1 (by decide) ?_
  refine kq_cS (st1 := []) ⟨hx, hb, hml, hown, hts⟩ (c_refuseUnlessBelow_ok u (by omega) (by omega)) (va_cwS 2 hts gX4_62_X4_refuseUnlessBelow rfl rfl rfl (by decide +kernel) ⟨Nat.le_of_ble_eq_true rfl, Nat.le_of_ble_eq_true rfl⟩) tm_Gok hK hP hD hA hG hS rfl hl.1 rfl rfl (Nat.le_of_ble_eq_true rfl) dX4_open_2 ⟨Nat.le_of_ble_eq_true rfl, Nat.le_of_ble_eq_true rfl⟩ (fun H locs hP hD hS => ?_)
  refine lv_aload_n hx hb dX4_open_5 rfl (lv_at hl 0 rfl) ?_
  refine kq_cV (st1 := []) ⟨hx, hb, hml, hown, hts⟩ (c_refuseWhenLost_ok u hnl) (cwV 0 hts gX4_66_X4_refuseWhenLost rfl rfl rfl (by decide +kernel) ⟨Nat.le_of_ble_eq_true rfl, Nat.le_of_ble_eq_true rfl⟩) tm_Gok hK hP hD hA hG hS (va_recv hK hP (ci := 4) (q0 := 0) rfl (tm_at (i := 0) (by omega) rfl)) rfl hl.1 rfl rfl (Nat.le_of_ble_eq_true rfl) dX4_open_6 ⟨Nat.le_of_ble_eq_true rfl, Nat.le_of_ble_eq_true rfl⟩ (fun H locs hP hD hS => ?_)
  refine lv_aload_n hx hb dX4_open_9 rfl (lv_at hl 0 rfl) ?_
  refine lv_iload_n hx hb dX4_open_10 rfl (lv_at hl 1 rfl) ?_
  refine kq_cV (st1 := [.ref (ad (j + 9))]) ⟨hx, hb, hml, hown, hts⟩ (c_heldKey_ok u (k := j) (by omega) hh) (cwV 1 hts gX4_81_X4_heldKey rfl rfl rfl (by decide +kernel) ⟨Nat.le_of_ble_eq_true rfl, Nat.le_of_ble_eq_true rfl⟩) tm_Gok hK hP hD hA hG hS (va_recv hK hP (ci := 4) (q0 := 0) rfl (tm_at (i := 0) (by omega) rfl)) rfl hl.1 rfl rfl (Nat.le_of_ble_eq_true rfl) dX4_open_11 ⟨Nat.le_of_ble_eq_true rfl, Nat.le_of_ble_eq_true rfl⟩ (fun H locs hP hD hS => ?_)
  refine lv_astore_n (lv' := [(3, .ref (ad (j + 9))), (0, .ref (ad 0)), (1, .int (nI j)), (2, .int wd)]) hx hb dX4_open_14 rfl hl (by decide) rfl (fun ls hl => ?_)
  refine lv_aload_n hx hb dX4_open_15 rfl (lv_at hl 1 rfl) ?_
  refine lv_aload_n hx hb dX4_open_16 rfl (lv_at hl 0 rfl) ?_
  refine lv_iload_n hx hb dX4_open_17 rfl (lv_at hl 3 rfl) ?_
  exact kq_tV ⟨hx, hb, hml, hown, hts⟩ (c_allowByWord_no hl9 u (k := j) (by omega) wd hw hg he) (cwV 2 hts gX4_120_X4_allowByWord rfl rfl rfl (by decide +kernel) ⟨Nat.le_of_ble_eq_true rfl, Nat.le_of_ble_eq_true rfl⟩) tm_Gok hK hP hD hA hG hS (va_recv hK hP (ci := 4) (q0 := 0) rfl (tm_at (i := 0) (by omega) rfl)) rfl hl.1 rfl (Nat.le_of_ble_eq_true rfl) dX4_open_18 ⟨Nat.le_of_ble_eq_true rfl, Nat.le_of_ble_eq_true rfl⟩ hlk hEx (Nat.le_of_ble_eq_true rfl) (Nat.le_of_ble_eq_true rfl)
set_option maxHeartbeats 4000000 in
set_option maxRecDepth 100000 in
theorem m_unseal_b1 (hl9 : l.stackTraces = false) (u : tm_S) (x : Int32) (h : x < 0 ∨ nI 4 ≤ x) (i : Int32) : kc_T l dC dI gs ad cc yX4_unseal wsX4_unseal { frames := 8, cells := 1, slots := 6, locals := 125 } [.ref (ad 0), .int x, .int i] u u "java/lang/IllegalArgumentException" := by
  refine kq_ofT (cc := cX4_unseal) (maxL := 4) (ret := (some .long)) (R0 := RX4) (by decide) rfl rfl (Nat.le_of_ble_eq_true rfl) ?_
  intro p e s m below meth c A ls hx hb hr hlk hml hown hts hP hK hD hA hG hS hl hEx
  have hl : lv_has ls 4 [(0, .ref (ad 0)), (1, .int x), (2, .int i)] := hl
  refine lv_iload_n hx hb dX4_unseal_0 rfl (lv_at hl 1 rfl) ?_
  refine lv_iconst (v := (nI 4)) hx hb dX4_unseal_1 (by decide) ?_
  exact kq_tS ⟨hx, hb, hml, hown, hts⟩ (c_refuseUnlessBelow_no hl9 u h (by omega) (by omega)) (va_cwS 2 hts gX4_62_X4_refuseUnlessBelow rfl rfl rfl (by decide +kernel) ⟨Nat.le_of_ble_eq_true rfl, Nat.le_of_ble_eq_true rfl⟩) tm_Gok hK hP hD hA hG hS rfl hl.1 rfl (Nat.le_of_ble_eq_true rfl) dX4_unseal_2 ⟨Nat.le_of_ble_eq_true rfl, Nat.le_of_ble_eq_true rfl⟩ hlk hEx (Nat.le_of_ble_eq_true rfl) (Nat.le_of_ble_eq_true rfl)
set_option maxHeartbeats 4000000 in
set_option maxRecDepth 100000 in
theorem m_unseal_b2 (hl9 : l.stackTraces = false) (u : tm_S) {j : Nat} (hj : j < 4) (x : Int32) (h : x < 0 ∨ nI 3 ≤ x)  : kc_T l dC dI gs ad cc yX4_unseal wsX4_unseal { frames := 8, cells := 1, slots := 6, locals := 125 } [.ref (ad 0), .int (nI j), .int x] u u "java/lang/IllegalArgumentException" := by
  refine kq_ofT (cc := cX4_unseal) (maxL := 4) (ret := (some .long)) (R0 := RX4) (by decide) rfl rfl (Nat.le_of_ble_eq_true rfl) ?_
  intro p e s m below meth c A ls hx hb hr hlk hml hown hts hP hK hD hA hG hS hl hEx
  have hl : lv_has ls 4 [(0, .ref (ad 0)), (1, .int (nI j)), (2, .int x)] := hl
  refine lv_iload_n hx hb dX4_unseal_0 rfl (lv_at hl 1 rfl) ?_
  refine lv_iconst (v := (nI 4)) hx hb dX4_unseal_1 (by decide) ?_
  refine kq_cS (st1 := []) ⟨hx, hb, hml, hown, hts⟩ (c_refuseUnlessBelow_ok u (by omega) (by omega)) (va_cwS 2 hts gX4_62_X4_refuseUnlessBelow rfl rfl rfl (by decide +kernel) ⟨Nat.le_of_ble_eq_true rfl, Nat.le_of_ble_eq_true rfl⟩) tm_Gok hK hP hD hA hG hS rfl hl.1 rfl rfl (Nat.le_of_ble_eq_true rfl) dX4_unseal_2 ⟨Nat.le_of_ble_eq_true rfl, Nat.le_of_ble_eq_true rfl⟩ (fun H locs hP hD hS => ?_)
  refine lv_iload_n hx hb dX4_unseal_5 rfl (lv_at hl 2 rfl) ?_
  refine lv_iconst (v := (nI 3)) hx hb dX4_unseal_6 (by decide) ?_
  exact kq_tS ⟨hx, hb, hml, hown, hts⟩ (c_refuseUnlessBelow_no hl9 u h (by omega) (by omega)) (va_cwS 2 hts gX4_62_X4_refuseUnlessBelow rfl rfl rfl (by decide +kernel) ⟨Nat.le_of_ble_eq_true rfl, Nat.le_of_ble_eq_true rfl⟩) tm_Gok hK hP hD hA hG hS rfl hl.1 rfl (Nat.le_of_ble_eq_true rfl) dX4_unseal_7 ⟨Nat.le_of_ble_eq_true rfl, Nat.le_of_ble_eq_true rfl⟩ hlk hEx (Nat.le_of_ble_eq_true rfl) (Nat.le_of_ble_eq_true rfl)
set_option maxHeartbeats 4000000 in
set_option maxRecDepth 100000 in
theorem m_unseal_lo (hl9 : l.stackTraces = false) (u : tm_S) {j i : Nat} (hj : j < 4) (hi : i < 3) (hlo : ¬ u.2.1 11 0 = 0)  : kc_T l dC dI gs ad cc yX4_unseal wsX4_unseal { frames := 8, cells := 1, slots := 6, locals := 125 } [.ref (ad 0), .int (nI j), .int (nI i)] u u "java/lang/IllegalStateException" := by
  refine kq_ofT (cc := cX4_unseal) (maxL := 4) (ret := (some .long)) (R0 := RX4) (by decide) rfl rfl (Nat.le_of_ble_eq_true rfl) ?_
  intro p e s m below meth c A ls hx hb hr hlk hml hown hts hP hK hD hA hG hS hl hEx
  have hl : lv_has ls 4 [(0, .ref (ad 0)), (1, .int (nI j)), (2, .int (nI i))] := hl
  refine lv_iload_n hx hb dX4_unseal_0 rfl (lv_at hl 1 rfl) ?_
  refine lv_iconst (v := (nI 4)) hx hb dX4_unseal_1 (by decide) ?_
  refine kq_cS (st1 := []) ⟨hx, hb, hml, hown, hts⟩ (c_refuseUnlessBelow_ok u (by omega) (by omega)) (va_cwS 2 hts gX4_62_X4_refuseUnlessBelow rfl rfl rfl (by decide +kernel) ⟨Nat.le_of_ble_eq_true rfl, Nat.le_of_ble_eq_true rfl⟩) tm_Gok hK hP hD hA hG hS rfl hl.1 rfl rfl (Nat.le_of_ble_eq_true rfl) dX4_unseal_2 ⟨Nat.le_of_ble_eq_true rfl, Nat.le_of_ble_eq_true rfl⟩ (fun H locs hP hD hS => ?_)
  refine lv_iload_n hx hb dX4_unseal_5 rfl (lv_at hl 2 rfl) ?_
  refine lv_iconst (v := (nI 3)) hx hb dX4_unseal_6 (by decide) ?_
  refine kq_cS (st1 := []) ⟨hx, hb, hml, hown, hts⟩ (c_refuseUnlessBelow_ok u (by omega) (by omega)) (va_cwS 2 hts gX4_62_X4_refuseUnlessBelow rfl rfl rfl (by decide +kernel) ⟨Nat.le_of_ble_eq_true rfl, Nat.le_of_ble_eq_true rfl⟩) tm_Gok hK hP hD hA hG hS rfl hl.1 rfl rfl (Nat.le_of_ble_eq_true rfl) dX4_unseal_7 ⟨Nat.le_of_ble_eq_true rfl, Nat.le_of_ble_eq_true rfl⟩ (fun H locs hP hD hS => ?_)
  refine lv_aload_n hx hb dX4_unseal_10 rfl (lv_at hl 0 rfl) ?_
  exact kq_tV ⟨hx, hb, hml, hown, hts⟩ (c_refuseWhenLost_no hl9 u hlo) (cwV 0 hts gX4_66_X4_refuseWhenLost rfl rfl rfl (by decide +kernel) ⟨Nat.le_of_ble_eq_true rfl, Nat.le_of_ble_eq_true rfl⟩) tm_Gok hK hP hD hA hG hS (va_recv hK hP (ci := 4) (q0 := 0) rfl (tm_at (i := 0) (by omega) rfl)) rfl hl.1 rfl (Nat.le_of_ble_eq_true rfl) dX4_unseal_11 ⟨Nat.le_of_ble_eq_true rfl, Nat.le_of_ble_eq_true rfl⟩ hlk hEx (Nat.le_of_ble_eq_true rfl) (Nat.le_of_ble_eq_true rfl)
set_option maxHeartbeats 4000000 in
set_option maxRecDepth 100000 in
theorem m_unseal_free (hl9 : l.stackTraces = false) (u : tm_S) {j i : Nat} (hj : j < 4) (hi : i < 3) (hnl : u.2.1 11 0 = 0) (hh : u.2.1 0 j = 0) : kc_T l dC dI gs ad cc yX4_unseal wsX4_unseal { frames := 8, cells := 1, slots := 6, locals := 125 } [.ref (ad 0), .int (nI j), .int (nI i)] u u "java/util/NoSuchElementException" := by
  refine kq_ofT (cc := cX4_unseal) (maxL := 4) (ret := (some .long)) (R0 := RX4) (by decide) rfl rfl (Nat.le_of_ble_eq_true rfl) ?_
  intro p e s m below meth c A ls hx hb hr hlk hml hown hts hP hK hD hA hG hS hl hEx
  have hl : lv_has ls 4 [(0, .ref (ad 0)), (1, .int (nI j)), (2, .int (nI i))] := hl
  refine lv_iload_n hx hb dX4_unseal_0 rfl (lv_at hl 1 rfl) ?_
  refine lv_iconst (v := (nI 4)) hx hb dX4_unseal_1 (by decide) ?_
  refine kq_cS (st1 := []) ⟨hx, hb, hml, hown, hts⟩ (c_refuseUnlessBelow_ok u (by omega) (by omega)) (va_cwS 2 hts gX4_62_X4_refuseUnlessBelow rfl rfl rfl (by decide +kernel) ⟨Nat.le_of_ble_eq_true rfl, Nat.le_of_ble_eq_true rfl⟩) tm_Gok hK hP hD hA hG hS rfl hl.1 rfl rfl (Nat.le_of_ble_eq_true rfl) dX4_unseal_2 ⟨Nat.le_of_ble_eq_true rfl, Nat.le_of_ble_eq_true rfl⟩ (fun H locs hP hD hS => ?_)
  refine lv_iload_n hx hb dX4_unseal_5 rfl (lv_at hl 2 rfl) ?_
  refine lv_iconst (v := (nI 3)) hx hb dX4_unseal_6 (by decide) ?_
  refine kq_cS (st1 := []) ⟨hx, hb, hml, hown, hts⟩ (c_refuseUnlessBelow_ok u (by omega) (by omega)) (va_cwS 2 hts gX4_62_X4_refuseUnlessBelow rfl rfl rfl (by decide +kernel) ⟨Nat.le_of_ble_eq_true rfl, Nat.le_of_ble_eq_true rfl⟩) tm_Gok hK hP hD hA hG hS rfl hl.1 rfl rfl (Nat.le_of_ble_eq_true rfl) dX4_unseal_7 ⟨Nat.le_of_ble_eq_true rfl, Nat.le_of_ble_eq_true rfl⟩ (fun H locs hP hD hS => ?_)
  refine lv_aload_n hx hb dX4_unseal_10 rfl (lv_at hl 0 rfl) ?_
  refine kq_cV (st1 := []) ⟨hx, hb, hml, hown, hts⟩ (c_refuseWhenLost_ok u hnl) (cwV 0 hts gX4_66_X4_refuseWhenLost rfl rfl rfl (by decide +kernel) ⟨Nat.le_of_ble_eq_true rfl, Nat.le_of_ble_eq_true rfl⟩) tm_Gok hK hP hD hA hG hS (va_recv hK hP (ci := 4) (q0 := 0) rfl (tm_at (i := 0) (by omega) rfl)) rfl hl.1 rfl rfl (Nat.le_of_ble_eq_true rfl) dX4_unseal_11 ⟨Nat.le_of_ble_eq_true rfl, Nat.le_of_ble_eq_true rfl⟩ (fun H locs hP hD hS => ?_)
  refine lv_aload_n hx hb dX4_unseal_14 rfl (lv_at hl 0 rfl) ?_
  refine lv_iload_n hx hb dX4_unseal_15 rfl (lv_at hl 1 rfl) ?_
  exact kq_tV ⟨hx, hb, hml, hown, hts⟩ (c_heldKey_no hl9 u (k := j) (by omega) hh) (cwV 1 hts gX4_81_X4_heldKey rfl rfl rfl (by decide +kernel) ⟨Nat.le_of_ble_eq_true rfl, Nat.le_of_ble_eq_true rfl⟩) tm_Gok hK hP hD hA hG hS (va_recv hK hP (ci := 4) (q0 := 0) rfl (tm_at (i := 0) (by omega) rfl)) rfl hl.1 rfl (Nat.le_of_ble_eq_true rfl) dX4_unseal_16 ⟨Nat.le_of_ble_eq_true rfl, Nat.le_of_ble_eq_true rfl⟩ hlk hEx (Nat.le_of_ble_eq_true rfl) (Nat.le_of_ble_eq_true rfl)
set_option maxHeartbeats 4000000 in
set_option maxRecDepth 100000 in
theorem m_unseal_n1 (hl9 : l.stackTraces = false) (u : tm_S) {j i : Nat} (hj : j < 4) (hi : i < 3) (hnl : u.2.1 11 0 = 0) (hh : ¬ u.2.1 0 j = 0) (ho : u.1 3 j = 0) : kc_T l dC dI gs ad cc yX4_unseal wsX4_unseal { frames := 8, cells := 1, slots := 6, locals := 125 } [.ref (ad 0), .int (nI j), .int (nI i)] u u "java/lang/UnsupportedOperationException" := by
  refine kq_ofT (cc := cX4_unseal) (maxL := 4) (ret := (some .long)) (R0 := RX4) (by decide) rfl rfl (Nat.le_of_ble_eq_true rfl) ?_
  intro p e s m below meth c A ls hx hb hr hlk hml hown hts hP hK hD hA hG hS hl hEx
  have hl : lv_has ls 4 [(0, .ref (ad 0)), (1, .int (nI j)), (2, .int (nI i))] := hl
  refine lv_iload_n hx hb dX4_unseal_0 rfl (lv_at hl 1 rfl) ?_
  refine lv_iconst (v := (nI 4)) hx hb dX4_unseal_1 (by decide) ?_
  refine kq_cS (st1 := []) ⟨hx, hb, hml, hown, hts⟩ (c_refuseUnlessBelow_ok u (by omega) (by omega)) (va_cwS 2 hts gX4_62_X4_refuseUnlessBelow rfl rfl rfl (by decide +kernel) ⟨Nat.le_of_ble_eq_true rfl, Nat.le_of_ble_eq_true rfl⟩) tm_Gok hK hP hD hA hG hS rfl hl.1 rfl rfl (Nat.le_of_ble_eq_true rfl) dX4_unseal_2 ⟨Nat.le_of_ble_eq_true rfl, Nat.le_of_ble_eq_true rfl⟩ (fun H locs hP hD hS => ?_)
  refine lv_iload_n hx hb dX4_unseal_5 rfl (lv_at hl 2 rfl) ?_
  refine lv_iconst (v := (nI 3)) hx hb dX4_unseal_6 (by decide) ?_
  refine kq_cS (st1 := []) ⟨hx, hb, hml, hown, hts⟩ (c_refuseUnlessBelow_ok u (by omega) (by omega)) (va_cwS 2 hts gX4_62_X4_refuseUnlessBelow rfl rfl rfl (by decide +kernel) ⟨Nat.le_of_ble_eq_true rfl, Nat.le_of_ble_eq_true rfl⟩) tm_Gok hK hP hD hA hG hS rfl hl.1 rfl rfl (Nat.le_of_ble_eq_true rfl) dX4_unseal_7 ⟨Nat.le_of_ble_eq_true rfl, Nat.le_of_ble_eq_true rfl⟩ (fun H locs hP hD hS => ?_)
  refine lv_aload_n hx hb dX4_unseal_10 rfl (lv_at hl 0 rfl) ?_
  refine kq_cV (st1 := []) ⟨hx, hb, hml, hown, hts⟩ (c_refuseWhenLost_ok u hnl) (cwV 0 hts gX4_66_X4_refuseWhenLost rfl rfl rfl (by decide +kernel) ⟨Nat.le_of_ble_eq_true rfl, Nat.le_of_ble_eq_true rfl⟩) tm_Gok hK hP hD hA hG hS (va_recv hK hP (ci := 4) (q0 := 0) rfl (tm_at (i := 0) (by omega) rfl)) rfl hl.1 rfl rfl (Nat.le_of_ble_eq_true rfl) dX4_unseal_11 ⟨Nat.le_of_ble_eq_true rfl, Nat.le_of_ble_eq_true rfl⟩ (fun H locs hP hD hS => ?_)
  refine lv_aload_n hx hb dX4_unseal_14 rfl (lv_at hl 0 rfl) ?_
  refine lv_iload_n hx hb dX4_unseal_15 rfl (lv_at hl 1 rfl) ?_
  refine kq_cV (st1 := [.ref (ad (j + 9))]) ⟨hx, hb, hml, hown, hts⟩ (c_heldKey_ok u (k := j) (by omega) hh) (cwV 1 hts gX4_81_X4_heldKey rfl rfl rfl (by decide +kernel) ⟨Nat.le_of_ble_eq_true rfl, Nat.le_of_ble_eq_true rfl⟩) tm_Gok hK hP hD hA hG hS (va_recv hK hP (ci := 4) (q0 := 0) rfl (tm_at (i := 0) (by omega) rfl)) rfl hl.1 rfl rfl (Nat.le_of_ble_eq_true rfl) dX4_unseal_16 ⟨Nat.le_of_ble_eq_true rfl, Nat.le_of_ble_eq_true rfl⟩ (fun H locs hP hD hS => ?_)
  refine lv_astore_n (lv' := [(3, .ref (ad (j + 9))), (0, .ref (ad 0)), (1, .int (nI j)), (2, .int (nI i))]) hx hb dX4_unseal_19 rfl hl (by decide) rfl (fun ls hl => ?_)
  refine lv_aload_n hx hb dX4_unseal_20 rfl (lv_at hl 1 rfl) ?_
  refine lv_aload_n hx hb dX4_unseal_21 rfl (lv_at hl 0 rfl) ?_
  refine tc_gK_policy hx hb hts inB_X2 hown hK hP (by omega) (hts _ mb_51) dX4_unseal_22 ?_
  refine lv_aload_n hx hb dX4_unseal_25 rfl (lv_at hl 1 rfl) ?_
  refine tc_gT_sessions hx hb hts inB_X4 hown hK hP (hts _ mb_149) dX4_unseal_26 ?_
  refine lv_iload_n hx hb dX4_unseal_29 rfl (lv_at hl 3 rfl) ?_
  refine tc_a_sessions hx hb hK hP (by omega) dX4_unseal_30 ?_
  exact kq_tV ⟨hx, hb, hml, hown, hts⟩ (c_allowBySession_n1 hl9 u (k := i) (by omega) (u.1 3 j) ho) (cwV 2 hts gX4_130_X4_allowBySession rfl rfl rfl (by decide +kernel) ⟨Nat.le_of_ble_eq_true rfl, Nat.le_of_ble_eq_true rfl⟩) tm_Gok hK hP hD hA hG hS (va_recv hK hP (ci := 4) (q0 := 0) rfl (tm_at (i := 0) (by omega) rfl)) rfl hl.1 rfl (Nat.le_of_ble_eq_true rfl) dX4_unseal_31 ⟨Nat.le_of_ble_eq_true rfl, Nat.le_of_ble_eq_true rfl⟩ hlk hEx (Nat.le_of_ble_eq_true rfl) (Nat.le_of_ble_eq_true rfl)
set_option maxHeartbeats 4000000 in
set_option maxRecDepth 100000 in
theorem m_unseal_n2 (hl9 : l.stackTraces = false) (u : tm_S) {j i : Nat} (hj : j < 4) (hi : i < 3) (hnl : u.2.1 11 0 = 0) (hh : ¬ u.2.1 0 j = 0) (ho : ¬ u.1 3 j = 0) (hd : ¬ u.1 6 i = u.1 3 j) : kc_T l dC dI gs ad cc yX4_unseal wsX4_unseal { frames := 8, cells := 1, slots := 6, locals := 125 } [.ref (ad 0), .int (nI j), .int (nI i)] u u "java/lang/UnsupportedOperationException" := by
  refine kq_ofT (cc := cX4_unseal) (maxL := 4) (ret := (some .long)) (R0 := RX4) (by decide) rfl rfl (Nat.le_of_ble_eq_true rfl) ?_
  intro p e s m below meth c A ls hx hb hr hlk hml hown hts hP hK hD hA hG hS hl hEx
  have hl : lv_has ls 4 [(0, .ref (ad 0)), (1, .int (nI j)), (2, .int (nI i))] := hl
  refine lv_iload_n hx hb dX4_unseal_0 rfl (lv_at hl 1 rfl) ?_
  refine lv_iconst (v := (nI 4)) hx hb dX4_unseal_1 (by decide) ?_
  refine kq_cS (st1 := []) ⟨hx, hb, hml, hown, hts⟩ (c_refuseUnlessBelow_ok u (by omega) (by omega)) (va_cwS 2 hts gX4_62_X4_refuseUnlessBelow rfl rfl rfl (by decide +kernel) ⟨Nat.le_of_ble_eq_true rfl, Nat.le_of_ble_eq_true rfl⟩) tm_Gok hK hP hD hA hG hS rfl hl.1 rfl rfl (Nat.le_of_ble_eq_true rfl) dX4_unseal_2 ⟨Nat.le_of_ble_eq_true rfl, Nat.le_of_ble_eq_true rfl⟩ (fun H locs hP hD hS => ?_)
  refine lv_iload_n hx hb dX4_unseal_5 rfl (lv_at hl 2 rfl) ?_
  refine lv_iconst (v := (nI 3)) hx hb dX4_unseal_6 (by decide) ?_
  refine kq_cS (st1 := []) ⟨hx, hb, hml, hown, hts⟩ (c_refuseUnlessBelow_ok u (by omega) (by omega)) (va_cwS 2 hts gX4_62_X4_refuseUnlessBelow rfl rfl rfl (by decide +kernel) ⟨Nat.le_of_ble_eq_true rfl, Nat.le_of_ble_eq_true rfl⟩) tm_Gok hK hP hD hA hG hS rfl hl.1 rfl rfl (Nat.le_of_ble_eq_true rfl) dX4_unseal_7 ⟨Nat.le_of_ble_eq_true rfl, Nat.le_of_ble_eq_true rfl⟩ (fun H locs hP hD hS => ?_)
  refine lv_aload_n hx hb dX4_unseal_10 rfl (lv_at hl 0 rfl) ?_
  refine kq_cV (st1 := []) ⟨hx, hb, hml, hown, hts⟩ (c_refuseWhenLost_ok u hnl) (cwV 0 hts gX4_66_X4_refuseWhenLost rfl rfl rfl (by decide +kernel) ⟨Nat.le_of_ble_eq_true rfl, Nat.le_of_ble_eq_true rfl⟩) tm_Gok hK hP hD hA hG hS (va_recv hK hP (ci := 4) (q0 := 0) rfl (tm_at (i := 0) (by omega) rfl)) rfl hl.1 rfl rfl (Nat.le_of_ble_eq_true rfl) dX4_unseal_11 ⟨Nat.le_of_ble_eq_true rfl, Nat.le_of_ble_eq_true rfl⟩ (fun H locs hP hD hS => ?_)
  refine lv_aload_n hx hb dX4_unseal_14 rfl (lv_at hl 0 rfl) ?_
  refine lv_iload_n hx hb dX4_unseal_15 rfl (lv_at hl 1 rfl) ?_
  refine kq_cV (st1 := [.ref (ad (j + 9))]) ⟨hx, hb, hml, hown, hts⟩ (c_heldKey_ok u (k := j) (by omega) hh) (cwV 1 hts gX4_81_X4_heldKey rfl rfl rfl (by decide +kernel) ⟨Nat.le_of_ble_eq_true rfl, Nat.le_of_ble_eq_true rfl⟩) tm_Gok hK hP hD hA hG hS (va_recv hK hP (ci := 4) (q0 := 0) rfl (tm_at (i := 0) (by omega) rfl)) rfl hl.1 rfl rfl (Nat.le_of_ble_eq_true rfl) dX4_unseal_16 ⟨Nat.le_of_ble_eq_true rfl, Nat.le_of_ble_eq_true rfl⟩ (fun H locs hP hD hS => ?_)
  refine lv_astore_n (lv' := [(3, .ref (ad (j + 9))), (0, .ref (ad 0)), (1, .int (nI j)), (2, .int (nI i))]) hx hb dX4_unseal_19 rfl hl (by decide) rfl (fun ls hl => ?_)
  refine lv_aload_n hx hb dX4_unseal_20 rfl (lv_at hl 1 rfl) ?_
  refine lv_aload_n hx hb dX4_unseal_21 rfl (lv_at hl 0 rfl) ?_
  refine tc_gK_policy hx hb hts inB_X2 hown hK hP (by omega) (hts _ mb_51) dX4_unseal_22 ?_
  refine lv_aload_n hx hb dX4_unseal_25 rfl (lv_at hl 1 rfl) ?_
  refine tc_gT_sessions hx hb hts inB_X4 hown hK hP (hts _ mb_149) dX4_unseal_26 ?_
  refine lv_iload_n hx hb dX4_unseal_29 rfl (lv_at hl 3 rfl) ?_
  refine tc_a_sessions hx hb hK hP (by omega) dX4_unseal_30 ?_
  exact kq_tV ⟨hx, hb, hml, hown, hts⟩ (c_allowBySession_n2 hl9 u (k := i) (by omega) (u.1 3 j) ho hd) (cwV 2 hts gX4_130_X4_allowBySession rfl rfl rfl (by decide +kernel) ⟨Nat.le_of_ble_eq_true rfl, Nat.le_of_ble_eq_true rfl⟩) tm_Gok hK hP hD hA hG hS (va_recv hK hP (ci := 4) (q0 := 0) rfl (tm_at (i := 0) (by omega) rfl)) rfl hl.1 rfl (Nat.le_of_ble_eq_true rfl) dX4_unseal_31 ⟨Nat.le_of_ble_eq_true rfl, Nat.le_of_ble_eq_true rfl⟩ hlk hEx (Nat.le_of_ble_eq_true rfl) (Nat.le_of_ble_eq_true rfl)
set_option maxHeartbeats 4000000 in
set_option maxRecDepth 100000 in
theorem m_unseal_ch (hl9 : l.stackTraces = false) (u : tm_S) {j i : Nat} (hj : j < 4) (hi : i < 3) (hnl : u.2.1 11 0 = 0) (hh : ¬ u.2.1 0 j = 0) (ho : ¬ u.1 3 j = 0) (hd : u.1 6 i = u.1 3 j) (hq : ¬ u.2.1 4 i = 0) (hc : ¬ u.2.1 5 i = u.2.1 9 0) : kc_T l dC dI gs ad cc yX4_unseal wsX4_unseal { frames := 8, cells := 1, slots := 6, locals := 125 } [.ref (ad 0), .int (nI j), .int (nI i)] u u "java/lang/IllegalStateException" := by
  refine kq_ofT (cc := cX4_unseal) (maxL := 4) (ret := (some .long)) (R0 := RX4) (by decide) rfl rfl (Nat.le_of_ble_eq_true rfl) ?_
  intro p e s m below meth c A ls hx hb hr hlk hml hown hts hP hK hD hA hG hS hl hEx
  have hl : lv_has ls 4 [(0, .ref (ad 0)), (1, .int (nI j)), (2, .int (nI i))] := hl
  refine lv_iload_n hx hb dX4_unseal_0 rfl (lv_at hl 1 rfl) ?_
  refine lv_iconst (v := (nI 4)) hx hb dX4_unseal_1 (by decide) ?_
  refine kq_cS (st1 := []) ⟨hx, hb, hml, hown, hts⟩ (c_refuseUnlessBelow_ok u (by omega) (by omega)) (va_cwS 2 hts gX4_62_X4_refuseUnlessBelow rfl rfl rfl (by decide +kernel) ⟨Nat.le_of_ble_eq_true rfl, Nat.le_of_ble_eq_true rfl⟩) tm_Gok hK hP hD hA hG hS rfl hl.1 rfl rfl (Nat.le_of_ble_eq_true rfl) dX4_unseal_2 ⟨Nat.le_of_ble_eq_true rfl, Nat.le_of_ble_eq_true rfl⟩ (fun H locs hP hD hS => ?_)
  refine lv_iload_n hx hb dX4_unseal_5 rfl (lv_at hl 2 rfl) ?_
  refine lv_iconst (v := (nI 3)) hx hb dX4_unseal_6 (by decide) ?_
  refine kq_cS (st1 := []) ⟨hx, hb, hml, hown, hts⟩ (c_refuseUnlessBelow_ok u (by omega) (by omega)) (va_cwS 2 hts gX4_62_X4_refuseUnlessBelow rfl rfl rfl (by decide +kernel) ⟨Nat.le_of_ble_eq_true rfl, Nat.le_of_ble_eq_true rfl⟩) tm_Gok hK hP hD hA hG hS rfl hl.1 rfl rfl (Nat.le_of_ble_eq_true rfl) dX4_unseal_7 ⟨Nat.le_of_ble_eq_true rfl, Nat.le_of_ble_eq_true rfl⟩ (fun H locs hP hD hS => ?_)
  refine lv_aload_n hx hb dX4_unseal_10 rfl (lv_at hl 0 rfl) ?_
  refine kq_cV (st1 := []) ⟨hx, hb, hml, hown, hts⟩ (c_refuseWhenLost_ok u hnl) (cwV 0 hts gX4_66_X4_refuseWhenLost rfl rfl rfl (by decide +kernel) ⟨Nat.le_of_ble_eq_true rfl, Nat.le_of_ble_eq_true rfl⟩) tm_Gok hK hP hD hA hG hS (va_recv hK hP (ci := 4) (q0 := 0) rfl (tm_at (i := 0) (by omega) rfl)) rfl hl.1 rfl rfl (Nat.le_of_ble_eq_true rfl) dX4_unseal_11 ⟨Nat.le_of_ble_eq_true rfl, Nat.le_of_ble_eq_true rfl⟩ (fun H locs hP hD hS => ?_)
  refine lv_aload_n hx hb dX4_unseal_14 rfl (lv_at hl 0 rfl) ?_
  refine lv_iload_n hx hb dX4_unseal_15 rfl (lv_at hl 1 rfl) ?_
  refine kq_cV (st1 := [.ref (ad (j + 9))]) ⟨hx, hb, hml, hown, hts⟩ (c_heldKey_ok u (k := j) (by omega) hh) (cwV 1 hts gX4_81_X4_heldKey rfl rfl rfl (by decide +kernel) ⟨Nat.le_of_ble_eq_true rfl, Nat.le_of_ble_eq_true rfl⟩) tm_Gok hK hP hD hA hG hS (va_recv hK hP (ci := 4) (q0 := 0) rfl (tm_at (i := 0) (by omega) rfl)) rfl hl.1 rfl rfl (Nat.le_of_ble_eq_true rfl) dX4_unseal_16 ⟨Nat.le_of_ble_eq_true rfl, Nat.le_of_ble_eq_true rfl⟩ (fun H locs hP hD hS => ?_)
  refine lv_astore_n (lv' := [(3, .ref (ad (j + 9))), (0, .ref (ad 0)), (1, .int (nI j)), (2, .int (nI i))]) hx hb dX4_unseal_19 rfl hl (by decide) rfl (fun ls hl => ?_)
  refine lv_aload_n hx hb dX4_unseal_20 rfl (lv_at hl 1 rfl) ?_
  refine lv_aload_n hx hb dX4_unseal_21 rfl (lv_at hl 0 rfl) ?_
  refine tc_gK_policy hx hb hts inB_X2 hown hK hP (by omega) (hts _ mb_51) dX4_unseal_22 ?_
  refine lv_aload_n hx hb dX4_unseal_25 rfl (lv_at hl 1 rfl) ?_
  refine tc_gT_sessions hx hb hts inB_X4 hown hK hP (hts _ mb_149) dX4_unseal_26 ?_
  refine lv_iload_n hx hb dX4_unseal_29 rfl (lv_at hl 3 rfl) ?_
  refine tc_a_sessions hx hb hK hP (by omega) dX4_unseal_30 ?_
  exact kq_tV ⟨hx, hb, hml, hown, hts⟩ (c_allowBySession_ch hl9 u (k := i) (by omega) (u.1 3 j) ho hd hq hc) (cwV 2 hts gX4_130_X4_allowBySession rfl rfl rfl (by decide +kernel) ⟨Nat.le_of_ble_eq_true rfl, Nat.le_of_ble_eq_true rfl⟩) tm_Gok hK hP hD hA hG hS (va_recv hK hP (ci := 4) (q0 := 0) rfl (tm_at (i := 0) (by omega) rfl)) rfl hl.1 rfl (Nat.le_of_ble_eq_true rfl) dX4_unseal_31 ⟨Nat.le_of_ble_eq_true rfl, Nat.le_of_ble_eq_true rfl⟩ hlk hEx (Nat.le_of_ble_eq_true rfl) (Nat.le_of_ble_eq_true rfl)
set_option maxHeartbeats 4000000 in
set_option maxRecDepth 100000 in
theorem m_unseal_ok (u : tm_S) {j i : Nat} (hj : j < 4) (hi : i < 3) (hnl : u.2.1 11 0 = 0) (hh : ¬ u.2.1 0 j = 0) (ho : ¬ u.1 3 j = 0) (hd : u.1 6 i = u.1 3 j) (hq : ¬ u.2.1 4 i = 0 → u.2.1 5 i = u.2.1 9 0) : kc_M l dC dI gs ad cc yX4_unseal wsX4_unseal { frames := 8, cells := 0, slots := 0, locals := 125 } [.ref (ad 0), .int (nI j), .int (nI i)] u (tm_I (tm_I (tm_L u 6 i 0) 4 i (nI 0)) 5 i (nI 0)) (some (.long (u.1 4 j))) := by
  refine kq_ofW (cc := cX4_unseal) (maxL := 4) (ret := (some .long)) (R0 := RX4) (by decide) rfl rfl (Nat.le_of_ble_eq_true rfl) ?_
  intro p e s m below meth c A ls hx hb hr hlk hml hown hts hP hK hD hA hG hS hl
  have hl : lv_has ls 4 [(0, .ref (ad 0)), (1, .int (nI j)), (2, .int (nI i))] := hl
  refine lv_iload_n hx hb dX4_unseal_0 rfl (lv_at hl 1 rfl) ?_
  refine lv_iconst (v := (nI 4)) hx hb dX4_unseal_1 (by decide) ?_
  refine kq_cS (st1 := []) ⟨hx, hb, hml, hown, hts⟩ (c_refuseUnlessBelow_ok u (by omega) (by omega)) (va_cwS 2 hts gX4_62_X4_refuseUnlessBelow rfl rfl rfl (by decide +kernel) ⟨Nat.le_of_ble_eq_true rfl, Nat.le_of_ble_eq_true rfl⟩) tm_Gok hK hP hD hA hG hS rfl hl.1 rfl rfl (Nat.le_of_ble_eq_true rfl) dX4_unseal_2 ⟨Nat.le_of_ble_eq_true rfl, Nat.le_of_ble_eq_true rfl⟩ (fun H locs hP hD hS => ?_)
  refine lv_iload_n hx hb dX4_unseal_5 rfl (lv_at hl 2 rfl) ?_
  refine lv_iconst (v := (nI 3)) hx hb dX4_unseal_6 (by decide) ?_
  refine kq_cS (st1 := []) ⟨hx, hb, hml, hown, hts⟩ (c_refuseUnlessBelow_ok u (by omega) (by omega)) (va_cwS 2 hts gX4_62_X4_refuseUnlessBelow rfl rfl rfl (by decide +kernel) ⟨Nat.le_of_ble_eq_true rfl, Nat.le_of_ble_eq_true rfl⟩) tm_Gok hK hP hD hA hG hS rfl hl.1 rfl rfl (Nat.le_of_ble_eq_true rfl) dX4_unseal_7 ⟨Nat.le_of_ble_eq_true rfl, Nat.le_of_ble_eq_true rfl⟩ (fun H locs hP hD hS => ?_)
  refine lv_aload_n hx hb dX4_unseal_10 rfl (lv_at hl 0 rfl) ?_
  refine kq_cV (st1 := []) ⟨hx, hb, hml, hown, hts⟩ (c_refuseWhenLost_ok u hnl) (cwV 0 hts gX4_66_X4_refuseWhenLost rfl rfl rfl (by decide +kernel) ⟨Nat.le_of_ble_eq_true rfl, Nat.le_of_ble_eq_true rfl⟩) tm_Gok hK hP hD hA hG hS (va_recv hK hP (ci := 4) (q0 := 0) rfl (tm_at (i := 0) (by omega) rfl)) rfl hl.1 rfl rfl (Nat.le_of_ble_eq_true rfl) dX4_unseal_11 ⟨Nat.le_of_ble_eq_true rfl, Nat.le_of_ble_eq_true rfl⟩ (fun H locs hP hD hS => ?_)
  refine lv_aload_n hx hb dX4_unseal_14 rfl (lv_at hl 0 rfl) ?_
  refine lv_iload_n hx hb dX4_unseal_15 rfl (lv_at hl 1 rfl) ?_
  refine kq_cV (st1 := [.ref (ad (j + 9))]) ⟨hx, hb, hml, hown, hts⟩ (c_heldKey_ok u (k := j) (by omega) hh) (cwV 1 hts gX4_81_X4_heldKey rfl rfl rfl (by decide +kernel) ⟨Nat.le_of_ble_eq_true rfl, Nat.le_of_ble_eq_true rfl⟩) tm_Gok hK hP hD hA hG hS (va_recv hK hP (ci := 4) (q0 := 0) rfl (tm_at (i := 0) (by omega) rfl)) rfl hl.1 rfl rfl (Nat.le_of_ble_eq_true rfl) dX4_unseal_16 ⟨Nat.le_of_ble_eq_true rfl, Nat.le_of_ble_eq_true rfl⟩ (fun H locs hP hD hS => ?_)
  refine lv_astore_n (lv' := [(3, .ref (ad (j + 9))), (0, .ref (ad 0)), (1, .int (nI j)), (2, .int (nI i))]) hx hb dX4_unseal_19 rfl hl (by decide) rfl (fun ls hl => ?_)
  refine lv_aload_n hx hb dX4_unseal_20 rfl (lv_at hl 1 rfl) ?_
  refine lv_aload_n hx hb dX4_unseal_21 rfl (lv_at hl 0 rfl) ?_
  refine tc_gK_policy hx hb hts inB_X2 hown hK hP (by omega) (hts _ mb_51) dX4_unseal_22 ?_
  refine lv_aload_n hx hb dX4_unseal_25 rfl (lv_at hl 1 rfl) ?_
  refine tc_gT_sessions hx hb hts inB_X4 hown hK hP (hts _ mb_149) dX4_unseal_26 ?_
  refine lv_iload_n hx hb dX4_unseal_29 rfl (lv_at hl 3 rfl) ?_
  refine tc_a_sessions hx hb hK hP (by omega) dX4_unseal_30 ?_
  refine kq_cV (st1 := []) ⟨hx, hb, hml, hown, hts⟩ (c_allowBySession_ok u (k := i) (by omega) (u.1 3 j) ho hd hq) (cwV 2 hts gX4_130_X4_allowBySession rfl rfl rfl (by decide +kernel) ⟨Nat.le_of_ble_eq_true rfl, Nat.le_of_ble_eq_true rfl⟩) tm_Gok hK hP hD hA hG hS (va_recv hK hP (ci := 4) (q0 := 0) rfl (tm_at (i := 0) (by omega) rfl)) rfl hl.1 rfl rfl (Nat.le_of_ble_eq_true rfl) dX4_unseal_31 ⟨Nat.le_of_ble_eq_true rfl, Nat.le_of_ble_eq_true rfl⟩ (fun H locs hP hD hS => ?_)
  refine lv_aload_n hx hb dX4_unseal_34 rfl (lv_at hl 1 rfl) ?_
  refine tc_gT_sessions hx hb hts inB_X4 hown hK hP (hts _ mb_149) dX4_unseal_35 ?_
  refine lv_iload_n hx hb dX4_unseal_38 rfl (lv_at hl 3 rfl) ?_
  refine tc_a_sessions hx hb hK hP (by omega) dX4_unseal_39 ?_
  refine kq_cV (st1 := []) ⟨hx, hb, hml, hown, hts⟩ (c_beginAnew u (k := i) (by omega)) (cwV 0 hts gX4_134_X3_beginAnew rfl rfl rfl (by decide +kernel) ⟨Nat.le_of_ble_eq_true rfl, Nat.le_of_ble_eq_true rfl⟩) tm_Gok hK hP hD hA hG hS (va_recv hK hP (ci := 3) (q0 := i + 29) rfl (tm_at (i := i + 29) (by omega) (tc_Y (by omega)))) rfl hl.1 rfl rfl (Nat.le_of_ble_eq_true rfl) dX4_unseal_40 ⟨Nat.le_of_ble_eq_true rfl, Nat.le_of_ble_eq_true rfl⟩ (fun H locs hP hD hS => ?_)
  refine lv_aload_n hx hb dX4_unseal_43 rfl (lv_at hl 0 rfl) ?_
  refine tc_gK_secret hx hb hts inB_X2 hown hK hP (by omega) (hts _ mb_53) dX4_unseal_44 ?_
  refine kq_tl (y := (u.1 4 j)) (by simp [tm_L, tm_I, tm_D]) ?_
  exact kq_lret hx hb hr hlk hP hD hS dX4_unseal_47
set_option maxHeartbeats 4000000 in
set_option maxRecDepth 100000 in
theorem m_session_b1 (hl9 : l.stackTraces = false) (u : tm_S) (x : Int32) (h : x < 0 ∨ nI 3 ≤ x)  : kc_T l dC dI gs ad cc yX4_session wsX4_session { frames := 8, cells := 1, slots := 6, locals := 125 } [.ref (ad 0), .int x] u u "java/lang/IllegalArgumentException" := by
  refine kq_ofT (cc := cX4_session) (maxL := 2) (ret := none) (R0 := RX4) (by decide) rfl rfl (Nat.le_of_ble_eq_true rfl) ?_
  intro p e s m below meth c A ls hx hb hr hlk hml hown hts hP hK hD hA hG hS hl hEx
  have hl : lv_has ls 2 [(0, .ref (ad 0)), (1, .int x)] := hl
  refine lv_iload_n hx hb dX4_session_0 rfl (lv_at hl 1 rfl) ?_
  refine lv_iconst (v := (nI 3)) hx hb dX4_session_1 (by decide) ?_
  exact kq_tS ⟨hx, hb, hml, hown, hts⟩ (c_refuseUnlessBelow_no hl9 u h (by omega) (by omega)) (va_cwS 2 hts gX4_62_X4_refuseUnlessBelow rfl rfl rfl (by decide +kernel) ⟨Nat.le_of_ble_eq_true rfl, Nat.le_of_ble_eq_true rfl⟩) tm_Gok hK hP hD hA hG hS rfl hl.1 rfl (Nat.le_of_ble_eq_true rfl) dX4_session_2 ⟨Nat.le_of_ble_eq_true rfl, Nat.le_of_ble_eq_true rfl⟩ hlk hEx (Nat.le_of_ble_eq_true rfl) (Nat.le_of_ble_eq_true rfl)
set_option maxHeartbeats 4000000 in
set_option maxRecDepth 100000 in
theorem m_session_lo (hl9 : l.stackTraces = false) (u : tm_S) {j : Nat} (hj : j < 3) (hlo : ¬ u.2.1 11 0 = 0)  : kc_T l dC dI gs ad cc yX4_session wsX4_session { frames := 8, cells := 1, slots := 6, locals := 125 } [.ref (ad 0), .int (nI j)] u u "java/lang/IllegalStateException" := by
  refine kq_ofT (cc := cX4_session) (maxL := 2) (ret := none) (R0 := RX4) (by decide) rfl rfl (Nat.le_of_ble_eq_true rfl) ?_
  intro p e s m below meth c A ls hx hb hr hlk hml hown hts hP hK hD hA hG hS hl hEx
  have hl : lv_has ls 2 [(0, .ref (ad 0)), (1, .int (nI j))] := hl
  refine lv_iload_n hx hb dX4_session_0 rfl (lv_at hl 1 rfl) ?_
  refine lv_iconst (v := (nI 3)) hx hb dX4_session_1 (by decide) ?_
  refine kq_cS (st1 := []) ⟨hx, hb, hml, hown, hts⟩ (c_refuseUnlessBelow_ok u (by omega) (by omega)) (va_cwS 2 hts gX4_62_X4_refuseUnlessBelow rfl rfl rfl (by decide +kernel) ⟨Nat.le_of_ble_eq_true rfl, Nat.le_of_ble_eq_true rfl⟩) tm_Gok hK hP hD hA hG hS rfl hl.1 rfl rfl (Nat.le_of_ble_eq_true rfl) dX4_session_2 ⟨Nat.le_of_ble_eq_true rfl, Nat.le_of_ble_eq_true rfl⟩ (fun H locs hP hD hS => ?_)
  refine lv_aload_n hx hb dX4_session_5 rfl (lv_at hl 0 rfl) ?_
  exact kq_tV ⟨hx, hb, hml, hown, hts⟩ (c_refuseWhenLost_no hl9 u hlo) (cwV 0 hts gX4_66_X4_refuseWhenLost rfl rfl rfl (by decide +kernel) ⟨Nat.le_of_ble_eq_true rfl, Nat.le_of_ble_eq_true rfl⟩) tm_Gok hK hP hD hA hG hS (va_recv hK hP (ci := 4) (q0 := 0) rfl (tm_at (i := 0) (by omega) rfl)) rfl hl.1 rfl (Nat.le_of_ble_eq_true rfl) dX4_session_6 ⟨Nat.le_of_ble_eq_true rfl, Nat.le_of_ble_eq_true rfl⟩ hlk hEx (Nat.le_of_ble_eq_true rfl) (Nat.le_of_ble_eq_true rfl)
set_option maxHeartbeats 4000000 in
set_option maxRecDepth 100000 in
theorem m_session_ok (u : tm_S) {j : Nat} (hj : j < 3) (hnl : u.2.1 11 0 = 0)  : kc_M l dC dI gs ad cc yX4_session wsX4_session { frames := 8, cells := 0, slots := 0, locals := 125 } [.ref (ad 0), .int (nI j)] u (tm_I (tm_I (tm_L u 6 j 0) 4 j (nI 0)) 5 j (nI 0)) none := by
  refine kq_ofW (cc := cX4_session) (maxL := 2) (ret := none) (R0 := RX4) (by decide) rfl rfl (Nat.le_of_ble_eq_true rfl) ?_
  intro p e s m below meth c A ls hx hb hr hlk hml hown hts hP hK hD hA hG hS hl
  have hl : lv_has ls 2 [(0, .ref (ad 0)), (1, .int (nI j))] := hl
  refine lv_iload_n hx hb dX4_session_0 rfl (lv_at hl 1 rfl) ?_
  refine lv_iconst (v := (nI 3)) hx hb dX4_session_1 (by decide) ?_
  refine kq_cS (st1 := []) ⟨hx, hb, hml, hown, hts⟩ (c_refuseUnlessBelow_ok u (by omega) (by omega)) (va_cwS 2 hts gX4_62_X4_refuseUnlessBelow rfl rfl rfl (by decide +kernel) ⟨Nat.le_of_ble_eq_true rfl, Nat.le_of_ble_eq_true rfl⟩) tm_Gok hK hP hD hA hG hS rfl hl.1 rfl rfl (Nat.le_of_ble_eq_true rfl) dX4_session_2 ⟨Nat.le_of_ble_eq_true rfl, Nat.le_of_ble_eq_true rfl⟩ (fun H locs hP hD hS => ?_)
  refine lv_aload_n hx hb dX4_session_5 rfl (lv_at hl 0 rfl) ?_
  refine kq_cV (st1 := []) ⟨hx, hb, hml, hown, hts⟩ (c_refuseWhenLost_ok u hnl) (cwV 0 hts gX4_66_X4_refuseWhenLost rfl rfl rfl (by decide +kernel) ⟨Nat.le_of_ble_eq_true rfl, Nat.le_of_ble_eq_true rfl⟩) tm_Gok hK hP hD hA hG hS (va_recv hK hP (ci := 4) (q0 := 0) rfl (tm_at (i := 0) (by omega) rfl)) rfl hl.1 rfl rfl (Nat.le_of_ble_eq_true rfl) dX4_session_6 ⟨Nat.le_of_ble_eq_true rfl, Nat.le_of_ble_eq_true rfl⟩ (fun H locs hP hD hS => ?_)
  refine lv_aload_n hx hb dX4_session_9 rfl (lv_at hl 0 rfl) ?_
  refine tc_gT_sessions hx hb hts inB_X4 hown hK hP (hts _ mb_149) dX4_session_10 ?_
  refine lv_iload_n hx hb dX4_session_13 rfl (lv_at hl 1 rfl) ?_
  refine tc_a_sessions hx hb hK hP (by omega) dX4_session_14 ?_
  refine kq_cV (st1 := []) ⟨hx, hb, hml, hown, hts⟩ (c_beginAnew u (k := j) (by omega)) (cwV 0 hts gX4_134_X3_beginAnew rfl rfl rfl (by decide +kernel) ⟨Nat.le_of_ble_eq_true rfl, Nat.le_of_ble_eq_true rfl⟩) tm_Gok hK hP hD hA hG hS (va_recv hK hP (ci := 3) (q0 := j + 29) rfl (tm_at (i := j + 29) (by omega) (tc_Y (by omega)))) rfl hl.1 rfl rfl (Nat.le_of_ble_eq_true rfl) dX4_session_15 ⟨Nat.le_of_ble_eq_true rfl, Nat.le_of_ble_eq_true rfl⟩ (fun H locs hP hD hS => ?_)
  exact kq_vret hx hb hr hlk hP hD hS dX4_session_18
set_option maxHeartbeats 4000000 in
set_option maxRecDepth 100000 in
theorem m_either_b1 (hl9 : l.stackTraces = false) (u : tm_S) (x : Int32) (h : x < 0 ∨ nI 3 ≤ x) (a b : Int64)  : kc_T l dC dI gs ad cc yX4_either wsX4_either { frames := 8, cells := 1, slots := 6, locals := 125 } [.ref (ad 0), .int x, .long a, .long b] u u "java/lang/IllegalArgumentException" := by
  refine kq_ofT (cc := cX4_either) (maxL := 7) (ret := (some .long)) (R0 := RX4) (by decide) rfl rfl (Nat.le_of_ble_eq_true rfl) ?_
  intro p e s m below meth c A ls hx hb hr hlk hml hown hts hP hK hD hA hG hS hl hEx
  have hl : lv_has ls 7 [(0, .ref (ad 0)), (1, .int x), (2, .long a), (4, .long b)] := hl
  refine lv_iload_n hx hb dX4_either_0 rfl (lv_at hl 1 rfl) ?_
  refine lv_iconst (v := (nI 3)) hx hb dX4_either_1 (by decide) ?_
  exact kq_tS ⟨hx, hb, hml, hown, hts⟩ (c_refuseUnlessBelow_no hl9 u h (by omega) (by omega)) (va_cwS 2 hts gX4_62_X4_refuseUnlessBelow rfl rfl rfl (by decide +kernel) ⟨Nat.le_of_ble_eq_true rfl, Nat.le_of_ble_eq_true rfl⟩) tm_Gok hK hP hD hA hG hS rfl hl.1 rfl (Nat.le_of_ble_eq_true rfl) dX4_either_2 ⟨Nat.le_of_ble_eq_true rfl, Nat.le_of_ble_eq_true rfl⟩ hlk hEx (Nat.le_of_ble_eq_true rfl) (Nat.le_of_ble_eq_true rfl)
set_option maxHeartbeats 4000000 in
set_option maxRecDepth 100000 in
theorem m_either_lo (hl9 : l.stackTraces = false) (u : tm_S) {j : Nat} (hj : j < 3) (a b : Int64) (hlo : ¬ u.2.1 11 0 = 0)  : kc_T l dC dI gs ad cc yX4_either wsX4_either { frames := 8, cells := 1, slots := 6, locals := 125 } [.ref (ad 0), .int (nI j), .long a, .long b] u u "java/lang/IllegalStateException" := by
  refine kq_ofT (cc := cX4_either) (maxL := 7) (ret := (some .long)) (R0 := RX4) (by decide) rfl rfl (Nat.le_of_ble_eq_true rfl) ?_
  intro p e s m below meth c A ls hx hb hr hlk hml hown hts hP hK hD hA hG hS hl hEx
  have hl : lv_has ls 7 [(0, .ref (ad 0)), (1, .int (nI j)), (2, .long a), (4, .long b)] := hl
  refine lv_iload_n hx hb dX4_either_0 rfl (lv_at hl 1 rfl) ?_
  refine lv_iconst (v := (nI 3)) hx hb dX4_either_1 (by decide) ?_
  refine kq_cS (st1 := []) ⟨hx, hb, hml, hown, hts⟩ (c_refuseUnlessBelow_ok u (by omega) (by omega)) (va_cwS 2 hts gX4_62_X4_refuseUnlessBelow rfl rfl rfl (by decide +kernel) ⟨Nat.le_of_ble_eq_true rfl, Nat.le_of_ble_eq_true rfl⟩) tm_Gok hK hP hD hA hG hS rfl hl.1 rfl rfl (Nat.le_of_ble_eq_true rfl) dX4_either_2 ⟨Nat.le_of_ble_eq_true rfl, Nat.le_of_ble_eq_true rfl⟩ (fun H locs hP hD hS => ?_)
  refine lv_aload_n hx hb dX4_either_5 rfl (lv_at hl 0 rfl) ?_
  exact kq_tV ⟨hx, hb, hml, hown, hts⟩ (c_refuseWhenLost_no hl9 u hlo) (cwV 0 hts gX4_66_X4_refuseWhenLost rfl rfl rfl (by decide +kernel) ⟨Nat.le_of_ble_eq_true rfl, Nat.le_of_ble_eq_true rfl⟩) tm_Gok hK hP hD hA hG hS (va_recv hK hP (ci := 4) (q0 := 0) rfl (tm_at (i := 0) (by omega) rfl)) rfl hl.1 rfl (Nat.le_of_ble_eq_true rfl) dX4_either_6 ⟨Nat.le_of_ble_eq_true rfl, Nat.le_of_ble_eq_true rfl⟩ hlk hEx (Nat.le_of_ble_eq_true rfl) (Nat.le_of_ble_eq_true rfl)
set_option maxHeartbeats 4000000 in
set_option maxRecDepth 100000 in
theorem m_either_no (hl9 : l.stackTraces = false) (u : tm_S) {j : Nat} (hj : j < 3) (a b : Int64) (hnl : u.2.1 11 0 = 0) (h1 : ¬ u.1 6 j = a) (h2 : ¬ u.1 6 j = b) : kc_T l dC dI gs ad cc yX4_either wsX4_either { frames := 8, cells := 1, slots := 6, locals := 125 } [.ref (ad 0), .int (nI j), .long a, .long b] u u "java/lang/UnsupportedOperationException" := by
  refine kq_ofT (cc := cX4_either) (maxL := 7) (ret := (some .long)) (R0 := RX4) (by decide) rfl rfl (Nat.le_of_ble_eq_true rfl) ?_
  intro p e s m below meth c A ls hx hb hr hlk hml hown hts hP hK hD hA hG hS hl hEx
  have hl : lv_has ls 7 [(0, .ref (ad 0)), (1, .int (nI j)), (2, .long a), (4, .long b)] := hl
  refine lv_iload_n hx hb dX4_either_0 rfl (lv_at hl 1 rfl) ?_
  refine lv_iconst (v := (nI 3)) hx hb dX4_either_1 (by decide) ?_
  refine kq_cS (st1 := []) ⟨hx, hb, hml, hown, hts⟩ (c_refuseUnlessBelow_ok u (by omega) (by omega)) (va_cwS 2 hts gX4_62_X4_refuseUnlessBelow rfl rfl rfl (by decide +kernel) ⟨Nat.le_of_ble_eq_true rfl, Nat.le_of_ble_eq_true rfl⟩) tm_Gok hK hP hD hA hG hS rfl hl.1 rfl rfl (Nat.le_of_ble_eq_true rfl) dX4_either_2 ⟨Nat.le_of_ble_eq_true rfl, Nat.le_of_ble_eq_true rfl⟩ (fun H locs hP hD hS => ?_)
  refine lv_aload_n hx hb dX4_either_5 rfl (lv_at hl 0 rfl) ?_
  refine kq_cV (st1 := []) ⟨hx, hb, hml, hown, hts⟩ (c_refuseWhenLost_ok u hnl) (cwV 0 hts gX4_66_X4_refuseWhenLost rfl rfl rfl (by decide +kernel) ⟨Nat.le_of_ble_eq_true rfl, Nat.le_of_ble_eq_true rfl⟩) tm_Gok hK hP hD hA hG hS (va_recv hK hP (ci := 4) (q0 := 0) rfl (tm_at (i := 0) (by omega) rfl)) rfl hl.1 rfl rfl (Nat.le_of_ble_eq_true rfl) dX4_either_6 ⟨Nat.le_of_ble_eq_true rfl, Nat.le_of_ble_eq_true rfl⟩ (fun H locs hP hD hS => ?_)
  refine lv_aload_n hx hb dX4_either_9 rfl (lv_at hl 0 rfl) ?_
  refine tc_gT_sessions hx hb hts inB_X4 hown hK hP (hts _ mb_149) dX4_either_10 ?_
  refine lv_iload_n hx hb dX4_either_13 rfl (lv_at hl 1 rfl) ?_
  refine tc_a_sessions hx hb hK hP (by omega) dX4_either_14 ?_
  refine lv_astore (lv' := [(6, .ref (ad (j + 29))), (0, .ref (ad 0)), (1, .int (nI j)), (2, .long a), (4, .long b)]) hx hb dX4_either_15 hl (by decide) rfl (fun ls hl => ?_)
  refine lv_aload hx hb dX4_either_17 (lv_at hl 0 rfl) ?_
  refine tc_gY_digest hx hb hts inB_X3 hown hK hP (by omega) (hts _ mb_90) dX4_either_19 ?_
  refine lv_lload_n hx hb dX4_either_22 rfl (lv_at hl 3 rfl) ?_
  refine W.lcmp hx hb dX4_either_23 ?_
  refine lv_if_eq (tgt := 48) hx hb dX4_either_24 (by decide) (fun c => absurd c (fun q => h1 (tm_cmp0.mp q))) (fun _ => ?_)
  refine lv_aload hx hb dX4_either_27 (lv_at hl 0 rfl) ?_
  refine tc_gY_digest hx hb hts inB_X3 hown hK hP (by omega) (hts _ mb_90) dX4_either_29 ?_
  refine lv_lload hx hb dX4_either_32 (lv_at hl 4 rfl) ?_
  refine W.lcmp hx hb dX4_either_34 ?_
  refine lv_if_eq (tgt := 48) hx hb dX4_either_35 (by decide) (fun c => absurd c (fun q => h2 (tm_cmp0.mp q))) (fun _ => ?_)
  exact tw_156 (w := false) (is := 154) hts hl9 hx hb hown (tm_Gs hG 154 "the digest is neither of the two" (by decide)) (hts _ mb_374) (hts _ mb_13) hG hS (by rw [hml]; exact hl.1) dX4_either_38 dX4_either_41 dX4_either_42 dX4_either_44 dX4_either_47 hEx (Nat.le_of_ble_eq_true rfl) (Nat.le_of_ble_eq_true rfl) (Nat.le_of_ble_eq_true rfl) (Nat.le_of_ble_eq_true rfl) hlk hP hD (Nat.le_of_ble_eq_true rfl) (Nat.le_of_ble_eq_true rfl)
set_option maxHeartbeats 4000000 in
set_option maxRecDepth 100000 in
theorem m_either_a (u : tm_S) {j : Nat} (hj : j < 3) (a b : Int64) (hnl : u.2.1 11 0 = 0) (h1 : u.1 6 j = a) : kc_M l dC dI gs ad cc yX4_either wsX4_either { frames := 8, cells := 0, slots := 0, locals := 125 } [.ref (ad 0), .int (nI j), .long a, .long b] u (tm_L u 6 j (tm_h 12 (tm_h a b))) (some (.long (tm_h 12 (tm_h a b)))) := by
  refine kq_ofW (cc := cX4_either) (maxL := 7) (ret := (some .long)) (R0 := RX4) (by decide) rfl rfl (Nat.le_of_ble_eq_true rfl) ?_
  intro p e s m below meth c A ls hx hb hr hlk hml hown hts hP hK hD hA hG hS hl
  have hl : lv_has ls 7 [(0, .ref (ad 0)), (1, .int (nI j)), (2, .long a), (4, .long b)] := hl
  refine lv_iload_n hx hb dX4_either_0 rfl (lv_at hl 1 rfl) ?_
  refine lv_iconst (v := (nI 3)) hx hb dX4_either_1 (by decide) ?_
  refine kq_cS (st1 := []) ⟨hx, hb, hml, hown, hts⟩ (c_refuseUnlessBelow_ok u (by omega) (by omega)) (va_cwS 2 hts gX4_62_X4_refuseUnlessBelow rfl rfl rfl (by decide +kernel) ⟨Nat.le_of_ble_eq_true rfl, Nat.le_of_ble_eq_true rfl⟩) tm_Gok hK hP hD hA hG hS rfl hl.1 rfl rfl (Nat.le_of_ble_eq_true rfl) dX4_either_2 ⟨Nat.le_of_ble_eq_true rfl, Nat.le_of_ble_eq_true rfl⟩ (fun H locs hP hD hS => ?_)
  refine lv_aload_n hx hb dX4_either_5 rfl (lv_at hl 0 rfl) ?_
  refine kq_cV (st1 := []) ⟨hx, hb, hml, hown, hts⟩ (c_refuseWhenLost_ok u hnl) (cwV 0 hts gX4_66_X4_refuseWhenLost rfl rfl rfl (by decide +kernel) ⟨Nat.le_of_ble_eq_true rfl, Nat.le_of_ble_eq_true rfl⟩) tm_Gok hK hP hD hA hG hS (va_recv hK hP (ci := 4) (q0 := 0) rfl (tm_at (i := 0) (by omega) rfl)) rfl hl.1 rfl rfl (Nat.le_of_ble_eq_true rfl) dX4_either_6 ⟨Nat.le_of_ble_eq_true rfl, Nat.le_of_ble_eq_true rfl⟩ (fun H locs hP hD hS => ?_)
  refine lv_aload_n hx hb dX4_either_9 rfl (lv_at hl 0 rfl) ?_
  refine tc_gT_sessions hx hb hts inB_X4 hown hK hP (hts _ mb_149) dX4_either_10 ?_
  refine lv_iload_n hx hb dX4_either_13 rfl (lv_at hl 1 rfl) ?_
  refine tc_a_sessions hx hb hK hP (by omega) dX4_either_14 ?_
  refine lv_astore (lv' := [(6, .ref (ad (j + 29))), (0, .ref (ad 0)), (1, .int (nI j)), (2, .long a), (4, .long b)]) hx hb dX4_either_15 hl (by decide) rfl (fun ls hl => ?_)
  refine lv_aload hx hb dX4_either_17 (lv_at hl 0 rfl) ?_
  refine tc_gY_digest hx hb hts inB_X3 hown hK hP (by omega) (hts _ mb_90) dX4_either_19 ?_
  refine lv_lload_n hx hb dX4_either_22 rfl (lv_at hl 3 rfl) ?_
  refine W.lcmp hx hb dX4_either_23 ?_
  refine lv_if_eq (tgt := 48) hx hb dX4_either_24 (by decide) (fun _ => ?_) (fun c => absurd (tm_cmp0.mpr h1) c)
  refine lv_aload hx hb dX4_either_48 (lv_at hl 0 rfl) ?_
  refine lv_ldc2 hx hb hown (hts _ mb_509) dX4_either_50 ?_
  refine lv_lload_n hx hb dX4_either_53 rfl (lv_at hl 3 rfl) ?_
  refine lv_lload hx hb dX4_either_54 (lv_at hl 4 rfl) ?_
  refine kq_cS (st1 := [.long (tm_h a b), .long 12, .ref (ad (j + 29))]) ⟨hx, hb, hml, hown, hts⟩ (c_hash u a b) (va_cwS 2 hts gX4_42_X4_hash rfl rfl rfl (by decide +kernel) ⟨Nat.le_of_ble_eq_true rfl, Nat.le_of_ble_eq_true rfl⟩) tm_Gok hK hP hD hA hG hS rfl hl.1 rfl rfl (Nat.le_of_ble_eq_true rfl) dX4_either_56 ⟨Nat.le_of_ble_eq_true rfl, Nat.le_of_ble_eq_true rfl⟩ (fun H locs hP hD hS => ?_)
  refine kq_cS (st1 := [.long (tm_h 12 (tm_h a b)), .ref (ad (j + 29))]) ⟨hx, hb, hml, hown, hts⟩ (c_hash u 12 (tm_h a b)) (va_cwS 2 hts gX4_42_X4_hash rfl rfl rfl (by decide +kernel) ⟨Nat.le_of_ble_eq_true rfl, Nat.le_of_ble_eq_true rfl⟩) tm_Gok hK hP hD hA hG hS rfl hl.1 rfl rfl (Nat.le_of_ble_eq_true rfl) dX4_either_59 ⟨Nat.le_of_ble_eq_true rfl, Nat.le_of_ble_eq_true rfl⟩ (fun H locs hP hD hS => ?_)
  refine tc_pY_digest hx hb hts inB_X3 hown hK hP hD hS (by omega) (hts _ mb_90) dX4_either_62 (fun H locs hP hD hS => ?_)
  refine lv_aload hx hb dX4_either_65 (lv_at hl 0 rfl) ?_
  refine tc_gY_digest hx hb hts inB_X3 hown hK hP (by omega) (hts _ mb_90) dX4_either_67 ?_
  refine kq_tl (y := (tm_h 12 (tm_h a b))) (by simp [tm_L, tm_I, tm_D]) ?_
  exact kq_lret hx hb hr hlk hP hD hS dX4_either_70
set_option maxHeartbeats 4000000 in
set_option maxRecDepth 100000 in
theorem m_either_b (u : tm_S) {j : Nat} (hj : j < 3) (a b : Int64) (hnl : u.2.1 11 0 = 0) (h1 : ¬ u.1 6 j = a) (h2 : u.1 6 j = b) : kc_M l dC dI gs ad cc yX4_either wsX4_either { frames := 8, cells := 0, slots := 0, locals := 125 } [.ref (ad 0), .int (nI j), .long a, .long b] u (tm_L u 6 j (tm_h 12 (tm_h a b))) (some (.long (tm_h 12 (tm_h a b)))) := by
  refine kq_ofW (cc := cX4_either) (maxL := 7) (ret := (some .long)) (R0 := RX4) (by decide) rfl rfl (Nat.le_of_ble_eq_true rfl) ?_
  intro p e s m below meth c A ls hx hb hr hlk hml hown hts hP hK hD hA hG hS hl
  have hl : lv_has ls 7 [(0, .ref (ad 0)), (1, .int (nI j)), (2, .long a), (4, .long b)] := hl
  refine lv_iload_n hx hb dX4_either_0 rfl (lv_at hl 1 rfl) ?_
  refine lv_iconst (v := (nI 3)) hx hb dX4_either_1 (by decide) ?_
  refine kq_cS (st1 := []) ⟨hx, hb, hml, hown, hts⟩ (c_refuseUnlessBelow_ok u (by omega) (by omega)) (va_cwS 2 hts gX4_62_X4_refuseUnlessBelow rfl rfl rfl (by decide +kernel) ⟨Nat.le_of_ble_eq_true rfl, Nat.le_of_ble_eq_true rfl⟩) tm_Gok hK hP hD hA hG hS rfl hl.1 rfl rfl (Nat.le_of_ble_eq_true rfl) dX4_either_2 ⟨Nat.le_of_ble_eq_true rfl, Nat.le_of_ble_eq_true rfl⟩ (fun H locs hP hD hS => ?_)
  refine lv_aload_n hx hb dX4_either_5 rfl (lv_at hl 0 rfl) ?_
  refine kq_cV (st1 := []) ⟨hx, hb, hml, hown, hts⟩ (c_refuseWhenLost_ok u hnl) (cwV 0 hts gX4_66_X4_refuseWhenLost rfl rfl rfl (by decide +kernel) ⟨Nat.le_of_ble_eq_true rfl, Nat.le_of_ble_eq_true rfl⟩) tm_Gok hK hP hD hA hG hS (va_recv hK hP (ci := 4) (q0 := 0) rfl (tm_at (i := 0) (by omega) rfl)) rfl hl.1 rfl rfl (Nat.le_of_ble_eq_true rfl) dX4_either_6 ⟨Nat.le_of_ble_eq_true rfl, Nat.le_of_ble_eq_true rfl⟩ (fun H locs hP hD hS => ?_)
  refine lv_aload_n hx hb dX4_either_9 rfl (lv_at hl 0 rfl) ?_
  refine tc_gT_sessions hx hb hts inB_X4 hown hK hP (hts _ mb_149) dX4_either_10 ?_
  refine lv_iload_n hx hb dX4_either_13 rfl (lv_at hl 1 rfl) ?_
  refine tc_a_sessions hx hb hK hP (by omega) dX4_either_14 ?_
  refine lv_astore (lv' := [(6, .ref (ad (j + 29))), (0, .ref (ad 0)), (1, .int (nI j)), (2, .long a), (4, .long b)]) hx hb dX4_either_15 hl (by decide) rfl (fun ls hl => ?_)
  refine lv_aload hx hb dX4_either_17 (lv_at hl 0 rfl) ?_
  refine tc_gY_digest hx hb hts inB_X3 hown hK hP (by omega) (hts _ mb_90) dX4_either_19 ?_
  refine lv_lload_n hx hb dX4_either_22 rfl (lv_at hl 3 rfl) ?_
  refine W.lcmp hx hb dX4_either_23 ?_
  refine lv_if_eq (tgt := 48) hx hb dX4_either_24 (by decide) (fun c => absurd c (fun q => h1 (tm_cmp0.mp q))) (fun _ => ?_)
  refine lv_aload hx hb dX4_either_27 (lv_at hl 0 rfl) ?_
  refine tc_gY_digest hx hb hts inB_X3 hown hK hP (by omega) (hts _ mb_90) dX4_either_29 ?_
  refine lv_lload hx hb dX4_either_32 (lv_at hl 4 rfl) ?_
  refine W.lcmp hx hb dX4_either_34 ?_
  refine lv_if_eq (tgt := 48) hx hb dX4_either_35 (by decide) (fun _ => ?_) (fun c => absurd (tm_cmp0.mpr h2) c)
  refine lv_aload hx hb dX4_either_48 (lv_at hl 0 rfl) ?_
  refine lv_ldc2 hx hb hown (hts _ mb_509) dX4_either_50 ?_
  refine lv_lload_n hx hb dX4_either_53 rfl (lv_at hl 3 rfl) ?_
  refine lv_lload hx hb dX4_either_54 (lv_at hl 4 rfl) ?_
  refine kq_cS (st1 := [.long (tm_h a b), .long 12, .ref (ad (j + 29))]) ⟨hx, hb, hml, hown, hts⟩ (c_hash u a b) (va_cwS 2 hts gX4_42_X4_hash rfl rfl rfl (by decide +kernel) ⟨Nat.le_of_ble_eq_true rfl, Nat.le_of_ble_eq_true rfl⟩) tm_Gok hK hP hD hA hG hS rfl hl.1 rfl rfl (Nat.le_of_ble_eq_true rfl) dX4_either_56 ⟨Nat.le_of_ble_eq_true rfl, Nat.le_of_ble_eq_true rfl⟩ (fun H locs hP hD hS => ?_)
  refine kq_cS (st1 := [.long (tm_h 12 (tm_h a b)), .ref (ad (j + 29))]) ⟨hx, hb, hml, hown, hts⟩ (c_hash u 12 (tm_h a b)) (va_cwS 2 hts gX4_42_X4_hash rfl rfl rfl (by decide +kernel) ⟨Nat.le_of_ble_eq_true rfl, Nat.le_of_ble_eq_true rfl⟩) tm_Gok hK hP hD hA hG hS rfl hl.1 rfl rfl (Nat.le_of_ble_eq_true rfl) dX4_either_59 ⟨Nat.le_of_ble_eq_true rfl, Nat.le_of_ble_eq_true rfl⟩ (fun H locs hP hD hS => ?_)
  refine tc_pY_digest hx hb hts inB_X3 hown hK hP hD hS (by omega) (hts _ mb_90) dX4_either_62 (fun H locs hP hD hS => ?_)
  refine lv_aload hx hb dX4_either_65 (lv_at hl 0 rfl) ?_
  refine tc_gY_digest hx hb hts inB_X3 hown hK hP (by omega) (hts _ mb_90) dX4_either_67 ?_
  refine kq_tl (y := (tm_h 12 (tm_h a b))) (by simp [tm_L, tm_I, tm_D]) ?_
  exact kq_lret hx hb hr hlk hP hD hS dX4_either_70
set_option maxHeartbeats 4000000 in
set_option maxRecDepth 100000 in
theorem m_with_b1 (hl9 : l.stackTraces = false) (u : tm_S) (x : Int32) (h : x < 0 ∨ nI 3 ≤ x) (i : Int32) (wd : Int32)  : kc_T l dC dI gs ad cc yX4_with wsX4_with { frames := 8, cells := 1, slots := 6, locals := 125 } [.ref (ad 0), .int x, .int i, .int wd] u u "java/lang/IllegalArgumentException" := by
  refine kq_ofT (cc := cX4_with) (maxL := 6) (ret := (some .long)) (R0 := RX4) (by decide) rfl rfl (Nat.le_of_ble_eq_true rfl) ?_
  intro p e s m below meth c A ls hx hb hr hlk hml hown hts hP hK hD hA hG hS hl hEx
  have hl : lv_has ls 6 [(0, .ref (ad 0)), (1, .int x), (2, .int i), (3, .int wd)] := hl
  refine lv_iload_n hx hb dX4_with_0 rfl (lv_at hl 1 rfl) ?_
  refine lv_iconst (v := (nI 3)) hx hb dX4_with_1 (by decide) ?_
  exact kq_tS ⟨hx, hb, hml, hown, hts⟩ (c_refuseUnlessBelow_no hl9 u h (by omega) (by omega)) (va_cwS 2 hts gX4_62_X4_refuseUnlessBelow rfl rfl rfl (by decide +kernel) ⟨Nat.le_of_ble_eq_true rfl, Nat.le_of_ble_eq_true rfl⟩) tm_Gok hK hP hD hA hG hS rfl hl.1 rfl (Nat.le_of_ble_eq_true rfl) dX4_with_2 ⟨Nat.le_of_ble_eq_true rfl, Nat.le_of_ble_eq_true rfl⟩ hlk hEx (Nat.le_of_ble_eq_true rfl) (Nat.le_of_ble_eq_true rfl)
set_option maxHeartbeats 4000000 in
set_option maxRecDepth 100000 in
theorem m_with_b2 (hl9 : l.stackTraces = false) (u : tm_S) {j : Nat} (hj : j < 3) (x : Int32) (h : x < 0 ∨ nI 4 ≤ x) (wd : Int32)  : kc_T l dC dI gs ad cc yX4_with wsX4_with { frames := 8, cells := 1, slots := 6, locals := 125 } [.ref (ad 0), .int (nI j), .int x, .int wd] u u "java/lang/IllegalArgumentException" := by
  refine kq_ofT (cc := cX4_with) (maxL := 6) (ret := (some .long)) (R0 := RX4) (by decide) rfl rfl (Nat.le_of_ble_eq_true rfl) ?_
  intro p e s m below meth c A ls hx hb hr hlk hml hown hts hP hK hD hA hG hS hl hEx
  have hl : lv_has ls 6 [(0, .ref (ad 0)), (1, .int (nI j)), (2, .int x), (3, .int wd)] := hl
  refine lv_iload_n hx hb dX4_with_0 rfl (lv_at hl 1 rfl) ?_
  refine lv_iconst (v := (nI 3)) hx hb dX4_with_1 (by decide) ?_
  refine kq_cS (st1 := []) ⟨hx, hb, hml, hown, hts⟩ (c_refuseUnlessBelow_ok u (by omega) (by omega)) (va_cwS 2 hts gX4_62_X4_refuseUnlessBelow rfl rfl rfl (by decide +kernel) ⟨Nat.le_of_ble_eq_true rfl, Nat.le_of_ble_eq_true rfl⟩) tm_Gok hK hP hD hA hG hS rfl hl.1 rfl rfl (Nat.le_of_ble_eq_true rfl) dX4_with_2 ⟨Nat.le_of_ble_eq_true rfl, Nat.le_of_ble_eq_true rfl⟩ (fun H locs hP hD hS => ?_)
  refine lv_iload_n hx hb dX4_with_5 rfl (lv_at hl 2 rfl) ?_
  refine lv_iconst (v := (nI 4)) hx hb dX4_with_6 (by decide) ?_
  exact kq_tS ⟨hx, hb, hml, hown, hts⟩ (c_refuseUnlessBelow_no hl9 u h (by omega) (by omega)) (va_cwS 2 hts gX4_62_X4_refuseUnlessBelow rfl rfl rfl (by decide +kernel) ⟨Nat.le_of_ble_eq_true rfl, Nat.le_of_ble_eq_true rfl⟩) tm_Gok hK hP hD hA hG hS rfl hl.1 rfl (Nat.le_of_ble_eq_true rfl) dX4_with_7 ⟨Nat.le_of_ble_eq_true rfl, Nat.le_of_ble_eq_true rfl⟩ hlk hEx (Nat.le_of_ble_eq_true rfl) (Nat.le_of_ble_eq_true rfl)
set_option maxHeartbeats 4000000 in
set_option maxRecDepth 100000 in
theorem m_with_lo (hl9 : l.stackTraces = false) (u : tm_S) {j i : Nat} (hj : j < 3) (hi : i < 4) (wd : Int32) (hlo : ¬ u.2.1 11 0 = 0)  : kc_T l dC dI gs ad cc yX4_with wsX4_with { frames := 8, cells := 1, slots := 6, locals := 125 } [.ref (ad 0), .int (nI j), .int (nI i), .int wd] u u "java/lang/IllegalStateException" := by
  refine kq_ofT (cc := cX4_with) (maxL := 6) (ret := (some .long)) (R0 := RX4) (by decide) rfl rfl (Nat.le_of_ble_eq_true rfl) ?_
  intro p e s m below meth c A ls hx hb hr hlk hml hown hts hP hK hD hA hG hS hl hEx
  have hl : lv_has ls 6 [(0, .ref (ad 0)), (1, .int (nI j)), (2, .int (nI i)), (3, .int wd)] := hl
  refine lv_iload_n hx hb dX4_with_0 rfl (lv_at hl 1 rfl) ?_
  refine lv_iconst (v := (nI 3)) hx hb dX4_with_1 (by decide) ?_
  refine kq_cS (st1 := []) ⟨hx, hb, hml, hown, hts⟩ (c_refuseUnlessBelow_ok u (by omega) (by omega)) (va_cwS 2 hts gX4_62_X4_refuseUnlessBelow rfl rfl rfl (by decide +kernel) ⟨Nat.le_of_ble_eq_true rfl, Nat.le_of_ble_eq_true rfl⟩) tm_Gok hK hP hD hA hG hS rfl hl.1 rfl rfl (Nat.le_of_ble_eq_true rfl) dX4_with_2 ⟨Nat.le_of_ble_eq_true rfl, Nat.le_of_ble_eq_true rfl⟩ (fun H locs hP hD hS => ?_)
  refine lv_iload_n hx hb dX4_with_5 rfl (lv_at hl 2 rfl) ?_
  refine lv_iconst (v := (nI 4)) hx hb dX4_with_6 (by decide) ?_
  refine kq_cS (st1 := []) ⟨hx, hb, hml, hown, hts⟩ (c_refuseUnlessBelow_ok u (by omega) (by omega)) (va_cwS 2 hts gX4_62_X4_refuseUnlessBelow rfl rfl rfl (by decide +kernel) ⟨Nat.le_of_ble_eq_true rfl, Nat.le_of_ble_eq_true rfl⟩) tm_Gok hK hP hD hA hG hS rfl hl.1 rfl rfl (Nat.le_of_ble_eq_true rfl) dX4_with_7 ⟨Nat.le_of_ble_eq_true rfl, Nat.le_of_ble_eq_true rfl⟩ (fun H locs hP hD hS => ?_)
  refine lv_aload_n hx hb dX4_with_10 rfl (lv_at hl 0 rfl) ?_
  exact kq_tV ⟨hx, hb, hml, hown, hts⟩ (c_refuseWhenLost_no hl9 u hlo) (cwV 0 hts gX4_66_X4_refuseWhenLost rfl rfl rfl (by decide +kernel) ⟨Nat.le_of_ble_eq_true rfl, Nat.le_of_ble_eq_true rfl⟩) tm_Gok hK hP hD hA hG hS (va_recv hK hP (ci := 4) (q0 := 0) rfl (tm_at (i := 0) (by omega) rfl)) rfl hl.1 rfl (Nat.le_of_ble_eq_true rfl) dX4_with_11 ⟨Nat.le_of_ble_eq_true rfl, Nat.le_of_ble_eq_true rfl⟩ hlk hEx (Nat.le_of_ble_eq_true rfl) (Nat.le_of_ble_eq_true rfl)
set_option maxHeartbeats 4000000 in
set_option maxRecDepth 100000 in
theorem m_with_free (hl9 : l.stackTraces = false) (u : tm_S) {j i : Nat} (hj : j < 3) (hi : i < 4) (wd : Int32) (hnl : u.2.1 11 0 = 0) (hh : u.2.1 0 i = 0) : kc_T l dC dI gs ad cc yX4_with wsX4_with { frames := 8, cells := 1, slots := 6, locals := 125 } [.ref (ad 0), .int (nI j), .int (nI i), .int wd] u u "java/util/NoSuchElementException" := by
  refine kq_ofT (cc := cX4_with) (maxL := 6) (ret := (some .long)) (R0 := RX4) (by decide) rfl rfl (Nat.le_of_ble_eq_true rfl) ?_
  intro p e s m below meth c A ls hx hb hr hlk hml hown hts hP hK hD hA hG hS hl hEx
  have hl : lv_has ls 6 [(0, .ref (ad 0)), (1, .int (nI j)), (2, .int (nI i)), (3, .int wd)] := hl
  refine lv_iload_n hx hb dX4_with_0 rfl (lv_at hl 1 rfl) ?_
  refine lv_iconst (v := (nI 3)) hx hb dX4_with_1 (by decide) ?_
  refine kq_cS (st1 := []) ⟨hx, hb, hml, hown, hts⟩ (c_refuseUnlessBelow_ok u (by omega) (by omega)) (va_cwS 2 hts gX4_62_X4_refuseUnlessBelow rfl rfl rfl (by decide +kernel) ⟨Nat.le_of_ble_eq_true rfl, Nat.le_of_ble_eq_true rfl⟩) tm_Gok hK hP hD hA hG hS rfl hl.1 rfl rfl (Nat.le_of_ble_eq_true rfl) dX4_with_2 ⟨Nat.le_of_ble_eq_true rfl, Nat.le_of_ble_eq_true rfl⟩ (fun H locs hP hD hS => ?_)
  refine lv_iload_n hx hb dX4_with_5 rfl (lv_at hl 2 rfl) ?_
  refine lv_iconst (v := (nI 4)) hx hb dX4_with_6 (by decide) ?_
  refine kq_cS (st1 := []) ⟨hx, hb, hml, hown, hts⟩ (c_refuseUnlessBelow_ok u (by omega) (by omega)) (va_cwS 2 hts gX4_62_X4_refuseUnlessBelow rfl rfl rfl (by decide +kernel) ⟨Nat.le_of_ble_eq_true rfl, Nat.le_of_ble_eq_true rfl⟩) tm_Gok hK hP hD hA hG hS rfl hl.1 rfl rfl (Nat.le_of_ble_eq_true rfl) dX4_with_7 ⟨Nat.le_of_ble_eq_true rfl, Nat.le_of_ble_eq_true rfl⟩ (fun H locs hP hD hS => ?_)
  refine lv_aload_n hx hb dX4_with_10 rfl (lv_at hl 0 rfl) ?_
  refine kq_cV (st1 := []) ⟨hx, hb, hml, hown, hts⟩ (c_refuseWhenLost_ok u hnl) (cwV 0 hts gX4_66_X4_refuseWhenLost rfl rfl rfl (by decide +kernel) ⟨Nat.le_of_ble_eq_true rfl, Nat.le_of_ble_eq_true rfl⟩) tm_Gok hK hP hD hA hG hS (va_recv hK hP (ci := 4) (q0 := 0) rfl (tm_at (i := 0) (by omega) rfl)) rfl hl.1 rfl rfl (Nat.le_of_ble_eq_true rfl) dX4_with_11 ⟨Nat.le_of_ble_eq_true rfl, Nat.le_of_ble_eq_true rfl⟩ (fun H locs hP hD hS => ?_)
  refine lv_aload_n hx hb dX4_with_14 rfl (lv_at hl 0 rfl) ?_
  refine lv_iload_n hx hb dX4_with_15 rfl (lv_at hl 2 rfl) ?_
  exact kq_tV ⟨hx, hb, hml, hown, hts⟩ (c_heldKey_no hl9 u (k := i) (by omega) hh) (cwV 1 hts gX4_81_X4_heldKey rfl rfl rfl (by decide +kernel) ⟨Nat.le_of_ble_eq_true rfl, Nat.le_of_ble_eq_true rfl⟩) tm_Gok hK hP hD hA hG hS (va_recv hK hP (ci := 4) (q0 := 0) rfl (tm_at (i := 0) (by omega) rfl)) rfl hl.1 rfl (Nat.le_of_ble_eq_true rfl) dX4_with_16 ⟨Nat.le_of_ble_eq_true rfl, Nat.le_of_ble_eq_true rfl⟩ hlk hEx (Nat.le_of_ble_eq_true rfl) (Nat.le_of_ble_eq_true rfl)
set_option maxHeartbeats 4000000 in
set_option maxRecDepth 100000 in
theorem m_with_w0 (u : tm_S) {j i : Nat} (hj : j < 3) (hi : i < 4) (wd : Int32) (hnl : u.2.1 11 0 = 0) (hh : ¬ u.2.1 0 i = 0) (hw : u.2.1 1 i = 0) : kc_M l dC dI gs ad cc yX4_with wsX4_with { frames := 8, cells := 0, slots := 0, locals := 125 } [.ref (ad 0), .int (nI j), .int (nI i), .int wd] u (tm_L u 6 j (tm_h (tm_h (u.1 6 j) 13) (tm_h (tm_h (u.1 2 i) ((u.2.1 1 i).toInt64)) (tm_h (u.1 3 i) (u.1 4 i))))) (some (.long (tm_h (tm_h (u.1 6 j) 13) (tm_h (tm_h (u.1 2 i) ((u.2.1 1 i).toInt64)) (tm_h (u.1 3 i) (u.1 4 i)))))) := by
  refine kq_ofW (cc := cX4_with) (maxL := 6) (ret := (some .long)) (R0 := RX4) (by decide) rfl rfl (Nat.le_of_ble_eq_true rfl) ?_
  intro p e s m below meth c A ls hx hb hr hlk hml hown hts hP hK hD hA hG hS hl
  have hl : lv_has ls 6 [(0, .ref (ad 0)), (1, .int (nI j)), (2, .int (nI i)), (3, .int wd)] := hl
  refine lv_iload_n hx hb dX4_with_0 rfl (lv_at hl 1 rfl) ?_
  refine lv_iconst (v := (nI 3)) hx hb dX4_with_1 (by decide) ?_
  refine kq_cS (st1 := []) ⟨hx, hb, hml, hown, hts⟩ (c_refuseUnlessBelow_ok u (by omega) (by omega)) (va_cwS 2 hts gX4_62_X4_refuseUnlessBelow rfl rfl rfl (by decide +kernel) ⟨Nat.le_of_ble_eq_true rfl, Nat.le_of_ble_eq_true rfl⟩) tm_Gok hK hP hD hA hG hS rfl hl.1 rfl rfl (Nat.le_of_ble_eq_true rfl) dX4_with_2 ⟨Nat.le_of_ble_eq_true rfl, Nat.le_of_ble_eq_true rfl⟩ (fun H locs hP hD hS => ?_)
  refine lv_iload_n hx hb dX4_with_5 rfl (lv_at hl 2 rfl) ?_
  refine lv_iconst (v := (nI 4)) hx hb dX4_with_6 (by decide) ?_
  refine kq_cS (st1 := []) ⟨hx, hb, hml, hown, hts⟩ (c_refuseUnlessBelow_ok u (by omega) (by omega)) (va_cwS 2 hts gX4_62_X4_refuseUnlessBelow rfl rfl rfl (by decide +kernel) ⟨Nat.le_of_ble_eq_true rfl, Nat.le_of_ble_eq_true rfl⟩) tm_Gok hK hP hD hA hG hS rfl hl.1 rfl rfl (Nat.le_of_ble_eq_true rfl) dX4_with_7 ⟨Nat.le_of_ble_eq_true rfl, Nat.le_of_ble_eq_true rfl⟩ (fun H locs hP hD hS => ?_)
  refine lv_aload_n hx hb dX4_with_10 rfl (lv_at hl 0 rfl) ?_
  refine kq_cV (st1 := []) ⟨hx, hb, hml, hown, hts⟩ (c_refuseWhenLost_ok u hnl) (cwV 0 hts gX4_66_X4_refuseWhenLost rfl rfl rfl (by decide +kernel) ⟨Nat.le_of_ble_eq_true rfl, Nat.le_of_ble_eq_true rfl⟩) tm_Gok hK hP hD hA hG hS (va_recv hK hP (ci := 4) (q0 := 0) rfl (tm_at (i := 0) (by omega) rfl)) rfl hl.1 rfl rfl (Nat.le_of_ble_eq_true rfl) dX4_with_11 ⟨Nat.le_of_ble_eq_true rfl, Nat.le_of_ble_eq_true rfl⟩ (fun H locs hP hD hS => ?_)
  refine lv_aload_n hx hb dX4_with_14 rfl (lv_at hl 0 rfl) ?_
  refine lv_iload_n hx hb dX4_with_15 rfl (lv_at hl 2 rfl) ?_
  refine kq_cV (st1 := [.ref (ad (i + 9))]) ⟨hx, hb, hml, hown, hts⟩ (c_heldKey_ok u (k := i) (by omega) hh) (cwV 1 hts gX4_81_X4_heldKey rfl rfl rfl (by decide +kernel) ⟨Nat.le_of_ble_eq_true rfl, Nat.le_of_ble_eq_true rfl⟩) tm_Gok hK hP hD hA hG hS (va_recv hK hP (ci := 4) (q0 := 0) rfl (tm_at (i := 0) (by omega) rfl)) rfl hl.1 rfl rfl (Nat.le_of_ble_eq_true rfl) dX4_with_16 ⟨Nat.le_of_ble_eq_true rfl, Nat.le_of_ble_eq_true rfl⟩ (fun H locs hP hD hS => ?_)
  refine lv_astore (lv' := [(4, .ref (ad (i + 9))), (0, .ref (ad 0)), (1, .int (nI j)), (2, .int (nI i)), (3, .int wd)]) hx hb dX4_with_19 hl (by decide) rfl (fun ls hl => ?_)
  refine lv_aload_n hx hb dX4_with_21 rfl (lv_at hl 1 rfl) ?_
  refine lv_aload hx hb dX4_with_22 (lv_at hl 0 rfl) ?_
  refine lv_iload_n hx hb dX4_with_24 rfl (lv_at hl 4 rfl) ?_
  refine kq_cV (st1 := []) ⟨hx, hb, hml, hown, hts⟩ (c_allowByWord_0 u (k := i) (by omega) wd hw) (cwV 2 hts gX4_120_X4_allowByWord rfl rfl rfl (by decide +kernel) ⟨Nat.le_of_ble_eq_true rfl, Nat.le_of_ble_eq_true rfl⟩) tm_Gok hK hP hD hA hG hS (va_recv hK hP (ci := 4) (q0 := 0) rfl (tm_at (i := 0) (by omega) rfl)) rfl hl.1 rfl rfl (Nat.le_of_ble_eq_true rfl) dX4_with_25 ⟨Nat.le_of_ble_eq_true rfl, Nat.le_of_ble_eq_true rfl⟩ (fun H locs hP hD hS => ?_)
  refine lv_aload_n hx hb dX4_with_28 rfl (lv_at hl 1 rfl) ?_
  refine tc_gT_sessions hx hb hts inB_X4 hown hK hP (hts _ mb_149) dX4_with_29 ?_
  refine lv_iload_n hx hb dX4_with_32 rfl (lv_at hl 2 rfl) ?_
  refine tc_a_sessions hx hb hK hP (by omega) dX4_with_33 ?_
  refine lv_astore (lv' := [(5, .ref (ad (j + 29))), (4, .ref (ad (i + 9))), (0, .ref (ad 0)), (1, .int (nI j)), (2, .int (nI i)), (3, .int wd)]) hx hb dX4_with_34 hl (by decide) rfl (fun ls hl => ?_)
  refine lv_aload hx hb dX4_with_36 (lv_at hl 0 rfl) ?_
  refine lv_aload hx hb dX4_with_38 (lv_at hl 0 rfl) ?_
  refine tc_gY_digest hx hb hts inB_X3 hown hK hP (by omega) (hts _ mb_90) dX4_with_40 ?_
  refine lv_ldc2 hx hb hown (hts _ mb_517) dX4_with_43 ?_
  refine kq_cS (st1 := [.long (tm_h (u.1 6 j) 13), .ref (ad (j + 29))]) ⟨hx, hb, hml, hown, hts⟩ (c_hash u (u.1 6 j) 13) (va_cwS 2 hts gX4_42_X4_hash rfl rfl rfl (by decide +kernel) ⟨Nat.le_of_ble_eq_true rfl, Nat.le_of_ble_eq_true rfl⟩) tm_Gok hK hP hD hA hG hS rfl hl.1 rfl rfl (Nat.le_of_ble_eq_true rfl) dX4_with_46 ⟨Nat.le_of_ble_eq_true rfl, Nat.le_of_ble_eq_true rfl⟩ (fun H locs hP hD hS => ?_)
  refine lv_aload hx hb dX4_with_49 (lv_at hl 1 rfl) ?_
  refine kq_cV (st1 := [.long (tm_h (tm_h (u.1 2 i) ((u.2.1 1 i).toInt64)) (tm_h (u.1 3 i) (u.1 4 i))), .long (tm_h (u.1 6 j) 13), .ref (ad (j + 29))]) ⟨hx, hb, hml, hown, hts⟩ (c_name u (k := i) (by omega)) (cwV 0 hts gX4_163_X2_name rfl rfl rfl (by decide +kernel) ⟨Nat.le_of_ble_eq_true rfl, Nat.le_of_ble_eq_true rfl⟩) tm_Gok hK hP hD hA hG hS (va_recv hK hP (ci := 2) (q0 := i + 9) rfl (tm_at (i := i + 9) (by omega) (tc_K (by omega)))) rfl hl.1 rfl rfl (Nat.le_of_ble_eq_true rfl) dX4_with_51 ⟨Nat.le_of_ble_eq_true rfl, Nat.le_of_ble_eq_true rfl⟩ (fun H locs hP hD hS => ?_)
  refine kq_cS (st1 := [.long (tm_h (tm_h (u.1 6 j) 13) (tm_h (tm_h (u.1 2 i) ((u.2.1 1 i).toInt64)) (tm_h (u.1 3 i) (u.1 4 i)))), .ref (ad (j + 29))]) ⟨hx, hb, hml, hown, hts⟩ (c_hash u (tm_h (u.1 6 j) 13) (tm_h (tm_h (u.1 2 i) ((u.2.1 1 i).toInt64)) (tm_h (u.1 3 i) (u.1 4 i)))) (va_cwS 2 hts gX4_42_X4_hash rfl rfl rfl (by decide +kernel) ⟨Nat.le_of_ble_eq_true rfl, Nat.le_of_ble_eq_true rfl⟩) tm_Gok hK hP hD hA hG hS rfl hl.1 rfl rfl (Nat.le_of_ble_eq_true rfl) dX4_with_54 ⟨Nat.le_of_ble_eq_true rfl, Nat.le_of_ble_eq_true rfl⟩ (fun H locs hP hD hS => ?_)
  refine tc_pY_digest hx hb hts inB_X3 hown hK hP hD hS (by omega) (hts _ mb_90) dX4_with_57 (fun H locs hP hD hS => ?_)
  refine lv_aload hx hb dX4_with_60 (lv_at hl 0 rfl) ?_
  refine tc_gY_digest hx hb hts inB_X3 hown hK hP (by omega) (hts _ mb_90) dX4_with_62 ?_
  refine kq_tl (y := (tm_h (tm_h (u.1 6 j) 13) (tm_h (tm_h (u.1 2 i) ((u.2.1 1 i).toInt64)) (tm_h (u.1 3 i) (u.1 4 i))))) (by simp [tm_L, tm_I, tm_D]) ?_
  exact kq_lret hx hb hr hlk hP hD hS dX4_with_65
set_option maxHeartbeats 4000000 in
set_option maxRecDepth 100000 in
theorem m_with_lock (hl9 : l.stackTraces = false) (u : tm_S) {j i : Nat} (hj : j < 3) (hi : i < 4) (wd : Int32) (hnl : u.2.1 11 0 = 0) (hh : ¬ u.2.1 0 i = 0) (hw : ¬ u.2.1 1 i = 0) (hg : ¬ u.2.1 13 0 < nI 3) : kc_T l dC dI gs ad cc yX4_with wsX4_with { frames := 8, cells := 1, slots := 6, locals := 125 } [.ref (ad 0), .int (nI j), .int (nI i), .int wd] u u "java/lang/IllegalStateException" := by
  refine kq_ofT (cc := cX4_with) (maxL := 6) (ret := (some .long)) (R0 := RX4) (by decide) rfl rfl (Nat.le_of_ble_eq_true rfl) ?_
  intro p e s m below meth c A ls hx hb hr hlk hml hown hts hP hK hD hA hG hS hl hEx
  have hl : lv_has ls 6 [(0, .ref (ad 0)), (1, .int (nI j)), (2, .int (nI i)), (3, .int wd)] := hl
  refine lv_iload_n hx hb dX4_with_0 rfl (lv_at hl 1 rfl) ?_
  refine lv_iconst (v := (nI 3)) hx hb dX4_with_1 (by decide) ?_
  refine kq_cS (st1 := []) ⟨hx, hb, hml, hown, hts⟩ (c_refuseUnlessBelow_ok u (by omega) (by omega)) (va_cwS 2 hts gX4_62_X4_refuseUnlessBelow rfl rfl rfl (by decide +kernel) ⟨Nat.le_of_ble_eq_true rfl, Nat.le_of_ble_eq_true rfl⟩) tm_Gok hK hP hD hA hG hS rfl hl.1 rfl rfl (Nat.le_of_ble_eq_true rfl) dX4_with_2 ⟨Nat.le_of_ble_eq_true rfl, Nat.le_of_ble_eq_true rfl⟩ (fun H locs hP hD hS => ?_)
  refine lv_iload_n hx hb dX4_with_5 rfl (lv_at hl 2 rfl) ?_
  refine lv_iconst (v := (nI 4)) hx hb dX4_with_6 (by decide) ?_
  refine kq_cS (st1 := []) ⟨hx, hb, hml, hown, hts⟩ (c_refuseUnlessBelow_ok u (by omega) (by omega)) (va_cwS 2 hts gX4_62_X4_refuseUnlessBelow rfl rfl rfl (by decide +kernel) ⟨Nat.le_of_ble_eq_true rfl, Nat.le_of_ble_eq_true rfl⟩) tm_Gok hK hP hD hA hG hS rfl hl.1 rfl rfl (Nat.le_of_ble_eq_true rfl) dX4_with_7 ⟨Nat.le_of_ble_eq_true rfl, Nat.le_of_ble_eq_true rfl⟩ (fun H locs hP hD hS => ?_)
  refine lv_aload_n hx hb dX4_with_10 rfl (lv_at hl 0 rfl) ?_
  refine kq_cV (st1 := []) ⟨hx, hb, hml, hown, hts⟩ (c_refuseWhenLost_ok u hnl) (cwV 0 hts gX4_66_X4_refuseWhenLost rfl rfl rfl (by decide +kernel) ⟨Nat.le_of_ble_eq_true rfl, Nat.le_of_ble_eq_true rfl⟩) tm_Gok hK hP hD hA hG hS (va_recv hK hP (ci := 4) (q0 := 0) rfl (tm_at (i := 0) (by omega) rfl)) rfl hl.1 rfl rfl (Nat.le_of_ble_eq_true rfl) dX4_with_11 ⟨Nat.le_of_ble_eq_true rfl, Nat.le_of_ble_eq_true rfl⟩ (fun H locs hP hD hS => ?_)
  refine lv_aload_n hx hb dX4_with_14 rfl (lv_at hl 0 rfl) ?_
  refine lv_iload_n hx hb dX4_with_15 rfl (lv_at hl 2 rfl) ?_
  refine kq_cV (st1 := [.ref (ad (i + 9))]) ⟨hx, hb, hml, hown, hts⟩ (c_heldKey_ok u (k := i) (by omega) hh) (cwV 1 hts gX4_81_X4_heldKey rfl rfl rfl (by decide +kernel) ⟨Nat.le_of_ble_eq_true rfl, Nat.le_of_ble_eq_true rfl⟩) tm_Gok hK hP hD hA hG hS (va_recv hK hP (ci := 4) (q0 := 0) rfl (tm_at (i := 0) (by omega) rfl)) rfl hl.1 rfl rfl (Nat.le_of_ble_eq_true rfl) dX4_with_16 ⟨Nat.le_of_ble_eq_true rfl, Nat.le_of_ble_eq_true rfl⟩ (fun H locs hP hD hS => ?_)
  refine lv_astore (lv' := [(4, .ref (ad (i + 9))), (0, .ref (ad 0)), (1, .int (nI j)), (2, .int (nI i)), (3, .int wd)]) hx hb dX4_with_19 hl (by decide) rfl (fun ls hl => ?_)
  refine lv_aload_n hx hb dX4_with_21 rfl (lv_at hl 1 rfl) ?_
  refine lv_aload hx hb dX4_with_22 (lv_at hl 0 rfl) ?_
  refine lv_iload_n hx hb dX4_with_24 rfl (lv_at hl 4 rfl) ?_
  exact kq_tV ⟨hx, hb, hml, hown, hts⟩ (c_allowByWord_lock hl9 u (k := i) (by omega) wd hw hg) (cwV 2 hts gX4_120_X4_allowByWord rfl rfl rfl (by decide +kernel) ⟨Nat.le_of_ble_eq_true rfl, Nat.le_of_ble_eq_true rfl⟩) tm_Gok hK hP hD hA hG hS (va_recv hK hP (ci := 4) (q0 := 0) rfl (tm_at (i := 0) (by omega) rfl)) rfl hl.1 rfl (Nat.le_of_ble_eq_true rfl) dX4_with_25 ⟨Nat.le_of_ble_eq_true rfl, Nat.le_of_ble_eq_true rfl⟩ hlk hEx (Nat.le_of_ble_eq_true rfl) (Nat.le_of_ble_eq_true rfl)
set_option maxHeartbeats 4000000 in
set_option maxRecDepth 100000 in
theorem m_with_wok (u : tm_S) {j i : Nat} (hj : j < 3) (hi : i < 4) (wd : Int32) (hnl : u.2.1 11 0 = 0) (hh : ¬ u.2.1 0 i = 0) (hw : ¬ u.2.1 1 i = 0) (hg : u.2.1 13 0 < nI 3) (he : u.2.1 1 i = wd) : kc_M l dC dI gs ad cc yX4_with wsX4_with { frames := 8, cells := 0, slots := 0, locals := 125 } [.ref (ad 0), .int (nI j), .int (nI i), .int wd] u (tm_L u 6 j (tm_h (tm_h (u.1 6 j) 13) (tm_h (tm_h (u.1 2 i) ((u.2.1 1 i).toInt64)) (tm_h (u.1 3 i) (u.1 4 i))))) (some (.long (tm_h (tm_h (u.1 6 j) 13) (tm_h (tm_h (u.1 2 i) ((u.2.1 1 i).toInt64)) (tm_h (u.1 3 i) (u.1 4 i)))))) := by
  refine kq_ofW (cc := cX4_with) (maxL := 6) (ret := (some .long)) (R0 := RX4) (by decide) rfl rfl (Nat.le_of_ble_eq_true rfl) ?_
  intro p e s m below meth c A ls hx hb hr hlk hml hown hts hP hK hD hA hG hS hl
  have hl : lv_has ls 6 [(0, .ref (ad 0)), (1, .int (nI j)), (2, .int (nI i)), (3, .int wd)] := hl
  refine lv_iload_n hx hb dX4_with_0 rfl (lv_at hl 1 rfl) ?_
  refine lv_iconst (v := (nI 3)) hx hb dX4_with_1 (by decide) ?_
  refine kq_cS (st1 := []) ⟨hx, hb, hml, hown, hts⟩ (c_refuseUnlessBelow_ok u (by omega) (by omega)) (va_cwS 2 hts gX4_62_X4_refuseUnlessBelow rfl rfl rfl (by decide +kernel) ⟨Nat.le_of_ble_eq_true rfl, Nat.le_of_ble_eq_true rfl⟩) tm_Gok hK hP hD hA hG hS rfl hl.1 rfl rfl (Nat.le_of_ble_eq_true rfl) dX4_with_2 ⟨Nat.le_of_ble_eq_true rfl, Nat.le_of_ble_eq_true rfl⟩ (fun H locs hP hD hS => ?_)
  refine lv_iload_n hx hb dX4_with_5 rfl (lv_at hl 2 rfl) ?_
  refine lv_iconst (v := (nI 4)) hx hb dX4_with_6 (by decide) ?_
  refine kq_cS (st1 := []) ⟨hx, hb, hml, hown, hts⟩ (c_refuseUnlessBelow_ok u (by omega) (by omega)) (va_cwS 2 hts gX4_62_X4_refuseUnlessBelow rfl rfl rfl (by decide +kernel) ⟨Nat.le_of_ble_eq_true rfl, Nat.le_of_ble_eq_true rfl⟩) tm_Gok hK hP hD hA hG hS rfl hl.1 rfl rfl (Nat.le_of_ble_eq_true rfl) dX4_with_7 ⟨Nat.le_of_ble_eq_true rfl, Nat.le_of_ble_eq_true rfl⟩ (fun H locs hP hD hS => ?_)
  refine lv_aload_n hx hb dX4_with_10 rfl (lv_at hl 0 rfl) ?_
  refine kq_cV (st1 := []) ⟨hx, hb, hml, hown, hts⟩ (c_refuseWhenLost_ok u hnl) (cwV 0 hts gX4_66_X4_refuseWhenLost rfl rfl rfl (by decide +kernel) ⟨Nat.le_of_ble_eq_true rfl, Nat.le_of_ble_eq_true rfl⟩) tm_Gok hK hP hD hA hG hS (va_recv hK hP (ci := 4) (q0 := 0) rfl (tm_at (i := 0) (by omega) rfl)) rfl hl.1 rfl rfl (Nat.le_of_ble_eq_true rfl) dX4_with_11 ⟨Nat.le_of_ble_eq_true rfl, Nat.le_of_ble_eq_true rfl⟩ (fun H locs hP hD hS => ?_)
  refine lv_aload_n hx hb dX4_with_14 rfl (lv_at hl 0 rfl) ?_
  refine lv_iload_n hx hb dX4_with_15 rfl (lv_at hl 2 rfl) ?_
  refine kq_cV (st1 := [.ref (ad (i + 9))]) ⟨hx, hb, hml, hown, hts⟩ (c_heldKey_ok u (k := i) (by omega) hh) (cwV 1 hts gX4_81_X4_heldKey rfl rfl rfl (by decide +kernel) ⟨Nat.le_of_ble_eq_true rfl, Nat.le_of_ble_eq_true rfl⟩) tm_Gok hK hP hD hA hG hS (va_recv hK hP (ci := 4) (q0 := 0) rfl (tm_at (i := 0) (by omega) rfl)) rfl hl.1 rfl rfl (Nat.le_of_ble_eq_true rfl) dX4_with_16 ⟨Nat.le_of_ble_eq_true rfl, Nat.le_of_ble_eq_true rfl⟩ (fun H locs hP hD hS => ?_)
  refine lv_astore (lv' := [(4, .ref (ad (i + 9))), (0, .ref (ad 0)), (1, .int (nI j)), (2, .int (nI i)), (3, .int wd)]) hx hb dX4_with_19 hl (by decide) rfl (fun ls hl => ?_)
  refine lv_aload_n hx hb dX4_with_21 rfl (lv_at hl 1 rfl) ?_
  refine lv_aload hx hb dX4_with_22 (lv_at hl 0 rfl) ?_
  refine lv_iload_n hx hb dX4_with_24 rfl (lv_at hl 4 rfl) ?_
  refine kq_cV (st1 := []) ⟨hx, hb, hml, hown, hts⟩ (c_allowByWord_ok u (k := i) (by omega) wd hw hg he) (cwV 2 hts gX4_120_X4_allowByWord rfl rfl rfl (by decide +kernel) ⟨Nat.le_of_ble_eq_true rfl, Nat.le_of_ble_eq_true rfl⟩) tm_Gok hK hP hD hA hG hS (va_recv hK hP (ci := 4) (q0 := 0) rfl (tm_at (i := 0) (by omega) rfl)) rfl hl.1 rfl rfl (Nat.le_of_ble_eq_true rfl) dX4_with_25 ⟨Nat.le_of_ble_eq_true rfl, Nat.le_of_ble_eq_true rfl⟩ (fun H locs hP hD hS => ?_)
  refine lv_aload_n hx hb dX4_with_28 rfl (lv_at hl 1 rfl) ?_
  refine tc_gT_sessions hx hb hts inB_X4 hown hK hP (hts _ mb_149) dX4_with_29 ?_
  refine lv_iload_n hx hb dX4_with_32 rfl (lv_at hl 2 rfl) ?_
  refine tc_a_sessions hx hb hK hP (by omega) dX4_with_33 ?_
  refine lv_astore (lv' := [(5, .ref (ad (j + 29))), (4, .ref (ad (i + 9))), (0, .ref (ad 0)), (1, .int (nI j)), (2, .int (nI i)), (3, .int wd)]) hx hb dX4_with_34 hl (by decide) rfl (fun ls hl => ?_)
  refine lv_aload hx hb dX4_with_36 (lv_at hl 0 rfl) ?_
  refine lv_aload hx hb dX4_with_38 (lv_at hl 0 rfl) ?_
  refine tc_gY_digest hx hb hts inB_X3 hown hK hP (by omega) (hts _ mb_90) dX4_with_40 ?_
  refine lv_ldc2 hx hb hown (hts _ mb_517) dX4_with_43 ?_
  refine kq_cS (st1 := [.long (tm_h (u.1 6 j) 13), .ref (ad (j + 29))]) ⟨hx, hb, hml, hown, hts⟩ (c_hash u (u.1 6 j) 13) (va_cwS 2 hts gX4_42_X4_hash rfl rfl rfl (by decide +kernel) ⟨Nat.le_of_ble_eq_true rfl, Nat.le_of_ble_eq_true rfl⟩) tm_Gok hK hP hD hA hG hS rfl hl.1 rfl rfl (Nat.le_of_ble_eq_true rfl) dX4_with_46 ⟨Nat.le_of_ble_eq_true rfl, Nat.le_of_ble_eq_true rfl⟩ (fun H locs hP hD hS => ?_)
  refine lv_aload hx hb dX4_with_49 (lv_at hl 1 rfl) ?_
  refine kq_cV (st1 := [.long (tm_h (tm_h (u.1 2 i) ((u.2.1 1 i).toInt64)) (tm_h (u.1 3 i) (u.1 4 i))), .long (tm_h (u.1 6 j) 13), .ref (ad (j + 29))]) ⟨hx, hb, hml, hown, hts⟩ (c_name u (k := i) (by omega)) (cwV 0 hts gX4_163_X2_name rfl rfl rfl (by decide +kernel) ⟨Nat.le_of_ble_eq_true rfl, Nat.le_of_ble_eq_true rfl⟩) tm_Gok hK hP hD hA hG hS (va_recv hK hP (ci := 2) (q0 := i + 9) rfl (tm_at (i := i + 9) (by omega) (tc_K (by omega)))) rfl hl.1 rfl rfl (Nat.le_of_ble_eq_true rfl) dX4_with_51 ⟨Nat.le_of_ble_eq_true rfl, Nat.le_of_ble_eq_true rfl⟩ (fun H locs hP hD hS => ?_)
  refine kq_cS (st1 := [.long (tm_h (tm_h (u.1 6 j) 13) (tm_h (tm_h (u.1 2 i) ((u.2.1 1 i).toInt64)) (tm_h (u.1 3 i) (u.1 4 i)))), .ref (ad (j + 29))]) ⟨hx, hb, hml, hown, hts⟩ (c_hash u (tm_h (u.1 6 j) 13) (tm_h (tm_h (u.1 2 i) ((u.2.1 1 i).toInt64)) (tm_h (u.1 3 i) (u.1 4 i)))) (va_cwS 2 hts gX4_42_X4_hash rfl rfl rfl (by decide +kernel) ⟨Nat.le_of_ble_eq_true rfl, Nat.le_of_ble_eq_true rfl⟩) tm_Gok hK hP hD hA hG hS rfl hl.1 rfl rfl (Nat.le_of_ble_eq_true rfl) dX4_with_54 ⟨Nat.le_of_ble_eq_true rfl, Nat.le_of_ble_eq_true rfl⟩ (fun H locs hP hD hS => ?_)
  refine tc_pY_digest hx hb hts inB_X3 hown hK hP hD hS (by omega) (hts _ mb_90) dX4_with_57 (fun H locs hP hD hS => ?_)
  refine lv_aload hx hb dX4_with_60 (lv_at hl 0 rfl) ?_
  refine tc_gY_digest hx hb hts inB_X3 hown hK hP (by omega) (hts _ mb_90) dX4_with_62 ?_
  refine kq_tl (y := (tm_h (tm_h (u.1 6 j) 13) (tm_h (tm_h (u.1 2 i) ((u.2.1 1 i).toInt64)) (tm_h (u.1 3 i) (u.1 4 i))))) (by simp [tm_L, tm_I, tm_D]) ?_
  exact kq_lret hx hb hr hlk hP hD hS dX4_with_65
set_option maxHeartbeats 4000000 in
set_option maxRecDepth 100000 in
theorem m_with_wno (hl9 : l.stackTraces = false) (u : tm_S) {j i : Nat} (hj : j < 3) (hi : i < 4) (wd : Int32) (hnl : u.2.1 11 0 = 0) (hh : ¬ u.2.1 0 i = 0) (hw : ¬ u.2.1 1 i = 0) (hg : u.2.1 13 0 < nI 3) (he : ¬ u.2.1 1 i = wd) : kc_T l dC dI gs ad cc yX4_with wsX4_with { frames := 8, cells := 1, slots := 6, locals := 125 } [.ref (ad 0), .int (nI j), .int (nI i), .int wd] u (tm_D (tm_I u 13 0 ((u.2.1 13 0) + (nI 1))) 0 (u.2.2 1)) "java/lang/UnsupportedOperationException" := by
  refine kq_ofT (cc := cX4_with) (maxL := 6) (ret := (some .long)) (R0 := RX4) (by decide) rfl rfl (Nat.le_of_ble_eq_true rfl) ?_
  intro p e s m below meth c A ls hx hb hr hlk hml hown hts hP hK hD hA hG hS hl hEx
  have hl : lv_has ls 6 [(0, .ref (ad 0)), (1, .int (nI j)), (2, .int (nI i)), (3, .int wd)] := hl
  refine lv_iload_n hx hb dX4_with_0 rfl (lv_at hl 1 rfl) ?_
  refine lv_iconst (v := (nI 3)) hx hb dX4_with_1 (by decide) ?_
  refine kq_cS (st1 := []) ⟨hx, hb, hml, hown, hts⟩ (c_refuseUnlessBelow_ok u (by omega) (by omega)) (va_cwS 2 hts gX4_62_X4_refuseUnlessBelow rfl rfl rfl (by decide +kernel) ⟨Nat.le_of_ble_eq_true rfl, Nat.le_of_ble_eq_true rfl⟩) tm_Gok hK hP hD hA hG hS rfl hl.1 rfl rfl (Nat.le_of_ble_eq_true rfl) dX4_with_2 ⟨Nat.le_of_ble_eq_true rfl, Nat.le_of_ble_eq_true rfl⟩ (fun H locs hP hD hS => ?_)
  refine lv_iload_n hx hb dX4_with_5 rfl (lv_at hl 2 rfl) ?_
  refine lv_iconst (v := (nI 4)) hx hb dX4_with_6 (by decide) ?_
  refine kq_cS (st1 := []) ⟨hx, hb, hml, hown, hts⟩ (c_refuseUnlessBelow_ok u (by omega) (by omega)) (va_cwS 2 hts gX4_62_X4_refuseUnlessBelow rfl rfl rfl (by decide +kernel) ⟨Nat.le_of_ble_eq_true rfl, Nat.le_of_ble_eq_true rfl⟩) tm_Gok hK hP hD hA hG hS rfl hl.1 rfl rfl (Nat.le_of_ble_eq_true rfl) dX4_with_7 ⟨Nat.le_of_ble_eq_true rfl, Nat.le_of_ble_eq_true rfl⟩ (fun H locs hP hD hS => ?_)
  refine lv_aload_n hx hb dX4_with_10 rfl (lv_at hl 0 rfl) ?_
  refine kq_cV (st1 := []) ⟨hx, hb, hml, hown, hts⟩ (c_refuseWhenLost_ok u hnl) (cwV 0 hts gX4_66_X4_refuseWhenLost rfl rfl rfl (by decide +kernel) ⟨Nat.le_of_ble_eq_true rfl, Nat.le_of_ble_eq_true rfl⟩) tm_Gok hK hP hD hA hG hS (va_recv hK hP (ci := 4) (q0 := 0) rfl (tm_at (i := 0) (by omega) rfl)) rfl hl.1 rfl rfl (Nat.le_of_ble_eq_true rfl) dX4_with_11 ⟨Nat.le_of_ble_eq_true rfl, Nat.le_of_ble_eq_true rfl⟩ (fun H locs hP hD hS => ?_)
  refine lv_aload_n hx hb dX4_with_14 rfl (lv_at hl 0 rfl) ?_
  refine lv_iload_n hx hb dX4_with_15 rfl (lv_at hl 2 rfl) ?_
  refine kq_cV (st1 := [.ref (ad (i + 9))]) ⟨hx, hb, hml, hown, hts⟩ (c_heldKey_ok u (k := i) (by omega) hh) (cwV 1 hts gX4_81_X4_heldKey rfl rfl rfl (by decide +kernel) ⟨Nat.le_of_ble_eq_true rfl, Nat.le_of_ble_eq_true rfl⟩) tm_Gok hK hP hD hA hG hS (va_recv hK hP (ci := 4) (q0 := 0) rfl (tm_at (i := 0) (by omega) rfl)) rfl hl.1 rfl rfl (Nat.le_of_ble_eq_true rfl) dX4_with_16 ⟨Nat.le_of_ble_eq_true rfl, Nat.le_of_ble_eq_true rfl⟩ (fun H locs hP hD hS => ?_)
  refine lv_astore (lv' := [(4, .ref (ad (i + 9))), (0, .ref (ad 0)), (1, .int (nI j)), (2, .int (nI i)), (3, .int wd)]) hx hb dX4_with_19 hl (by decide) rfl (fun ls hl => ?_)
  refine lv_aload_n hx hb dX4_with_21 rfl (lv_at hl 1 rfl) ?_
  refine lv_aload hx hb dX4_with_22 (lv_at hl 0 rfl) ?_
  refine lv_iload_n hx hb dX4_with_24 rfl (lv_at hl 4 rfl) ?_
  exact kq_tV ⟨hx, hb, hml, hown, hts⟩ (c_allowByWord_no hl9 u (k := i) (by omega) wd hw hg he) (cwV 2 hts gX4_120_X4_allowByWord rfl rfl rfl (by decide +kernel) ⟨Nat.le_of_ble_eq_true rfl, Nat.le_of_ble_eq_true rfl⟩) tm_Gok hK hP hD hA hG hS (va_recv hK hP (ci := 4) (q0 := 0) rfl (tm_at (i := 0) (by omega) rfl)) rfl hl.1 rfl (Nat.le_of_ble_eq_true rfl) dX4_with_25 ⟨Nat.le_of_ble_eq_true rfl, Nat.le_of_ble_eq_true rfl⟩ hlk hEx (Nat.le_of_ble_eq_true rfl) (Nat.le_of_ble_eq_true rfl)
set_option maxHeartbeats 4000000 in
set_option maxRecDepth 100000 in
theorem m_define_b1 (hl9 : l.stackTraces = false) (u : tm_S) (x : Int32) (h : x < 0 ∨ nI 4 ≤ x) (co : Int32) (po : Int64)  : kc_T l dC dI gs ad cc yX4_define wsX4_define { frames := 8, cells := 1, slots := 6, locals := 125 } [.ref (ad 0), .int x, .int co, .long po] u u "java/lang/IllegalArgumentException" := by
  refine kq_ofT (cc := cX4_define) (maxL := 5) (ret := none) (R0 := RX4) (by decide) rfl rfl (Nat.le_of_ble_eq_true rfl) ?_
  intro p e s m below meth c A ls hx hb hr hlk hml hown hts hP hK hD hA hG hS hl hEx
  have hl : lv_has ls 5 [(0, .ref (ad 0)), (1, .int x), (2, .int co), (3, .long po)] := hl
  refine lv_iload_n hx hb dX4_define_0 rfl (lv_at hl 1 rfl) ?_
  refine lv_iconst (v := (nI 4)) hx hb dX4_define_1 (by decide) ?_
  exact kq_tS ⟨hx, hb, hml, hown, hts⟩ (c_refuseUnlessBelow_no hl9 u h (by omega) (by omega)) (va_cwS 2 hts gX4_62_X4_refuseUnlessBelow rfl rfl rfl (by decide +kernel) ⟨Nat.le_of_ble_eq_true rfl, Nat.le_of_ble_eq_true rfl⟩) tm_Gok hK hP hD hA hG hS rfl hl.1 rfl (Nat.le_of_ble_eq_true rfl) dX4_define_2 ⟨Nat.le_of_ble_eq_true rfl, Nat.le_of_ble_eq_true rfl⟩ hlk hEx (Nat.le_of_ble_eq_true rfl) (Nat.le_of_ble_eq_true rfl)
set_option maxHeartbeats 4000000 in
set_option maxRecDepth 100000 in
theorem m_define_lo (hl9 : l.stackTraces = false) (u : tm_S) {j : Nat} (hj : j < 4) (co : Int32) (po : Int64) (hlo : ¬ u.2.1 11 0 = 0)  : kc_T l dC dI gs ad cc yX4_define wsX4_define { frames := 8, cells := 1, slots := 6, locals := 125 } [.ref (ad 0), .int (nI j), .int co, .long po] u u "java/lang/IllegalStateException" := by
  refine kq_ofT (cc := cX4_define) (maxL := 5) (ret := none) (R0 := RX4) (by decide) rfl rfl (Nat.le_of_ble_eq_true rfl) ?_
  intro p e s m below meth c A ls hx hb hr hlk hml hown hts hP hK hD hA hG hS hl hEx
  have hl : lv_has ls 5 [(0, .ref (ad 0)), (1, .int (nI j)), (2, .int co), (3, .long po)] := hl
  refine lv_iload_n hx hb dX4_define_0 rfl (lv_at hl 1 rfl) ?_
  refine lv_iconst (v := (nI 4)) hx hb dX4_define_1 (by decide) ?_
  refine kq_cS (st1 := []) ⟨hx, hb, hml, hown, hts⟩ (c_refuseUnlessBelow_ok u (by omega) (by omega)) (va_cwS 2 hts gX4_62_X4_refuseUnlessBelow rfl rfl rfl (by decide +kernel) ⟨Nat.le_of_ble_eq_true rfl, Nat.le_of_ble_eq_true rfl⟩) tm_Gok hK hP hD hA hG hS rfl hl.1 rfl rfl (Nat.le_of_ble_eq_true rfl) dX4_define_2 ⟨Nat.le_of_ble_eq_true rfl, Nat.le_of_ble_eq_true rfl⟩ (fun H locs hP hD hS => ?_)
  refine lv_aload_n hx hb dX4_define_5 rfl (lv_at hl 0 rfl) ?_
  exact kq_tV ⟨hx, hb, hml, hown, hts⟩ (c_refuseWhenLost_no hl9 u hlo) (cwV 0 hts gX4_66_X4_refuseWhenLost rfl rfl rfl (by decide +kernel) ⟨Nat.le_of_ble_eq_true rfl, Nat.le_of_ble_eq_true rfl⟩) tm_Gok hK hP hD hA hG hS (va_recv hK hP (ci := 4) (q0 := 0) rfl (tm_at (i := 0) (by omega) rfl)) rfl hl.1 rfl (Nat.le_of_ble_eq_true rfl) dX4_define_6 ⟨Nat.le_of_ble_eq_true rfl, Nat.le_of_ble_eq_true rfl⟩ hlk hEx (Nat.le_of_ble_eq_true rfl) (Nat.le_of_ble_eq_true rfl)
set_option maxHeartbeats 4000000 in
set_option maxRecDepth 100000 in
theorem m_define_def (hl9 : l.stackTraces = false) (u : tm_S) {j : Nat} (hj : j < 4) (co : Int32) (po : Int64) (hnl : u.2.1 11 0 = 0) (hd : ¬ u.2.1 6 j = 0) : kc_T l dC dI gs ad cc yX4_define wsX4_define { frames := 8, cells := 1, slots := 6, locals := 125 } [.ref (ad 0), .int (nI j), .int co, .long po] u u "java/lang/IllegalStateException" := by
  refine kq_ofT (cc := cX4_define) (maxL := 5) (ret := none) (R0 := RX4) (by decide) rfl rfl (Nat.le_of_ble_eq_true rfl) ?_
  intro p e s m below meth c A ls hx hb hr hlk hml hown hts hP hK hD hA hG hS hl hEx
  have hl : lv_has ls 5 [(0, .ref (ad 0)), (1, .int (nI j)), (2, .int co), (3, .long po)] := hl
  refine lv_iload_n hx hb dX4_define_0 rfl (lv_at hl 1 rfl) ?_
  refine lv_iconst (v := (nI 4)) hx hb dX4_define_1 (by decide) ?_
  refine kq_cS (st1 := []) ⟨hx, hb, hml, hown, hts⟩ (c_refuseUnlessBelow_ok u (by omega) (by omega)) (va_cwS 2 hts gX4_62_X4_refuseUnlessBelow rfl rfl rfl (by decide +kernel) ⟨Nat.le_of_ble_eq_true rfl, Nat.le_of_ble_eq_true rfl⟩) tm_Gok hK hP hD hA hG hS rfl hl.1 rfl rfl (Nat.le_of_ble_eq_true rfl) dX4_define_2 ⟨Nat.le_of_ble_eq_true rfl, Nat.le_of_ble_eq_true rfl⟩ (fun H locs hP hD hS => ?_)
  refine lv_aload_n hx hb dX4_define_5 rfl (lv_at hl 0 rfl) ?_
  refine kq_cV (st1 := []) ⟨hx, hb, hml, hown, hts⟩ (c_refuseWhenLost_ok u hnl) (cwV 0 hts gX4_66_X4_refuseWhenLost rfl rfl rfl (by decide +kernel) ⟨Nat.le_of_ble_eq_true rfl, Nat.le_of_ble_eq_true rfl⟩) tm_Gok hK hP hD hA hG hS (va_recv hK hP (ci := 4) (q0 := 0) rfl (tm_at (i := 0) (by omega) rfl)) rfl hl.1 rfl rfl (Nat.le_of_ble_eq_true rfl) dX4_define_6 ⟨Nat.le_of_ble_eq_true rfl, Nat.le_of_ble_eq_true rfl⟩ (fun H locs hP hD hS => ?_)
  refine lv_aload_n hx hb dX4_define_9 rfl (lv_at hl 0 rfl) ?_
  refine tc_gT_indices hx hb hts inB_X4 hown hK hP (hts _ mb_150) dX4_define_10 ?_
  refine lv_iload_n hx hb dX4_define_13 rfl (lv_at hl 1 rfl) ?_
  refine tc_a_indices hx hb hK hP (by omega) dX4_define_14 ?_
  refine tc_gX_defined hx hb hts inB_X1 hown hK hP (by omega) (hts _ mb_108) dX4_define_15 ?_
  refine lv_if_eq (tgt := 31) hx hb dX4_define_18 (by decide) (fun c => absurd c hd) (fun _ => ?_)
  exact tw_174 (w := false) (is := 172) hts hl9 hx hb hown (tm_Gs hG 172 "the index is defined already" (by decide)) (hts _ mb_310) (hts _ mb_11) hG hS (by rw [hml]; exact hl.1) dX4_define_21 dX4_define_24 dX4_define_25 dX4_define_27 dX4_define_30 hEx (Nat.le_of_ble_eq_true rfl) (Nat.le_of_ble_eq_true rfl) (Nat.le_of_ble_eq_true rfl) (Nat.le_of_ble_eq_true rfl) hlk hP hD (Nat.le_of_ble_eq_true rfl) (Nat.le_of_ble_eq_true rfl)
set_option maxHeartbeats 4000000 in
set_option maxRecDepth 100000 in
theorem m_define_out (hl9 : l.stackTraces = false) (u : tm_S) {j : Nat} (hj : j < 4) (co : Int32) (po : Int64) (hnl : u.2.1 11 0 = 0) (hd : u.2.1 6 j = 0) (hq : ¬ u.2.1 10 0 = (-1)) (hq2 : ¬ nI 2 ≤ u.2.1 10 0)  : kc_T l dC dI gs ad cc yX4_define wsX4_define { frames := 8, cells := 1, slots := 6, locals := 125 } [.ref (ad 0), .int (nI j), .int co, .long po] u (tm_I (tm_I (tm_I u 10 0 (nI 0)) 11 0 (nI 1)) 12 0 ((u.2.1 12 0) + (nI 1))) "java/lang/IllegalStateException" := by
  refine kq_ofT (cc := cX4_define) (maxL := 5) (ret := none) (R0 := RX4) (by decide) rfl rfl (Nat.le_of_ble_eq_true rfl) ?_
  intro p e s m below meth c A ls hx hb hr hlk hml hown hts hP hK hD hA hG hS hl hEx
  have hl : lv_has ls 5 [(0, .ref (ad 0)), (1, .int (nI j)), (2, .int co), (3, .long po)] := hl
  refine lv_iload_n hx hb dX4_define_0 rfl (lv_at hl 1 rfl) ?_
  refine lv_iconst (v := (nI 4)) hx hb dX4_define_1 (by decide) ?_
  refine kq_cS (st1 := []) ⟨hx, hb, hml, hown, hts⟩ (c_refuseUnlessBelow_ok u (by omega) (by omega)) (va_cwS 2 hts gX4_62_X4_refuseUnlessBelow rfl rfl rfl (by decide +kernel) ⟨Nat.le_of_ble_eq_true rfl, Nat.le_of_ble_eq_true rfl⟩) tm_Gok hK hP hD hA hG hS rfl hl.1 rfl rfl (Nat.le_of_ble_eq_true rfl) dX4_define_2 ⟨Nat.le_of_ble_eq_true rfl, Nat.le_of_ble_eq_true rfl⟩ (fun H locs hP hD hS => ?_)
  refine lv_aload_n hx hb dX4_define_5 rfl (lv_at hl 0 rfl) ?_
  refine kq_cV (st1 := []) ⟨hx, hb, hml, hown, hts⟩ (c_refuseWhenLost_ok u hnl) (cwV 0 hts gX4_66_X4_refuseWhenLost rfl rfl rfl (by decide +kernel) ⟨Nat.le_of_ble_eq_true rfl, Nat.le_of_ble_eq_true rfl⟩) tm_Gok hK hP hD hA hG hS (va_recv hK hP (ci := 4) (q0 := 0) rfl (tm_at (i := 0) (by omega) rfl)) rfl hl.1 rfl rfl (Nat.le_of_ble_eq_true rfl) dX4_define_6 ⟨Nat.le_of_ble_eq_true rfl, Nat.le_of_ble_eq_true rfl⟩ (fun H locs hP hD hS => ?_)
  refine lv_aload_n hx hb dX4_define_9 rfl (lv_at hl 0 rfl) ?_
  refine tc_gT_indices hx hb hts inB_X4 hown hK hP (hts _ mb_150) dX4_define_10 ?_
  refine lv_iload_n hx hb dX4_define_13 rfl (lv_at hl 1 rfl) ?_
  refine tc_a_indices hx hb hK hP (by omega) dX4_define_14 ?_
  refine tc_gX_defined hx hb hts inB_X1 hown hK hP (by omega) (hts _ mb_108) dX4_define_15 ?_
  refine lv_if_eq (tgt := 31) hx hb dX4_define_18 (by decide) (fun _ => ?_) (fun c => absurd hd c)
  refine lv_aload_n hx hb dX4_define_31 rfl (lv_at hl 0 rfl) ?_
  refine lv_iconst (v := (nI 2)) hx hb dX4_define_32 (by decide) ?_
  exact kq_tV ⟨hx, hb, hml, hown, hts⟩ (c_useParts_no hl9 u (nI 2) hq hq2) (cwV 1 hts gX4_175_X4_useParts rfl rfl rfl (by decide +kernel) ⟨Nat.le_of_ble_eq_true rfl, Nat.le_of_ble_eq_true rfl⟩) tm_Gok hK hP hD hA hG hS (va_recv hK hP (ci := 4) (q0 := 0) rfl (tm_at (i := 0) (by omega) rfl)) rfl hl.1 rfl (Nat.le_of_ble_eq_true rfl) dX4_define_33 ⟨Nat.le_of_ble_eq_true rfl, Nat.le_of_ble_eq_true rfl⟩ hlk hEx (Nat.le_of_ble_eq_true rfl) (Nat.le_of_ble_eq_true rfl)
set_option maxHeartbeats 4000000 in
set_option maxRecDepth 100000 in
theorem m_define_ok (u : tm_S) {j : Nat} (hj : j < 4) (co : Int32) (po : Int64) (hco : co = nI 0 ∨ co = nI 1) (hnl : u.2.1 11 0 = 0) (hd : u.2.1 6 j = 0) (pr : Int32) (hq : tm_fit (u.2.1 10 0) (nI 2) pr)  : kc_M l dC dI gs ad cc yX4_define wsX4_define { frames := 8, cells := 0, slots := 0, locals := 125 } [.ref (ad 0), .int (nI j), .int co, .long po] u (tm_L (tm_I (tm_L (tm_I (tm_I (tm_I u 10 0 pr) 6 j (nI 1)) 7 j co) 7 j po) 8 j (nI 0)) 8 j 0) none := by
  refine kq_ofW (cc := cX4_define) (maxL := 5) (ret := none) (R0 := RX4) (by decide) rfl rfl (Nat.le_of_ble_eq_true rfl) ?_
  intro p e s m below meth c A ls hx hb hr hlk hml hown hts hP hK hD hA hG hS hl
  have hl : lv_has ls 5 [(0, .ref (ad 0)), (1, .int (nI j)), (2, .int co), (3, .long po)] := hl
  refine lv_iload_n hx hb dX4_define_0 rfl (lv_at hl 1 rfl) ?_
  refine lv_iconst (v := (nI 4)) hx hb dX4_define_1 (by decide) ?_
  refine kq_cS (st1 := []) ⟨hx, hb, hml, hown, hts⟩ (c_refuseUnlessBelow_ok u (by omega) (by omega)) (va_cwS 2 hts gX4_62_X4_refuseUnlessBelow rfl rfl rfl (by decide +kernel) ⟨Nat.le_of_ble_eq_true rfl, Nat.le_of_ble_eq_true rfl⟩) tm_Gok hK hP hD hA hG hS rfl hl.1 rfl rfl (Nat.le_of_ble_eq_true rfl) dX4_define_2 ⟨Nat.le_of_ble_eq_true rfl, Nat.le_of_ble_eq_true rfl⟩ (fun H locs hP hD hS => ?_)
  refine lv_aload_n hx hb dX4_define_5 rfl (lv_at hl 0 rfl) ?_
  refine kq_cV (st1 := []) ⟨hx, hb, hml, hown, hts⟩ (c_refuseWhenLost_ok u hnl) (cwV 0 hts gX4_66_X4_refuseWhenLost rfl rfl rfl (by decide +kernel) ⟨Nat.le_of_ble_eq_true rfl, Nat.le_of_ble_eq_true rfl⟩) tm_Gok hK hP hD hA hG hS (va_recv hK hP (ci := 4) (q0 := 0) rfl (tm_at (i := 0) (by omega) rfl)) rfl hl.1 rfl rfl (Nat.le_of_ble_eq_true rfl) dX4_define_6 ⟨Nat.le_of_ble_eq_true rfl, Nat.le_of_ble_eq_true rfl⟩ (fun H locs hP hD hS => ?_)
  refine lv_aload_n hx hb dX4_define_9 rfl (lv_at hl 0 rfl) ?_
  refine tc_gT_indices hx hb hts inB_X4 hown hK hP (hts _ mb_150) dX4_define_10 ?_
  refine lv_iload_n hx hb dX4_define_13 rfl (lv_at hl 1 rfl) ?_
  refine tc_a_indices hx hb hK hP (by omega) dX4_define_14 ?_
  refine tc_gX_defined hx hb hts inB_X1 hown hK hP (by omega) (hts _ mb_108) dX4_define_15 ?_
  refine lv_if_eq (tgt := 31) hx hb dX4_define_18 (by decide) (fun _ => ?_) (fun c => absurd hd c)
  refine lv_aload_n hx hb dX4_define_31 rfl (lv_at hl 0 rfl) ?_
  refine lv_iconst (v := (nI 2)) hx hb dX4_define_32 (by decide) ?_
  refine kq_cV (st1 := []) ⟨hx, hb, hml, hown, hts⟩ (c_useParts_fit u (nI 2) pr hq) (cwV 1 hts gX4_175_X4_useParts rfl rfl rfl (by decide +kernel) ⟨Nat.le_of_ble_eq_true rfl, Nat.le_of_ble_eq_true rfl⟩) tm_Gok hK hP hD hA hG hS (va_recv hK hP (ci := 4) (q0 := 0) rfl (tm_at (i := 0) (by omega) rfl)) rfl hl.1 rfl rfl (Nat.le_of_ble_eq_true rfl) dX4_define_33 ⟨Nat.le_of_ble_eq_true rfl, Nat.le_of_ble_eq_true rfl⟩ (fun H locs hP hD hS => ?_)
  refine lv_aload_n hx hb dX4_define_36 rfl (lv_at hl 0 rfl) ?_
  refine tc_gT_indices hx hb hts inB_X4 hown hK hP (hts _ mb_150) dX4_define_37 ?_
  refine lv_iload_n hx hb dX4_define_40 rfl (lv_at hl 1 rfl) ?_
  refine tc_a_indices hx hb hK hP (by omega) dX4_define_41 ?_
  refine lv_iload_n hx hb dX4_define_42 rfl (lv_at hl 2 rfl) ?_
  refine lv_lload_n hx hb dX4_define_43 rfl (lv_at hl 3 rfl) ?_
  refine kq_cV (st1 := []) ⟨hx, hb, hml, hown, hts⟩ (c_begin (tm_I u 10 0 pr) (k := j) (by omega) co po hco) (cwV 2 hts gX4_178_X1_begin rfl rfl rfl (by decide +kernel) ⟨Nat.le_of_ble_eq_true rfl, Nat.le_of_ble_eq_true rfl⟩) tm_Gok hK hP hD hA hG hS (va_recv hK hP (ci := 1) (q0 := j + 32) rfl (tm_at (i := j + 32) (by omega) tc_X)) rfl hl.1 rfl rfl (Nat.le_of_ble_eq_true rfl) dX4_define_44 ⟨Nat.le_of_ble_eq_true rfl, Nat.le_of_ble_eq_true rfl⟩ (fun H locs hP hD hS => ?_)
  exact kq_vret hx hb hr hlk hP hD hS dX4_define_47
set_option maxHeartbeats 4000000 in
set_option maxRecDepth 100000 in
theorem m_remove_b1 (hl9 : l.stackTraces = false) (u : tm_S) (x : Int32) (h : x < 0 ∨ nI 4 ≤ x)  : kc_T l dC dI gs ad cc yX4_remove wsX4_remove { frames := 8, cells := 1, slots := 6, locals := 125 } [.ref (ad 0), .int x] u u "java/lang/IllegalArgumentException" := by
  refine kq_ofT (cc := cX4_remove) (maxL := 3) (ret := none) (R0 := RX4) (by decide) rfl rfl (Nat.le_of_ble_eq_true rfl) ?_
  intro p e s m below meth c A ls hx hb hr hlk hml hown hts hP hK hD hA hG hS hl hEx
  have hl : lv_has ls 3 [(0, .ref (ad 0)), (1, .int x)] := hl
  refine lv_iload_n hx hb dX4_remove_0 rfl (lv_at hl 1 rfl) ?_
  refine lv_iconst (v := (nI 4)) hx hb dX4_remove_1 (by decide) ?_
  exact kq_tS ⟨hx, hb, hml, hown, hts⟩ (c_refuseUnlessBelow_no hl9 u h (by omega) (by omega)) (va_cwS 2 hts gX4_62_X4_refuseUnlessBelow rfl rfl rfl (by decide +kernel) ⟨Nat.le_of_ble_eq_true rfl, Nat.le_of_ble_eq_true rfl⟩) tm_Gok hK hP hD hA hG hS rfl hl.1 rfl (Nat.le_of_ble_eq_true rfl) dX4_remove_2 ⟨Nat.le_of_ble_eq_true rfl, Nat.le_of_ble_eq_true rfl⟩ hlk hEx (Nat.le_of_ble_eq_true rfl) (Nat.le_of_ble_eq_true rfl)
set_option maxHeartbeats 4000000 in
set_option maxRecDepth 100000 in
theorem m_remove_lo (hl9 : l.stackTraces = false) (u : tm_S) {j : Nat} (hj : j < 4) (hlo : ¬ u.2.1 11 0 = 0)  : kc_T l dC dI gs ad cc yX4_remove wsX4_remove { frames := 8, cells := 1, slots := 6, locals := 125 } [.ref (ad 0), .int (nI j)] u u "java/lang/IllegalStateException" := by
  refine kq_ofT (cc := cX4_remove) (maxL := 3) (ret := none) (R0 := RX4) (by decide) rfl rfl (Nat.le_of_ble_eq_true rfl) ?_
  intro p e s m below meth c A ls hx hb hr hlk hml hown hts hP hK hD hA hG hS hl hEx
  have hl : lv_has ls 3 [(0, .ref (ad 0)), (1, .int (nI j))] := hl
  refine lv_iload_n hx hb dX4_remove_0 rfl (lv_at hl 1 rfl) ?_
  refine lv_iconst (v := (nI 4)) hx hb dX4_remove_1 (by decide) ?_
  refine kq_cS (st1 := []) ⟨hx, hb, hml, hown, hts⟩ (c_refuseUnlessBelow_ok u (by omega) (by omega)) (va_cwS 2 hts gX4_62_X4_refuseUnlessBelow rfl rfl rfl (by decide +kernel) ⟨Nat.le_of_ble_eq_true rfl, Nat.le_of_ble_eq_true rfl⟩) tm_Gok hK hP hD hA hG hS rfl hl.1 rfl rfl (Nat.le_of_ble_eq_true rfl) dX4_remove_2 ⟨Nat.le_of_ble_eq_true rfl, Nat.le_of_ble_eq_true rfl⟩ (fun H locs hP hD hS => ?_)
  refine lv_aload_n hx hb dX4_remove_5 rfl (lv_at hl 0 rfl) ?_
  exact kq_tV ⟨hx, hb, hml, hown, hts⟩ (c_refuseWhenLost_no hl9 u hlo) (cwV 0 hts gX4_66_X4_refuseWhenLost rfl rfl rfl (by decide +kernel) ⟨Nat.le_of_ble_eq_true rfl, Nat.le_of_ble_eq_true rfl⟩) tm_Gok hK hP hD hA hG hS (va_recv hK hP (ci := 4) (q0 := 0) rfl (tm_at (i := 0) (by omega) rfl)) rfl hl.1 rfl (Nat.le_of_ble_eq_true rfl) dX4_remove_6 ⟨Nat.le_of_ble_eq_true rfl, Nat.le_of_ble_eq_true rfl⟩ hlk hEx (Nat.le_of_ble_eq_true rfl) (Nat.le_of_ble_eq_true rfl)
set_option maxHeartbeats 4000000 in
set_option maxRecDepth 100000 in
theorem m_remove_und (hl9 : l.stackTraces = false) (u : tm_S) {j : Nat} (hj : j < 4) (hnl : u.2.1 11 0 = 0) (hd : u.2.1 6 j = 0) : kc_T l dC dI gs ad cc yX4_remove wsX4_remove { frames := 8, cells := 1, slots := 6, locals := 125 } [.ref (ad 0), .int (nI j)] u u "java/util/NoSuchElementException" := by
  refine kq_ofT (cc := cX4_remove) (maxL := 3) (ret := none) (R0 := RX4) (by decide) rfl rfl (Nat.le_of_ble_eq_true rfl) ?_
  intro p e s m below meth c A ls hx hb hr hlk hml hown hts hP hK hD hA hG hS hl hEx
  have hl : lv_has ls 3 [(0, .ref (ad 0)), (1, .int (nI j))] := hl
  refine lv_iload_n hx hb dX4_remove_0 rfl (lv_at hl 1 rfl) ?_
  refine lv_iconst (v := (nI 4)) hx hb dX4_remove_1 (by decide) ?_
  refine kq_cS (st1 := []) ⟨hx, hb, hml, hown, hts⟩ (c_refuseUnlessBelow_ok u (by omega) (by omega)) (va_cwS 2 hts gX4_62_X4_refuseUnlessBelow rfl rfl rfl (by decide +kernel) ⟨Nat.le_of_ble_eq_true rfl, Nat.le_of_ble_eq_true rfl⟩) tm_Gok hK hP hD hA hG hS rfl hl.1 rfl rfl (Nat.le_of_ble_eq_true rfl) dX4_remove_2 ⟨Nat.le_of_ble_eq_true rfl, Nat.le_of_ble_eq_true rfl⟩ (fun H locs hP hD hS => ?_)
  refine lv_aload_n hx hb dX4_remove_5 rfl (lv_at hl 0 rfl) ?_
  refine kq_cV (st1 := []) ⟨hx, hb, hml, hown, hts⟩ (c_refuseWhenLost_ok u hnl) (cwV 0 hts gX4_66_X4_refuseWhenLost rfl rfl rfl (by decide +kernel) ⟨Nat.le_of_ble_eq_true rfl, Nat.le_of_ble_eq_true rfl⟩) tm_Gok hK hP hD hA hG hS (va_recv hK hP (ci := 4) (q0 := 0) rfl (tm_at (i := 0) (by omega) rfl)) rfl hl.1 rfl rfl (Nat.le_of_ble_eq_true rfl) dX4_remove_6 ⟨Nat.le_of_ble_eq_true rfl, Nat.le_of_ble_eq_true rfl⟩ (fun H locs hP hD hS => ?_)
  refine lv_aload_n hx hb dX4_remove_9 rfl (lv_at hl 0 rfl) ?_
  refine lv_iload_n hx hb dX4_remove_10 rfl (lv_at hl 1 rfl) ?_
  exact kq_tV ⟨hx, hb, hml, hown, hts⟩ (c_definedIndex_no hl9 u (k := j) (by omega) hd) (cwV 1 hts gX4_182_X4_definedIndex rfl rfl rfl (by decide +kernel) ⟨Nat.le_of_ble_eq_true rfl, Nat.le_of_ble_eq_true rfl⟩) tm_Gok hK hP hD hA hG hS (va_recv hK hP (ci := 4) (q0 := 0) rfl (tm_at (i := 0) (by omega) rfl)) rfl hl.1 rfl (Nat.le_of_ble_eq_true rfl) dX4_remove_11 ⟨Nat.le_of_ble_eq_true rfl, Nat.le_of_ble_eq_true rfl⟩ hlk hEx (Nat.le_of_ble_eq_true rfl) (Nat.le_of_ble_eq_true rfl)
set_option maxHeartbeats 4000000 in
set_option maxRecDepth 100000 in
theorem m_remove_out (hl9 : l.stackTraces = false) (u : tm_S) {j : Nat} (hj : j < 4) (hnl : u.2.1 11 0 = 0) (hd : ¬ u.2.1 6 j = 0) (hq : ¬ u.2.1 10 0 = (-1)) (hq2 : ¬ nI 2 ≤ u.2.1 10 0)  : kc_T l dC dI gs ad cc yX4_remove wsX4_remove { frames := 8, cells := 1, slots := 6, locals := 125 } [.ref (ad 0), .int (nI j)] u (tm_I (tm_I (tm_I u 10 0 (nI 0)) 11 0 (nI 1)) 12 0 ((u.2.1 12 0) + (nI 1))) "java/lang/IllegalStateException" := by
  refine kq_ofT (cc := cX4_remove) (maxL := 3) (ret := none) (R0 := RX4) (by decide) rfl rfl (Nat.le_of_ble_eq_true rfl) ?_
  intro p e s m below meth c A ls hx hb hr hlk hml hown hts hP hK hD hA hG hS hl hEx
  have hl : lv_has ls 3 [(0, .ref (ad 0)), (1, .int (nI j))] := hl
  refine lv_iload_n hx hb dX4_remove_0 rfl (lv_at hl 1 rfl) ?_
  refine lv_iconst (v := (nI 4)) hx hb dX4_remove_1 (by decide) ?_
  refine kq_cS (st1 := []) ⟨hx, hb, hml, hown, hts⟩ (c_refuseUnlessBelow_ok u (by omega) (by omega)) (va_cwS 2 hts gX4_62_X4_refuseUnlessBelow rfl rfl rfl (by decide +kernel) ⟨Nat.le_of_ble_eq_true rfl, Nat.le_of_ble_eq_true rfl⟩) tm_Gok hK hP hD hA hG hS rfl hl.1 rfl rfl (Nat.le_of_ble_eq_true rfl) dX4_remove_2 ⟨Nat.le_of_ble_eq_true rfl, Nat.le_of_ble_eq_true rfl⟩ (fun H locs hP hD hS => ?_)
  refine lv_aload_n hx hb dX4_remove_5 rfl (lv_at hl 0 rfl) ?_
  refine kq_cV (st1 := []) ⟨hx, hb, hml, hown, hts⟩ (c_refuseWhenLost_ok u hnl) (cwV 0 hts gX4_66_X4_refuseWhenLost rfl rfl rfl (by decide +kernel) ⟨Nat.le_of_ble_eq_true rfl, Nat.le_of_ble_eq_true rfl⟩) tm_Gok hK hP hD hA hG hS (va_recv hK hP (ci := 4) (q0 := 0) rfl (tm_at (i := 0) (by omega) rfl)) rfl hl.1 rfl rfl (Nat.le_of_ble_eq_true rfl) dX4_remove_6 ⟨Nat.le_of_ble_eq_true rfl, Nat.le_of_ble_eq_true rfl⟩ (fun H locs hP hD hS => ?_)
  refine lv_aload_n hx hb dX4_remove_9 rfl (lv_at hl 0 rfl) ?_
  refine lv_iload_n hx hb dX4_remove_10 rfl (lv_at hl 1 rfl) ?_
  refine kq_cV (st1 := [.ref (ad (j + 32))]) ⟨hx, hb, hml, hown, hts⟩ (c_definedIndex_ok u (k := j) (by omega) hd) (cwV 1 hts gX4_182_X4_definedIndex rfl rfl rfl (by decide +kernel) ⟨Nat.le_of_ble_eq_true rfl, Nat.le_of_ble_eq_true rfl⟩) tm_Gok hK hP hD hA hG hS (va_recv hK hP (ci := 4) (q0 := 0) rfl (tm_at (i := 0) (by omega) rfl)) rfl hl.1 rfl rfl (Nat.le_of_ble_eq_true rfl) dX4_remove_11 ⟨Nat.le_of_ble_eq_true rfl, Nat.le_of_ble_eq_true rfl⟩ (fun H locs hP hD hS => ?_)
  refine lv_astore_n (lv' := [(2, .ref (ad (j + 32))), (0, .ref (ad 0)), (1, .int (nI j))]) hx hb dX4_remove_14 rfl hl (by decide) rfl (fun ls hl => ?_)
  refine lv_aload_n hx hb dX4_remove_15 rfl (lv_at hl 1 rfl) ?_
  refine lv_iconst (v := (nI 2)) hx hb dX4_remove_16 (by decide) ?_
  exact kq_tV ⟨hx, hb, hml, hown, hts⟩ (c_useParts_no hl9 u (nI 2) hq hq2) (cwV 1 hts gX4_175_X4_useParts rfl rfl rfl (by decide +kernel) ⟨Nat.le_of_ble_eq_true rfl, Nat.le_of_ble_eq_true rfl⟩) tm_Gok hK hP hD hA hG hS (va_recv hK hP (ci := 4) (q0 := 0) rfl (tm_at (i := 0) (by omega) rfl)) rfl hl.1 rfl (Nat.le_of_ble_eq_true rfl) dX4_remove_17 ⟨Nat.le_of_ble_eq_true rfl, Nat.le_of_ble_eq_true rfl⟩ hlk hEx (Nat.le_of_ble_eq_true rfl) (Nat.le_of_ble_eq_true rfl)
set_option maxHeartbeats 4000000 in
set_option maxRecDepth 100000 in
theorem m_remove_ok (u : tm_S) {j : Nat} (hj : j < 4) (hnl : u.2.1 11 0 = 0) (hd : ¬ u.2.1 6 j = 0) (pr : Int32) (hq : tm_fit (u.2.1 10 0) (nI 2) pr)  : kc_M l dC dI gs ad cc yX4_remove wsX4_remove { frames := 8, cells := 0, slots := 0, locals := 125 } [.ref (ad 0), .int (nI j)] u (tm_I (tm_I u 10 0 pr) 6 j (nI 0)) none := by
  refine kq_ofW (cc := cX4_remove) (maxL := 3) (ret := none) (R0 := RX4) (by decide) rfl rfl (Nat.le_of_ble_eq_true rfl) ?_
  intro p e s m below meth c A ls hx hb hr hlk hml hown hts hP hK hD hA hG hS hl
  have hl : lv_has ls 3 [(0, .ref (ad 0)), (1, .int (nI j))] := hl
  refine lv_iload_n hx hb dX4_remove_0 rfl (lv_at hl 1 rfl) ?_
  refine lv_iconst (v := (nI 4)) hx hb dX4_remove_1 (by decide) ?_
  refine kq_cS (st1 := []) ⟨hx, hb, hml, hown, hts⟩ (c_refuseUnlessBelow_ok u (by omega) (by omega)) (va_cwS 2 hts gX4_62_X4_refuseUnlessBelow rfl rfl rfl (by decide +kernel) ⟨Nat.le_of_ble_eq_true rfl, Nat.le_of_ble_eq_true rfl⟩) tm_Gok hK hP hD hA hG hS rfl hl.1 rfl rfl (Nat.le_of_ble_eq_true rfl) dX4_remove_2 ⟨Nat.le_of_ble_eq_true rfl, Nat.le_of_ble_eq_true rfl⟩ (fun H locs hP hD hS => ?_)
  refine lv_aload_n hx hb dX4_remove_5 rfl (lv_at hl 0 rfl) ?_
  refine kq_cV (st1 := []) ⟨hx, hb, hml, hown, hts⟩ (c_refuseWhenLost_ok u hnl) (cwV 0 hts gX4_66_X4_refuseWhenLost rfl rfl rfl (by decide +kernel) ⟨Nat.le_of_ble_eq_true rfl, Nat.le_of_ble_eq_true rfl⟩) tm_Gok hK hP hD hA hG hS (va_recv hK hP (ci := 4) (q0 := 0) rfl (tm_at (i := 0) (by omega) rfl)) rfl hl.1 rfl rfl (Nat.le_of_ble_eq_true rfl) dX4_remove_6 ⟨Nat.le_of_ble_eq_true rfl, Nat.le_of_ble_eq_true rfl⟩ (fun H locs hP hD hS => ?_)
  refine lv_aload_n hx hb dX4_remove_9 rfl (lv_at hl 0 rfl) ?_
  refine lv_iload_n hx hb dX4_remove_10 rfl (lv_at hl 1 rfl) ?_
  refine kq_cV (st1 := [.ref (ad (j + 32))]) ⟨hx, hb, hml, hown, hts⟩ (c_definedIndex_ok u (k := j) (by omega) hd) (cwV 1 hts gX4_182_X4_definedIndex rfl rfl rfl (by decide +kernel) ⟨Nat.le_of_ble_eq_true rfl, Nat.le_of_ble_eq_true rfl⟩) tm_Gok hK hP hD hA hG hS (va_recv hK hP (ci := 4) (q0 := 0) rfl (tm_at (i := 0) (by omega) rfl)) rfl hl.1 rfl rfl (Nat.le_of_ble_eq_true rfl) dX4_remove_11 ⟨Nat.le_of_ble_eq_true rfl, Nat.le_of_ble_eq_true rfl⟩ (fun H locs hP hD hS => ?_)
  refine lv_astore_n (lv' := [(2, .ref (ad (j + 32))), (0, .ref (ad 0)), (1, .int (nI j))]) hx hb dX4_remove_14 rfl hl (by decide) rfl (fun ls hl => ?_)
  refine lv_aload_n hx hb dX4_remove_15 rfl (lv_at hl 1 rfl) ?_
  refine lv_iconst (v := (nI 2)) hx hb dX4_remove_16 (by decide) ?_
  refine kq_cV (st1 := []) ⟨hx, hb, hml, hown, hts⟩ (c_useParts_fit u (nI 2) pr hq) (cwV 1 hts gX4_175_X4_useParts rfl rfl rfl (by decide +kernel) ⟨Nat.le_of_ble_eq_true rfl, Nat.le_of_ble_eq_true rfl⟩) tm_Gok hK hP hD hA hG hS (va_recv hK hP (ci := 4) (q0 := 0) rfl (tm_at (i := 0) (by omega) rfl)) rfl hl.1 rfl rfl (Nat.le_of_ble_eq_true rfl) dX4_remove_17 ⟨Nat.le_of_ble_eq_true rfl, Nat.le_of_ble_eq_true rfl⟩ (fun H locs hP hD hS => ?_)
  refine lv_aload_n hx hb dX4_remove_20 rfl (lv_at hl 0 rfl) ?_
  refine lv_iconst (v := (nI 0)) hx hb dX4_remove_21 (by decide) ?_
  refine tc_pX_defined hx hb hts inB_X1 hown hK hP hD hS (by omega) (by first | rfl | decide) (by first | rfl | decide) (hts _ mb_108) dX4_remove_22 (fun H locs hP hD hS => ?_)
  exact kq_vret hx hb hr hlk hP hD hS dX4_remove_25
set_option maxHeartbeats 4000000 in
set_option maxRecDepth 100000 in
theorem m_write_b1 (hl9 : l.stackTraces = false) (u : tm_S) (x : Int32) (h : x < 0 ∨ nI 4 ≤ x) (i : Int32) (v : Int64) : kc_T l dC dI gs ad cc yX4_write wsX4_write { frames := 8, cells := 1, slots := 6, locals := 125 } [.ref (ad 0), .int x, .int i, .long v] u u "java/lang/IllegalArgumentException" := by
  refine kq_ofT (cc := cX4_write) (maxL := 6) (ret := (some .long)) (R0 := RX4) (by decide) rfl rfl (Nat.le_of_ble_eq_true rfl) ?_
  intro p e s m below meth c A ls hx hb hr hlk hml hown hts hP hK hD hA hG hS hl hEx
  have hl : lv_has ls 6 [(0, .ref (ad 0)), (1, .int x), (2, .int i), (3, .long v)] := hl
  refine lv_iload_n hx hb dX4_write_0 rfl (lv_at hl 1 rfl) ?_
  refine lv_iconst (v := (nI 4)) hx hb dX4_write_1 (by decide) ?_
  exact kq_tS ⟨hx, hb, hml, hown, hts⟩ (c_refuseUnlessBelow_no hl9 u h (by omega) (by omega)) (va_cwS 2 hts gX4_62_X4_refuseUnlessBelow rfl rfl rfl (by decide +kernel) ⟨Nat.le_of_ble_eq_true rfl, Nat.le_of_ble_eq_true rfl⟩) tm_Gok hK hP hD hA hG hS rfl hl.1 rfl (Nat.le_of_ble_eq_true rfl) dX4_write_2 ⟨Nat.le_of_ble_eq_true rfl, Nat.le_of_ble_eq_true rfl⟩ hlk hEx (Nat.le_of_ble_eq_true rfl) (Nat.le_of_ble_eq_true rfl)
set_option maxHeartbeats 4000000 in
set_option maxRecDepth 100000 in
theorem m_write_b2 (hl9 : l.stackTraces = false) (u : tm_S) {j : Nat} (hj : j < 4) (x : Int32) (h : x < 0 ∨ nI 3 ≤ x) (v : Int64) : kc_T l dC dI gs ad cc yX4_write wsX4_write { frames := 8, cells := 1, slots := 6, locals := 125 } [.ref (ad 0), .int (nI j), .int x, .long v] u u "java/lang/IllegalArgumentException" := by
  refine kq_ofT (cc := cX4_write) (maxL := 6) (ret := (some .long)) (R0 := RX4) (by decide) rfl rfl (Nat.le_of_ble_eq_true rfl) ?_
  intro p e s m below meth c A ls hx hb hr hlk hml hown hts hP hK hD hA hG hS hl hEx
  have hl : lv_has ls 6 [(0, .ref (ad 0)), (1, .int (nI j)), (2, .int x), (3, .long v)] := hl
  refine lv_iload_n hx hb dX4_write_0 rfl (lv_at hl 1 rfl) ?_
  refine lv_iconst (v := (nI 4)) hx hb dX4_write_1 (by decide) ?_
  refine kq_cS (st1 := []) ⟨hx, hb, hml, hown, hts⟩ (c_refuseUnlessBelow_ok u (by omega) (by omega)) (va_cwS 2 hts gX4_62_X4_refuseUnlessBelow rfl rfl rfl (by decide +kernel) ⟨Nat.le_of_ble_eq_true rfl, Nat.le_of_ble_eq_true rfl⟩) tm_Gok hK hP hD hA hG hS rfl hl.1 rfl rfl (Nat.le_of_ble_eq_true rfl) dX4_write_2 ⟨Nat.le_of_ble_eq_true rfl, Nat.le_of_ble_eq_true rfl⟩ (fun H locs hP hD hS => ?_)
  refine lv_iload_n hx hb dX4_write_5 rfl (lv_at hl 2 rfl) ?_
  refine lv_iconst (v := (nI 3)) hx hb dX4_write_6 (by decide) ?_
  exact kq_tS ⟨hx, hb, hml, hown, hts⟩ (c_refuseUnlessBelow_no hl9 u h (by omega) (by omega)) (va_cwS 2 hts gX4_62_X4_refuseUnlessBelow rfl rfl rfl (by decide +kernel) ⟨Nat.le_of_ble_eq_true rfl, Nat.le_of_ble_eq_true rfl⟩) tm_Gok hK hP hD hA hG hS rfl hl.1 rfl (Nat.le_of_ble_eq_true rfl) dX4_write_7 ⟨Nat.le_of_ble_eq_true rfl, Nat.le_of_ble_eq_true rfl⟩ hlk hEx (Nat.le_of_ble_eq_true rfl) (Nat.le_of_ble_eq_true rfl)
set_option maxHeartbeats 4000000 in
set_option maxRecDepth 100000 in
theorem m_write_lo (hl9 : l.stackTraces = false) (u : tm_S) {j i : Nat} (hj : j < 4) (hi : i < 3) (v : Int64) (hlo : ¬ u.2.1 11 0 = 0)  : kc_T l dC dI gs ad cc yX4_write wsX4_write { frames := 8, cells := 1, slots := 6, locals := 125 } [.ref (ad 0), .int (nI j), .int (nI i), .long v] u u "java/lang/IllegalStateException" := by
  refine kq_ofT (cc := cX4_write) (maxL := 6) (ret := (some .long)) (R0 := RX4) (by decide) rfl rfl (Nat.le_of_ble_eq_true rfl) ?_
  intro p e s m below meth c A ls hx hb hr hlk hml hown hts hP hK hD hA hG hS hl hEx
  have hl : lv_has ls 6 [(0, .ref (ad 0)), (1, .int (nI j)), (2, .int (nI i)), (3, .long v)] := hl
  refine lv_iload_n hx hb dX4_write_0 rfl (lv_at hl 1 rfl) ?_
  refine lv_iconst (v := (nI 4)) hx hb dX4_write_1 (by decide) ?_
  refine kq_cS (st1 := []) ⟨hx, hb, hml, hown, hts⟩ (c_refuseUnlessBelow_ok u (by omega) (by omega)) (va_cwS 2 hts gX4_62_X4_refuseUnlessBelow rfl rfl rfl (by decide +kernel) ⟨Nat.le_of_ble_eq_true rfl, Nat.le_of_ble_eq_true rfl⟩) tm_Gok hK hP hD hA hG hS rfl hl.1 rfl rfl (Nat.le_of_ble_eq_true rfl) dX4_write_2 ⟨Nat.le_of_ble_eq_true rfl, Nat.le_of_ble_eq_true rfl⟩ (fun H locs hP hD hS => ?_)
  refine lv_iload_n hx hb dX4_write_5 rfl (lv_at hl 2 rfl) ?_
  refine lv_iconst (v := (nI 3)) hx hb dX4_write_6 (by decide) ?_
  refine kq_cS (st1 := []) ⟨hx, hb, hml, hown, hts⟩ (c_refuseUnlessBelow_ok u (by omega) (by omega)) (va_cwS 2 hts gX4_62_X4_refuseUnlessBelow rfl rfl rfl (by decide +kernel) ⟨Nat.le_of_ble_eq_true rfl, Nat.le_of_ble_eq_true rfl⟩) tm_Gok hK hP hD hA hG hS rfl hl.1 rfl rfl (Nat.le_of_ble_eq_true rfl) dX4_write_7 ⟨Nat.le_of_ble_eq_true rfl, Nat.le_of_ble_eq_true rfl⟩ (fun H locs hP hD hS => ?_)
  refine lv_aload_n hx hb dX4_write_10 rfl (lv_at hl 0 rfl) ?_
  exact kq_tV ⟨hx, hb, hml, hown, hts⟩ (c_refuseWhenLost_no hl9 u hlo) (cwV 0 hts gX4_66_X4_refuseWhenLost rfl rfl rfl (by decide +kernel) ⟨Nat.le_of_ble_eq_true rfl, Nat.le_of_ble_eq_true rfl⟩) tm_Gok hK hP hD hA hG hS (va_recv hK hP (ci := 4) (q0 := 0) rfl (tm_at (i := 0) (by omega) rfl)) rfl hl.1 rfl (Nat.le_of_ble_eq_true rfl) dX4_write_11 ⟨Nat.le_of_ble_eq_true rfl, Nat.le_of_ble_eq_true rfl⟩ hlk hEx (Nat.le_of_ble_eq_true rfl) (Nat.le_of_ble_eq_true rfl)
set_option maxHeartbeats 4000000 in
set_option maxRecDepth 100000 in
theorem m_write_und (hl9 : l.stackTraces = false) (u : tm_S) {j i : Nat} (hj : j < 4) (hi : i < 3) (v : Int64) (hnl : u.2.1 11 0 = 0) (hd : u.2.1 6 j = 0) : kc_T l dC dI gs ad cc yX4_write wsX4_write { frames := 8, cells := 1, slots := 6, locals := 125 } [.ref (ad 0), .int (nI j), .int (nI i), .long v] u u "java/util/NoSuchElementException" := by
  refine kq_ofT (cc := cX4_write) (maxL := 6) (ret := (some .long)) (R0 := RX4) (by decide) rfl rfl (Nat.le_of_ble_eq_true rfl) ?_
  intro p e s m below meth c A ls hx hb hr hlk hml hown hts hP hK hD hA hG hS hl hEx
  have hl : lv_has ls 6 [(0, .ref (ad 0)), (1, .int (nI j)), (2, .int (nI i)), (3, .long v)] := hl
  refine lv_iload_n hx hb dX4_write_0 rfl (lv_at hl 1 rfl) ?_
  refine lv_iconst (v := (nI 4)) hx hb dX4_write_1 (by decide) ?_
  refine kq_cS (st1 := []) ⟨hx, hb, hml, hown, hts⟩ (c_refuseUnlessBelow_ok u (by omega) (by omega)) (va_cwS 2 hts gX4_62_X4_refuseUnlessBelow rfl rfl rfl (by decide +kernel) ⟨Nat.le_of_ble_eq_true rfl, Nat.le_of_ble_eq_true rfl⟩) tm_Gok hK hP hD hA hG hS rfl hl.1 rfl rfl (Nat.le_of_ble_eq_true rfl) dX4_write_2 ⟨Nat.le_of_ble_eq_true rfl, Nat.le_of_ble_eq_true rfl⟩ (fun H locs hP hD hS => ?_)
  refine lv_iload_n hx hb dX4_write_5 rfl (lv_at hl 2 rfl) ?_
  refine lv_iconst (v := (nI 3)) hx hb dX4_write_6 (by decide) ?_
  refine kq_cS (st1 := []) ⟨hx, hb, hml, hown, hts⟩ (c_refuseUnlessBelow_ok u (by omega) (by omega)) (va_cwS 2 hts gX4_62_X4_refuseUnlessBelow rfl rfl rfl (by decide +kernel) ⟨Nat.le_of_ble_eq_true rfl, Nat.le_of_ble_eq_true rfl⟩) tm_Gok hK hP hD hA hG hS rfl hl.1 rfl rfl (Nat.le_of_ble_eq_true rfl) dX4_write_7 ⟨Nat.le_of_ble_eq_true rfl, Nat.le_of_ble_eq_true rfl⟩ (fun H locs hP hD hS => ?_)
  refine lv_aload_n hx hb dX4_write_10 rfl (lv_at hl 0 rfl) ?_
  refine kq_cV (st1 := []) ⟨hx, hb, hml, hown, hts⟩ (c_refuseWhenLost_ok u hnl) (cwV 0 hts gX4_66_X4_refuseWhenLost rfl rfl rfl (by decide +kernel) ⟨Nat.le_of_ble_eq_true rfl, Nat.le_of_ble_eq_true rfl⟩) tm_Gok hK hP hD hA hG hS (va_recv hK hP (ci := 4) (q0 := 0) rfl (tm_at (i := 0) (by omega) rfl)) rfl hl.1 rfl rfl (Nat.le_of_ble_eq_true rfl) dX4_write_11 ⟨Nat.le_of_ble_eq_true rfl, Nat.le_of_ble_eq_true rfl⟩ (fun H locs hP hD hS => ?_)
  refine lv_aload_n hx hb dX4_write_14 rfl (lv_at hl 0 rfl) ?_
  refine lv_iload_n hx hb dX4_write_15 rfl (lv_at hl 1 rfl) ?_
  exact kq_tV ⟨hx, hb, hml, hown, hts⟩ (c_definedIndex_no hl9 u (k := j) (by omega) hd) (cwV 1 hts gX4_182_X4_definedIndex rfl rfl rfl (by decide +kernel) ⟨Nat.le_of_ble_eq_true rfl, Nat.le_of_ble_eq_true rfl⟩) tm_Gok hK hP hD hA hG hS (va_recv hK hP (ci := 4) (q0 := 0) rfl (tm_at (i := 0) (by omega) rfl)) rfl hl.1 rfl (Nat.le_of_ble_eq_true rfl) dX4_write_16 ⟨Nat.le_of_ble_eq_true rfl, Nat.le_of_ble_eq_true rfl⟩ hlk hEx (Nat.le_of_ble_eq_true rfl) (Nat.le_of_ble_eq_true rfl)
set_option maxHeartbeats 4000000 in
set_option maxRecDepth 100000 in
theorem m_write_p0out (hl9 : l.stackTraces = false) (u : tm_S) {j i : Nat} (hj : j < 4) (hi : i < 3) (v : Int64) (hnl : u.2.1 11 0 = 0) (hd : ¬ u.2.1 6 j = 0) (h0 : u.1 7 j = 0) (hq : ¬ u.2.1 10 0 = (-1)) (hq2 : ¬ nI 3 ≤ u.2.1 10 0)  : kc_T l dC dI gs ad cc yX4_write wsX4_write { frames := 8, cells := 1, slots := 6, locals := 125 } [.ref (ad 0), .int (nI j), .int (nI i), .long v] u (tm_I (tm_I (tm_I u 10 0 (nI 0)) 11 0 (nI 1)) 12 0 ((u.2.1 12 0) + (nI 1))) "java/lang/IllegalStateException" := by
  refine kq_ofT (cc := cX4_write) (maxL := 6) (ret := (some .long)) (R0 := RX4) (by decide) rfl rfl (Nat.le_of_ble_eq_true rfl) ?_
  intro p e s m below meth c A ls hx hb hr hlk hml hown hts hP hK hD hA hG hS hl hEx
  have hl : lv_has ls 6 [(0, .ref (ad 0)), (1, .int (nI j)), (2, .int (nI i)), (3, .long v)] := hl
  refine lv_iload_n hx hb dX4_write_0 rfl (lv_at hl 1 rfl) ?_
  refine lv_iconst (v := (nI 4)) hx hb dX4_write_1 (by decide) ?_
  refine kq_cS (st1 := []) ⟨hx, hb, hml, hown, hts⟩ (c_refuseUnlessBelow_ok u (by omega) (by omega)) (va_cwS 2 hts gX4_62_X4_refuseUnlessBelow rfl rfl rfl (by decide +kernel) ⟨Nat.le_of_ble_eq_true rfl, Nat.le_of_ble_eq_true rfl⟩) tm_Gok hK hP hD hA hG hS rfl hl.1 rfl rfl (Nat.le_of_ble_eq_true rfl) dX4_write_2 ⟨Nat.le_of_ble_eq_true rfl, Nat.le_of_ble_eq_true rfl⟩ (fun H locs hP hD hS => ?_)
  refine lv_iload_n hx hb dX4_write_5 rfl (lv_at hl 2 rfl) ?_
  refine lv_iconst (v := (nI 3)) hx hb dX4_write_6 (by decide) ?_
  refine kq_cS (st1 := []) ⟨hx, hb, hml, hown, hts⟩ (c_refuseUnlessBelow_ok u (by omega) (by omega)) (va_cwS 2 hts gX4_62_X4_refuseUnlessBelow rfl rfl rfl (by decide +kernel) ⟨Nat.le_of_ble_eq_true rfl, Nat.le_of_ble_eq_true rfl⟩) tm_Gok hK hP hD hA hG hS rfl hl.1 rfl rfl (Nat.le_of_ble_eq_true rfl) dX4_write_7 ⟨Nat.le_of_ble_eq_true rfl, Nat.le_of_ble_eq_true rfl⟩ (fun H locs hP hD hS => ?_)
  refine lv_aload_n hx hb dX4_write_10 rfl (lv_at hl 0 rfl) ?_
  refine kq_cV (st1 := []) ⟨hx, hb, hml, hown, hts⟩ (c_refuseWhenLost_ok u hnl) (cwV 0 hts gX4_66_X4_refuseWhenLost rfl rfl rfl (by decide +kernel) ⟨Nat.le_of_ble_eq_true rfl, Nat.le_of_ble_eq_true rfl⟩) tm_Gok hK hP hD hA hG hS (va_recv hK hP (ci := 4) (q0 := 0) rfl (tm_at (i := 0) (by omega) rfl)) rfl hl.1 rfl rfl (Nat.le_of_ble_eq_true rfl) dX4_write_11 ⟨Nat.le_of_ble_eq_true rfl, Nat.le_of_ble_eq_true rfl⟩ (fun H locs hP hD hS => ?_)
  refine lv_aload_n hx hb dX4_write_14 rfl (lv_at hl 0 rfl) ?_
  refine lv_iload_n hx hb dX4_write_15 rfl (lv_at hl 1 rfl) ?_
  refine kq_cV (st1 := [.ref (ad (j + 32))]) ⟨hx, hb, hml, hown, hts⟩ (c_definedIndex_ok u (k := j) (by omega) hd) (cwV 1 hts gX4_182_X4_definedIndex rfl rfl rfl (by decide +kernel) ⟨Nat.le_of_ble_eq_true rfl, Nat.le_of_ble_eq_true rfl⟩) tm_Gok hK hP hD hA hG hS (va_recv hK hP (ci := 4) (q0 := 0) rfl (tm_at (i := 0) (by omega) rfl)) rfl hl.1 rfl rfl (Nat.le_of_ble_eq_true rfl) dX4_write_16 ⟨Nat.le_of_ble_eq_true rfl, Nat.le_of_ble_eq_true rfl⟩ (fun H locs hP hD hS => ?_)
  refine lv_astore (lv' := [(5, .ref (ad (j + 32))), (0, .ref (ad 0)), (1, .int (nI j)), (2, .int (nI i)), (3, .long v)]) hx hb dX4_write_19 hl (by decide) rfl (fun ls hl => ?_)
  refine lv_aload hx hb dX4_write_21 (lv_at hl 0 rfl) ?_
  refine tc_gX_policy hx hb hts inB_X1 hown hK hP (by omega) (hts _ mb_112) dX4_write_23 ?_
  refine lv_lconst (v := 0) hx hb dX4_write_26 (by decide) ?_
  refine W.lcmp hx hb dX4_write_27 ?_
  refine lv_if_eq (tgt := 46) hx hb dX4_write_28 (by decide) (fun _ => ?_) (fun c => absurd (tm_cmp0.mpr h0) c)
  refine lv_aload_n hx hb dX4_write_46 rfl (lv_at hl 1 rfl) ?_
  refine lv_iconst (v := (nI 3)) hx hb dX4_write_47 (by decide) ?_
  exact kq_tV ⟨hx, hb, hml, hown, hts⟩ (c_useParts_no hl9 u (nI 3) hq hq2) (cwV 1 hts gX4_175_X4_useParts rfl rfl rfl (by decide +kernel) ⟨Nat.le_of_ble_eq_true rfl, Nat.le_of_ble_eq_true rfl⟩) tm_Gok hK hP hD hA hG hS (va_recv hK hP (ci := 4) (q0 := 0) rfl (tm_at (i := 0) (by omega) rfl)) rfl hl.1 rfl (Nat.le_of_ble_eq_true rfl) dX4_write_48 ⟨Nat.le_of_ble_eq_true rfl, Nat.le_of_ble_eq_true rfl⟩ hlk hEx (Nat.le_of_ble_eq_true rfl) (Nat.le_of_ble_eq_true rfl)
set_option maxHeartbeats 4000000 in
set_option maxRecDepth 100000 in
theorem m_write_p0cell (u : tm_S) {j i : Nat} (hj : j < 4) (hi : i < 3) (v : Int64) (hnl : u.2.1 11 0 = 0) (hd : ¬ u.2.1 6 j = 0) (h0 : u.1 7 j = 0) (pr : Int32) (hq : tm_fit (u.2.1 10 0) (nI 3) pr) (hk : u.2.1 7 j = 0) : kc_M l dC dI gs ad cc yX4_write wsX4_write { frames := 8, cells := 0, slots := 0, locals := 125 } [.ref (ad 0), .int (nI j), .int (nI i), .long v] u (tm_I (tm_L (tm_I u 10 0 pr) 8 j v) 8 j (nI 1)) (some (.long v)) := by
  refine kq_ofW (cc := cX4_write) (maxL := 6) (ret := (some .long)) (R0 := RX4) (by decide) rfl rfl (Nat.le_of_ble_eq_true rfl) ?_
  intro p e s m below meth c A ls hx hb hr hlk hml hown hts hP hK hD hA hG hS hl
  have hl : lv_has ls 6 [(0, .ref (ad 0)), (1, .int (nI j)), (2, .int (nI i)), (3, .long v)] := hl
  refine lv_iload_n hx hb dX4_write_0 rfl (lv_at hl 1 rfl) ?_
  refine lv_iconst (v := (nI 4)) hx hb dX4_write_1 (by decide) ?_
  refine kq_cS (st1 := []) ⟨hx, hb, hml, hown, hts⟩ (c_refuseUnlessBelow_ok u (by omega) (by omega)) (va_cwS 2 hts gX4_62_X4_refuseUnlessBelow rfl rfl rfl (by decide +kernel) ⟨Nat.le_of_ble_eq_true rfl, Nat.le_of_ble_eq_true rfl⟩) tm_Gok hK hP hD hA hG hS rfl hl.1 rfl rfl (Nat.le_of_ble_eq_true rfl) dX4_write_2 ⟨Nat.le_of_ble_eq_true rfl, Nat.le_of_ble_eq_true rfl⟩ (fun H locs hP hD hS => ?_)
  refine lv_iload_n hx hb dX4_write_5 rfl (lv_at hl 2 rfl) ?_
  refine lv_iconst (v := (nI 3)) hx hb dX4_write_6 (by decide) ?_
  refine kq_cS (st1 := []) ⟨hx, hb, hml, hown, hts⟩ (c_refuseUnlessBelow_ok u (by omega) (by omega)) (va_cwS 2 hts gX4_62_X4_refuseUnlessBelow rfl rfl rfl (by decide +kernel) ⟨Nat.le_of_ble_eq_true rfl, Nat.le_of_ble_eq_true rfl⟩) tm_Gok hK hP hD hA hG hS rfl hl.1 rfl rfl (Nat.le_of_ble_eq_true rfl) dX4_write_7 ⟨Nat.le_of_ble_eq_true rfl, Nat.le_of_ble_eq_true rfl⟩ (fun H locs hP hD hS => ?_)
  refine lv_aload_n hx hb dX4_write_10 rfl (lv_at hl 0 rfl) ?_
  refine kq_cV (st1 := []) ⟨hx, hb, hml, hown, hts⟩ (c_refuseWhenLost_ok u hnl) (cwV 0 hts gX4_66_X4_refuseWhenLost rfl rfl rfl (by decide +kernel) ⟨Nat.le_of_ble_eq_true rfl, Nat.le_of_ble_eq_true rfl⟩) tm_Gok hK hP hD hA hG hS (va_recv hK hP (ci := 4) (q0 := 0) rfl (tm_at (i := 0) (by omega) rfl)) rfl hl.1 rfl rfl (Nat.le_of_ble_eq_true rfl) dX4_write_11 ⟨Nat.le_of_ble_eq_true rfl, Nat.le_of_ble_eq_true rfl⟩ (fun H locs hP hD hS => ?_)
  refine lv_aload_n hx hb dX4_write_14 rfl (lv_at hl 0 rfl) ?_
  refine lv_iload_n hx hb dX4_write_15 rfl (lv_at hl 1 rfl) ?_
  refine kq_cV (st1 := [.ref (ad (j + 32))]) ⟨hx, hb, hml, hown, hts⟩ (c_definedIndex_ok u (k := j) (by omega) hd) (cwV 1 hts gX4_182_X4_definedIndex rfl rfl rfl (by decide +kernel) ⟨Nat.le_of_ble_eq_true rfl, Nat.le_of_ble_eq_true rfl⟩) tm_Gok hK hP hD hA hG hS (va_recv hK hP (ci := 4) (q0 := 0) rfl (tm_at (i := 0) (by omega) rfl)) rfl hl.1 rfl rfl (Nat.le_of_ble_eq_true rfl) dX4_write_16 ⟨Nat.le_of_ble_eq_true rfl, Nat.le_of_ble_eq_true rfl⟩ (fun H locs hP hD hS => ?_)
  refine lv_astore (lv' := [(5, .ref (ad (j + 32))), (0, .ref (ad 0)), (1, .int (nI j)), (2, .int (nI i)), (3, .long v)]) hx hb dX4_write_19 hl (by decide) rfl (fun ls hl => ?_)
  refine lv_aload hx hb dX4_write_21 (lv_at hl 0 rfl) ?_
  refine tc_gX_policy hx hb hts inB_X1 hown hK hP (by omega) (hts _ mb_112) dX4_write_23 ?_
  refine lv_lconst (v := 0) hx hb dX4_write_26 (by decide) ?_
  refine W.lcmp hx hb dX4_write_27 ?_
  refine lv_if_eq (tgt := 46) hx hb dX4_write_28 (by decide) (fun _ => ?_) (fun c => absurd (tm_cmp0.mpr h0) c)
  refine lv_aload_n hx hb dX4_write_46 rfl (lv_at hl 1 rfl) ?_
  refine lv_iconst (v := (nI 3)) hx hb dX4_write_47 (by decide) ?_
  refine kq_cV (st1 := []) ⟨hx, hb, hml, hown, hts⟩ (c_useParts_fit u (nI 3) pr hq) (cwV 1 hts gX4_175_X4_useParts rfl rfl rfl (by decide +kernel) ⟨Nat.le_of_ble_eq_true rfl, Nat.le_of_ble_eq_true rfl⟩) tm_Gok hK hP hD hA hG hS (va_recv hK hP (ci := 4) (q0 := 0) rfl (tm_at (i := 0) (by omega) rfl)) rfl hl.1 rfl rfl (Nat.le_of_ble_eq_true rfl) dX4_write_48 ⟨Nat.le_of_ble_eq_true rfl, Nat.le_of_ble_eq_true rfl⟩ (fun H locs hP hD hS => ?_)
  refine lv_aload hx hb dX4_write_51 (lv_at hl 0 rfl) ?_
  refine tc_gX_policy hx hb hts inB_X1 hown hK hP (by omega) (hts _ mb_112) dX4_write_53 ?_
  refine kq_tl (y := (u.1 7 j)) (by simp [tm_L, tm_I, tm_D]) ?_
  refine lv_lconst (v := 0) hx hb dX4_write_56 (by decide) ?_
  refine W.lcmp hx hb dX4_write_57 ?_
  refine lv_if_eq (tgt := 70) hx hb dX4_write_58 (by decide) (fun _ => ?_) (fun c => absurd (tm_cmp0.mpr h0) c)
  refine lv_aload hx hb dX4_write_70 (lv_at hl 0 rfl) ?_
  refine lv_aload hx hb dX4_write_72 (lv_at hl 0 rfl) ?_
  refine tc_gX_counter hx hb hts inB_X1 hown hK hP (by omega) (hts _ mb_110) dX4_write_74 ?_
  refine kq_ti (y := (u.2.1 7 j)) (by simp [tm_L, tm_I, tm_D]) ?_
  refine lv_if_eq (tgt := 87) hx hb dX4_write_77 (by decide) (fun _ => ?_) (fun c => absurd hk c)
  refine lv_lload_n hx hb dX4_write_87 rfl (lv_at hl 4 rfl) ?_
  refine tc_pX_value hx hb hts inB_X1 hown hK hP hD hS (by omega) (hts _ mb_116) dX4_write_88 (fun H locs hP hD hS => ?_)
  refine lv_aload hx hb dX4_write_91 (lv_at hl 0 rfl) ?_
  refine lv_iconst (v := (nI 1)) hx hb dX4_write_93 (by decide) ?_
  refine tc_pX_written hx hb hts inB_X1 hown hK hP hD hS (by omega) (by first | rfl | decide) (by first | rfl | decide) (hts _ mb_114) dX4_write_94 (fun H locs hP hD hS => ?_)
  refine lv_aload hx hb dX4_write_97 (lv_at hl 0 rfl) ?_
  refine tc_gX_value hx hb hts inB_X1 hown hK hP (by omega) (hts _ mb_116) dX4_write_99 ?_
  refine kq_tl (y := v) (by simp [tm_L, tm_I, tm_D]) ?_
  exact kq_lret hx hb hr hlk hP hD hS dX4_write_102
set_option maxHeartbeats 4000000 in
set_option maxRecDepth 100000 in
theorem m_write_p0cnt (u : tm_S) {j i : Nat} (hj : j < 4) (hi : i < 3) (v : Int64) (hnl : u.2.1 11 0 = 0) (hd : ¬ u.2.1 6 j = 0) (h0 : u.1 7 j = 0) (pr : Int32) (hq : tm_fit (u.2.1 10 0) (nI 3) pr) (hk : ¬ u.2.1 7 j = 0) : kc_M l dC dI gs ad cc yX4_write wsX4_write { frames := 8, cells := 0, slots := 0, locals := 125 } [.ref (ad 0), .int (nI j), .int (nI i), .long v] u (tm_I (tm_L (tm_L (tm_I u 10 0 pr) 9 0 ((u.1 9 0) + 1)) 8 j ((u.1 9 0) + 1)) 8 j (nI 1)) (some (.long ((u.1 9 0) + 1))) := by
  refine kq_ofW (cc := cX4_write) (maxL := 6) (ret := (some .long)) (R0 := RX4) (by decide) rfl rfl (Nat.le_of_ble_eq_true rfl) ?_
  intro p e s m below meth c A ls hx hb hr hlk hml hown hts hP hK hD hA hG hS hl
  have hl : lv_has ls 6 [(0, .ref (ad 0)), (1, .int (nI j)), (2, .int (nI i)), (3, .long v)] := hl
  refine lv_iload_n hx hb dX4_write_0 rfl (lv_at hl 1 rfl) ?_
  refine lv_iconst (v := (nI 4)) hx hb dX4_write_1 (by decide) ?_
  refine kq_cS (st1 := []) ⟨hx, hb, hml, hown, hts⟩ (c_refuseUnlessBelow_ok u (by omega) (by omega)) (va_cwS 2 hts gX4_62_X4_refuseUnlessBelow rfl rfl rfl (by decide +kernel) ⟨Nat.le_of_ble_eq_true rfl, Nat.le_of_ble_eq_true rfl⟩) tm_Gok hK hP hD hA hG hS rfl hl.1 rfl rfl (Nat.le_of_ble_eq_true rfl) dX4_write_2 ⟨Nat.le_of_ble_eq_true rfl, Nat.le_of_ble_eq_true rfl⟩ (fun H locs hP hD hS => ?_)
  refine lv_iload_n hx hb dX4_write_5 rfl (lv_at hl 2 rfl) ?_
  refine lv_iconst (v := (nI 3)) hx hb dX4_write_6 (by decide) ?_
  refine kq_cS (st1 := []) ⟨hx, hb, hml, hown, hts⟩ (c_refuseUnlessBelow_ok u (by omega) (by omega)) (va_cwS 2 hts gX4_62_X4_refuseUnlessBelow rfl rfl rfl (by decide +kernel) ⟨Nat.le_of_ble_eq_true rfl, Nat.le_of_ble_eq_true rfl⟩) tm_Gok hK hP hD hA hG hS rfl hl.1 rfl rfl (Nat.le_of_ble_eq_true rfl) dX4_write_7 ⟨Nat.le_of_ble_eq_true rfl, Nat.le_of_ble_eq_true rfl⟩ (fun H locs hP hD hS => ?_)
  refine lv_aload_n hx hb dX4_write_10 rfl (lv_at hl 0 rfl) ?_
  refine kq_cV (st1 := []) ⟨hx, hb, hml, hown, hts⟩ (c_refuseWhenLost_ok u hnl) (cwV 0 hts gX4_66_X4_refuseWhenLost rfl rfl rfl (by decide +kernel) ⟨Nat.le_of_ble_eq_true rfl, Nat.le_of_ble_eq_true rfl⟩) tm_Gok hK hP hD hA hG hS (va_recv hK hP (ci := 4) (q0 := 0) rfl (tm_at (i := 0) (by omega) rfl)) rfl hl.1 rfl rfl (Nat.le_of_ble_eq_true rfl) dX4_write_11 ⟨Nat.le_of_ble_eq_true rfl, Nat.le_of_ble_eq_true rfl⟩ (fun H locs hP hD hS => ?_)
  refine lv_aload_n hx hb dX4_write_14 rfl (lv_at hl 0 rfl) ?_
  refine lv_iload_n hx hb dX4_write_15 rfl (lv_at hl 1 rfl) ?_
  refine kq_cV (st1 := [.ref (ad (j + 32))]) ⟨hx, hb, hml, hown, hts⟩ (c_definedIndex_ok u (k := j) (by omega) hd) (cwV 1 hts gX4_182_X4_definedIndex rfl rfl rfl (by decide +kernel) ⟨Nat.le_of_ble_eq_true rfl, Nat.le_of_ble_eq_true rfl⟩) tm_Gok hK hP hD hA hG hS (va_recv hK hP (ci := 4) (q0 := 0) rfl (tm_at (i := 0) (by omega) rfl)) rfl hl.1 rfl rfl (Nat.le_of_ble_eq_true rfl) dX4_write_16 ⟨Nat.le_of_ble_eq_true rfl, Nat.le_of_ble_eq_true rfl⟩ (fun H locs hP hD hS => ?_)
  refine lv_astore (lv' := [(5, .ref (ad (j + 32))), (0, .ref (ad 0)), (1, .int (nI j)), (2, .int (nI i)), (3, .long v)]) hx hb dX4_write_19 hl (by decide) rfl (fun ls hl => ?_)
  refine lv_aload hx hb dX4_write_21 (lv_at hl 0 rfl) ?_
  refine tc_gX_policy hx hb hts inB_X1 hown hK hP (by omega) (hts _ mb_112) dX4_write_23 ?_
  refine lv_lconst (v := 0) hx hb dX4_write_26 (by decide) ?_
  refine W.lcmp hx hb dX4_write_27 ?_
  refine lv_if_eq (tgt := 46) hx hb dX4_write_28 (by decide) (fun _ => ?_) (fun c => absurd (tm_cmp0.mpr h0) c)
  refine lv_aload_n hx hb dX4_write_46 rfl (lv_at hl 1 rfl) ?_
  refine lv_iconst (v := (nI 3)) hx hb dX4_write_47 (by decide) ?_
  refine kq_cV (st1 := []) ⟨hx, hb, hml, hown, hts⟩ (c_useParts_fit u (nI 3) pr hq) (cwV 1 hts gX4_175_X4_useParts rfl rfl rfl (by decide +kernel) ⟨Nat.le_of_ble_eq_true rfl, Nat.le_of_ble_eq_true rfl⟩) tm_Gok hK hP hD hA hG hS (va_recv hK hP (ci := 4) (q0 := 0) rfl (tm_at (i := 0) (by omega) rfl)) rfl hl.1 rfl rfl (Nat.le_of_ble_eq_true rfl) dX4_write_48 ⟨Nat.le_of_ble_eq_true rfl, Nat.le_of_ble_eq_true rfl⟩ (fun H locs hP hD hS => ?_)
  refine lv_aload hx hb dX4_write_51 (lv_at hl 0 rfl) ?_
  refine tc_gX_policy hx hb hts inB_X1 hown hK hP (by omega) (hts _ mb_112) dX4_write_53 ?_
  refine kq_tl (y := (u.1 7 j)) (by simp [tm_L, tm_I, tm_D]) ?_
  refine lv_lconst (v := 0) hx hb dX4_write_56 (by decide) ?_
  refine W.lcmp hx hb dX4_write_57 ?_
  refine lv_if_eq (tgt := 70) hx hb dX4_write_58 (by decide) (fun _ => ?_) (fun c => absurd (tm_cmp0.mpr h0) c)
  refine lv_aload hx hb dX4_write_70 (lv_at hl 0 rfl) ?_
  refine lv_aload hx hb dX4_write_72 (lv_at hl 0 rfl) ?_
  refine tc_gX_counter hx hb hts inB_X1 hown hK hP (by omega) (hts _ mb_110) dX4_write_74 ?_
  refine kq_ti (y := (u.2.1 7 j)) (by simp [tm_L, tm_I, tm_D]) ?_
  refine lv_if_eq (tgt := 87) hx hb dX4_write_77 (by decide) (fun c => absurd c hk) (fun _ => ?_)
  refine lv_aload_n hx hb dX4_write_80 rfl (lv_at hl 1 rfl) ?_
  refine kq_cV (st1 := [.long ((u.1 9 0) + 1), .ref (ad (j + 32))]) ⟨hx, hb, hml, hown, hts⟩ (c_nextCounted (tm_I u 10 0 pr)) (cwV 0 hts gX4_190_X4_nextCounted rfl rfl rfl (by decide +kernel) ⟨Nat.le_of_ble_eq_true rfl, Nat.le_of_ble_eq_true rfl⟩) tm_Gok hK hP hD hA hG hS (va_recv hK hP (ci := 4) (q0 := 0) rfl (tm_at (i := 0) (by omega) rfl)) rfl hl.1 rfl rfl (Nat.le_of_ble_eq_true rfl) dX4_write_81 ⟨Nat.le_of_ble_eq_true rfl, Nat.le_of_ble_eq_true rfl⟩ (fun H locs hP hD hS => ?_)
  refine lv_goto (tgt := 88) hx hb dX4_write_84 (by decide) ?_
  refine tc_pX_value hx hb hts inB_X1 hown hK hP hD hS (by omega) (hts _ mb_116) dX4_write_88 (fun H locs hP hD hS => ?_)
  refine lv_aload hx hb dX4_write_91 (lv_at hl 0 rfl) ?_
  refine lv_iconst (v := (nI 1)) hx hb dX4_write_93 (by decide) ?_
  refine tc_pX_written hx hb hts inB_X1 hown hK hP hD hS (by omega) (by first | rfl | decide) (by first | rfl | decide) (hts _ mb_114) dX4_write_94 (fun H locs hP hD hS => ?_)
  refine lv_aload hx hb dX4_write_97 (lv_at hl 0 rfl) ?_
  refine tc_gX_value hx hb hts inB_X1 hown hK hP (by omega) (hts _ mb_116) dX4_write_99 ?_
  refine kq_tl (y := ((u.1 9 0) + 1)) (by simp [tm_L, tm_I, tm_D]) ?_
  exact kq_lret hx hb hr hlk hP hD hS dX4_write_102
set_option maxHeartbeats 4000000 in
set_option maxRecDepth 100000 in
theorem m_write_pn2 (hl9 : l.stackTraces = false) (u : tm_S) {j i : Nat} (hj : j < 4) (hi : i < 3) (v : Int64) (hnl : u.2.1 11 0 = 0) (hd : ¬ u.2.1 6 j = 0) (h0 : ¬ u.1 7 j = 0) (he : ¬ u.1 6 i = u.1 7 j) : kc_T l dC dI gs ad cc yX4_write wsX4_write { frames := 8, cells := 1, slots := 6, locals := 125 } [.ref (ad 0), .int (nI j), .int (nI i), .long v] u u "java/lang/UnsupportedOperationException" := by
  refine kq_ofT (cc := cX4_write) (maxL := 6) (ret := (some .long)) (R0 := RX4) (by decide) rfl rfl (Nat.le_of_ble_eq_true rfl) ?_
  intro p e s m below meth c A ls hx hb hr hlk hml hown hts hP hK hD hA hG hS hl hEx
  have hl : lv_has ls 6 [(0, .ref (ad 0)), (1, .int (nI j)), (2, .int (nI i)), (3, .long v)] := hl
  refine lv_iload_n hx hb dX4_write_0 rfl (lv_at hl 1 rfl) ?_
  refine lv_iconst (v := (nI 4)) hx hb dX4_write_1 (by decide) ?_
  refine kq_cS (st1 := []) ⟨hx, hb, hml, hown, hts⟩ (c_refuseUnlessBelow_ok u (by omega) (by omega)) (va_cwS 2 hts gX4_62_X4_refuseUnlessBelow rfl rfl rfl (by decide +kernel) ⟨Nat.le_of_ble_eq_true rfl, Nat.le_of_ble_eq_true rfl⟩) tm_Gok hK hP hD hA hG hS rfl hl.1 rfl rfl (Nat.le_of_ble_eq_true rfl) dX4_write_2 ⟨Nat.le_of_ble_eq_true rfl, Nat.le_of_ble_eq_true rfl⟩ (fun H locs hP hD hS => ?_)
  refine lv_iload_n hx hb dX4_write_5 rfl (lv_at hl 2 rfl) ?_
  refine lv_iconst (v := (nI 3)) hx hb dX4_write_6 (by decide) ?_
  refine kq_cS (st1 := []) ⟨hx, hb, hml, hown, hts⟩ (c_refuseUnlessBelow_ok u (by omega) (by omega)) (va_cwS 2 hts gX4_62_X4_refuseUnlessBelow rfl rfl rfl (by decide +kernel) ⟨Nat.le_of_ble_eq_true rfl, Nat.le_of_ble_eq_true rfl⟩) tm_Gok hK hP hD hA hG hS rfl hl.1 rfl rfl (Nat.le_of_ble_eq_true rfl) dX4_write_7 ⟨Nat.le_of_ble_eq_true rfl, Nat.le_of_ble_eq_true rfl⟩ (fun H locs hP hD hS => ?_)
  refine lv_aload_n hx hb dX4_write_10 rfl (lv_at hl 0 rfl) ?_
  refine kq_cV (st1 := []) ⟨hx, hb, hml, hown, hts⟩ (c_refuseWhenLost_ok u hnl) (cwV 0 hts gX4_66_X4_refuseWhenLost rfl rfl rfl (by decide +kernel) ⟨Nat.le_of_ble_eq_true rfl, Nat.le_of_ble_eq_true rfl⟩) tm_Gok hK hP hD hA hG hS (va_recv hK hP (ci := 4) (q0 := 0) rfl (tm_at (i := 0) (by omega) rfl)) rfl hl.1 rfl rfl (Nat.le_of_ble_eq_true rfl) dX4_write_11 ⟨Nat.le_of_ble_eq_true rfl, Nat.le_of_ble_eq_true rfl⟩ (fun H locs hP hD hS => ?_)
  refine lv_aload_n hx hb dX4_write_14 rfl (lv_at hl 0 rfl) ?_
  refine lv_iload_n hx hb dX4_write_15 rfl (lv_at hl 1 rfl) ?_
  refine kq_cV (st1 := [.ref (ad (j + 32))]) ⟨hx, hb, hml, hown, hts⟩ (c_definedIndex_ok u (k := j) (by omega) hd) (cwV 1 hts gX4_182_X4_definedIndex rfl rfl rfl (by decide +kernel) ⟨Nat.le_of_ble_eq_true rfl, Nat.le_of_ble_eq_true rfl⟩) tm_Gok hK hP hD hA hG hS (va_recv hK hP (ci := 4) (q0 := 0) rfl (tm_at (i := 0) (by omega) rfl)) rfl hl.1 rfl rfl (Nat.le_of_ble_eq_true rfl) dX4_write_16 ⟨Nat.le_of_ble_eq_true rfl, Nat.le_of_ble_eq_true rfl⟩ (fun H locs hP hD hS => ?_)
  refine lv_astore (lv' := [(5, .ref (ad (j + 32))), (0, .ref (ad 0)), (1, .int (nI j)), (2, .int (nI i)), (3, .long v)]) hx hb dX4_write_19 hl (by decide) rfl (fun ls hl => ?_)
  refine lv_aload hx hb dX4_write_21 (lv_at hl 0 rfl) ?_
  refine tc_gX_policy hx hb hts inB_X1 hown hK hP (by omega) (hts _ mb_112) dX4_write_23 ?_
  refine lv_lconst (v := 0) hx hb dX4_write_26 (by decide) ?_
  refine W.lcmp hx hb dX4_write_27 ?_
  refine lv_if_eq (tgt := 46) hx hb dX4_write_28 (by decide) (fun c => absurd c (fun q => h0 (tm_cmp0.mp q))) (fun _ => ?_)
  refine lv_aload_n hx hb dX4_write_31 rfl (lv_at hl 1 rfl) ?_
  refine lv_aload hx hb dX4_write_32 (lv_at hl 0 rfl) ?_
  refine tc_gX_policy hx hb hts inB_X1 hown hK hP (by omega) (hts _ mb_112) dX4_write_34 ?_
  refine lv_aload_n hx hb dX4_write_37 rfl (lv_at hl 1 rfl) ?_
  refine tc_gT_sessions hx hb hts inB_X4 hown hK hP (hts _ mb_149) dX4_write_38 ?_
  refine lv_iload_n hx hb dX4_write_41 rfl (lv_at hl 3 rfl) ?_
  refine tc_a_sessions hx hb hK hP (by omega) dX4_write_42 ?_
  exact kq_tV ⟨hx, hb, hml, hown, hts⟩ (c_allowBySession_n2 hl9 u (k := i) (by omega) (u.1 7 j) h0 he) (cwV 2 hts gX4_130_X4_allowBySession rfl rfl rfl (by decide +kernel) ⟨Nat.le_of_ble_eq_true rfl, Nat.le_of_ble_eq_true rfl⟩) tm_Gok hK hP hD hA hG hS (va_recv hK hP (ci := 4) (q0 := 0) rfl (tm_at (i := 0) (by omega) rfl)) rfl hl.1 rfl (Nat.le_of_ble_eq_true rfl) dX4_write_43 ⟨Nat.le_of_ble_eq_true rfl, Nat.le_of_ble_eq_true rfl⟩ hlk hEx (Nat.le_of_ble_eq_true rfl) (Nat.le_of_ble_eq_true rfl)
set_option maxHeartbeats 4000000 in
set_option maxRecDepth 100000 in
theorem m_write_pch (hl9 : l.stackTraces = false) (u : tm_S) {j i : Nat} (hj : j < 4) (hi : i < 3) (v : Int64) (hnl : u.2.1 11 0 = 0) (hd : ¬ u.2.1 6 j = 0) (h0 : ¬ u.1 7 j = 0) (he : u.1 6 i = u.1 7 j) (hz : ¬ u.2.1 4 i = 0) (hc : ¬ u.2.1 5 i = u.2.1 9 0) : kc_T l dC dI gs ad cc yX4_write wsX4_write { frames := 8, cells := 1, slots := 6, locals := 125 } [.ref (ad 0), .int (nI j), .int (nI i), .long v] u u "java/lang/IllegalStateException" := by
  refine kq_ofT (cc := cX4_write) (maxL := 6) (ret := (some .long)) (R0 := RX4) (by decide) rfl rfl (Nat.le_of_ble_eq_true rfl) ?_
  intro p e s m below meth c A ls hx hb hr hlk hml hown hts hP hK hD hA hG hS hl hEx
  have hl : lv_has ls 6 [(0, .ref (ad 0)), (1, .int (nI j)), (2, .int (nI i)), (3, .long v)] := hl
  refine lv_iload_n hx hb dX4_write_0 rfl (lv_at hl 1 rfl) ?_
  refine lv_iconst (v := (nI 4)) hx hb dX4_write_1 (by decide) ?_
  refine kq_cS (st1 := []) ⟨hx, hb, hml, hown, hts⟩ (c_refuseUnlessBelow_ok u (by omega) (by omega)) (va_cwS 2 hts gX4_62_X4_refuseUnlessBelow rfl rfl rfl (by decide +kernel) ⟨Nat.le_of_ble_eq_true rfl, Nat.le_of_ble_eq_true rfl⟩) tm_Gok hK hP hD hA hG hS rfl hl.1 rfl rfl (Nat.le_of_ble_eq_true rfl) dX4_write_2 ⟨Nat.le_of_ble_eq_true rfl, Nat.le_of_ble_eq_true rfl⟩ (fun H locs hP hD hS => ?_)
  refine lv_iload_n hx hb dX4_write_5 rfl (lv_at hl 2 rfl) ?_
  refine lv_iconst (v := (nI 3)) hx hb dX4_write_6 (by decide) ?_
  refine kq_cS (st1 := []) ⟨hx, hb, hml, hown, hts⟩ (c_refuseUnlessBelow_ok u (by omega) (by omega)) (va_cwS 2 hts gX4_62_X4_refuseUnlessBelow rfl rfl rfl (by decide +kernel) ⟨Nat.le_of_ble_eq_true rfl, Nat.le_of_ble_eq_true rfl⟩) tm_Gok hK hP hD hA hG hS rfl hl.1 rfl rfl (Nat.le_of_ble_eq_true rfl) dX4_write_7 ⟨Nat.le_of_ble_eq_true rfl, Nat.le_of_ble_eq_true rfl⟩ (fun H locs hP hD hS => ?_)
  refine lv_aload_n hx hb dX4_write_10 rfl (lv_at hl 0 rfl) ?_
  refine kq_cV (st1 := []) ⟨hx, hb, hml, hown, hts⟩ (c_refuseWhenLost_ok u hnl) (cwV 0 hts gX4_66_X4_refuseWhenLost rfl rfl rfl (by decide +kernel) ⟨Nat.le_of_ble_eq_true rfl, Nat.le_of_ble_eq_true rfl⟩) tm_Gok hK hP hD hA hG hS (va_recv hK hP (ci := 4) (q0 := 0) rfl (tm_at (i := 0) (by omega) rfl)) rfl hl.1 rfl rfl (Nat.le_of_ble_eq_true rfl) dX4_write_11 ⟨Nat.le_of_ble_eq_true rfl, Nat.le_of_ble_eq_true rfl⟩ (fun H locs hP hD hS => ?_)
  refine lv_aload_n hx hb dX4_write_14 rfl (lv_at hl 0 rfl) ?_
  refine lv_iload_n hx hb dX4_write_15 rfl (lv_at hl 1 rfl) ?_
  refine kq_cV (st1 := [.ref (ad (j + 32))]) ⟨hx, hb, hml, hown, hts⟩ (c_definedIndex_ok u (k := j) (by omega) hd) (cwV 1 hts gX4_182_X4_definedIndex rfl rfl rfl (by decide +kernel) ⟨Nat.le_of_ble_eq_true rfl, Nat.le_of_ble_eq_true rfl⟩) tm_Gok hK hP hD hA hG hS (va_recv hK hP (ci := 4) (q0 := 0) rfl (tm_at (i := 0) (by omega) rfl)) rfl hl.1 rfl rfl (Nat.le_of_ble_eq_true rfl) dX4_write_16 ⟨Nat.le_of_ble_eq_true rfl, Nat.le_of_ble_eq_true rfl⟩ (fun H locs hP hD hS => ?_)
  refine lv_astore (lv' := [(5, .ref (ad (j + 32))), (0, .ref (ad 0)), (1, .int (nI j)), (2, .int (nI i)), (3, .long v)]) hx hb dX4_write_19 hl (by decide) rfl (fun ls hl => ?_)
  refine lv_aload hx hb dX4_write_21 (lv_at hl 0 rfl) ?_
  refine tc_gX_policy hx hb hts inB_X1 hown hK hP (by omega) (hts _ mb_112) dX4_write_23 ?_
  refine lv_lconst (v := 0) hx hb dX4_write_26 (by decide) ?_
  refine W.lcmp hx hb dX4_write_27 ?_
  refine lv_if_eq (tgt := 46) hx hb dX4_write_28 (by decide) (fun c => absurd c (fun q => h0 (tm_cmp0.mp q))) (fun _ => ?_)
  refine lv_aload_n hx hb dX4_write_31 rfl (lv_at hl 1 rfl) ?_
  refine lv_aload hx hb dX4_write_32 (lv_at hl 0 rfl) ?_
  refine tc_gX_policy hx hb hts inB_X1 hown hK hP (by omega) (hts _ mb_112) dX4_write_34 ?_
  refine lv_aload_n hx hb dX4_write_37 rfl (lv_at hl 1 rfl) ?_
  refine tc_gT_sessions hx hb hts inB_X4 hown hK hP (hts _ mb_149) dX4_write_38 ?_
  refine lv_iload_n hx hb dX4_write_41 rfl (lv_at hl 3 rfl) ?_
  refine tc_a_sessions hx hb hK hP (by omega) dX4_write_42 ?_
  exact kq_tV ⟨hx, hb, hml, hown, hts⟩ (c_allowBySession_ch hl9 u (k := i) (by omega) (u.1 7 j) h0 he hz hc) (cwV 2 hts gX4_130_X4_allowBySession rfl rfl rfl (by decide +kernel) ⟨Nat.le_of_ble_eq_true rfl, Nat.le_of_ble_eq_true rfl⟩) tm_Gok hK hP hD hA hG hS (va_recv hK hP (ci := 4) (q0 := 0) rfl (tm_at (i := 0) (by omega) rfl)) rfl hl.1 rfl (Nat.le_of_ble_eq_true rfl) dX4_write_43 ⟨Nat.le_of_ble_eq_true rfl, Nat.le_of_ble_eq_true rfl⟩ hlk hEx (Nat.le_of_ble_eq_true rfl) (Nat.le_of_ble_eq_true rfl)
set_option maxHeartbeats 4000000 in
set_option maxRecDepth 100000 in
theorem m_write_pout (hl9 : l.stackTraces = false) (u : tm_S) {j i : Nat} (hj : j < 4) (hi : i < 3) (v : Int64) (hnl : u.2.1 11 0 = 0) (hd : ¬ u.2.1 6 j = 0) (h0 : ¬ u.1 7 j = 0) (he : u.1 6 i = u.1 7 j) (hz : ¬ u.2.1 4 i = 0 → u.2.1 5 i = u.2.1 9 0)(hq : ¬ u.2.1 10 0 = (-1)) (hq2 : ¬ nI 3 ≤ u.2.1 10 0)  : kc_T l dC dI gs ad cc yX4_write wsX4_write { frames := 8, cells := 1, slots := 6, locals := 125 } [.ref (ad 0), .int (nI j), .int (nI i), .long v] u (tm_I (tm_I (tm_I u 10 0 (nI 0)) 11 0 (nI 1)) 12 0 ((u.2.1 12 0) + (nI 1))) "java/lang/IllegalStateException" := by
  refine kq_ofT (cc := cX4_write) (maxL := 6) (ret := (some .long)) (R0 := RX4) (by decide) rfl rfl (Nat.le_of_ble_eq_true rfl) ?_
  intro p e s m below meth c A ls hx hb hr hlk hml hown hts hP hK hD hA hG hS hl hEx
  have hl : lv_has ls 6 [(0, .ref (ad 0)), (1, .int (nI j)), (2, .int (nI i)), (3, .long v)] := hl
  refine lv_iload_n hx hb dX4_write_0 rfl (lv_at hl 1 rfl) ?_
  refine lv_iconst (v := (nI 4)) hx hb dX4_write_1 (by decide) ?_
  refine kq_cS (st1 := []) ⟨hx, hb, hml, hown, hts⟩ (c_refuseUnlessBelow_ok u (by omega) (by omega)) (va_cwS 2 hts gX4_62_X4_refuseUnlessBelow rfl rfl rfl (by decide +kernel) ⟨Nat.le_of_ble_eq_true rfl, Nat.le_of_ble_eq_true rfl⟩) tm_Gok hK hP hD hA hG hS rfl hl.1 rfl rfl (Nat.le_of_ble_eq_true rfl) dX4_write_2 ⟨Nat.le_of_ble_eq_true rfl, Nat.le_of_ble_eq_true rfl⟩ (fun H locs hP hD hS => ?_)
  refine lv_iload_n hx hb dX4_write_5 rfl (lv_at hl 2 rfl) ?_
  refine lv_iconst (v := (nI 3)) hx hb dX4_write_6 (by decide) ?_
  refine kq_cS (st1 := []) ⟨hx, hb, hml, hown, hts⟩ (c_refuseUnlessBelow_ok u (by omega) (by omega)) (va_cwS 2 hts gX4_62_X4_refuseUnlessBelow rfl rfl rfl (by decide +kernel) ⟨Nat.le_of_ble_eq_true rfl, Nat.le_of_ble_eq_true rfl⟩) tm_Gok hK hP hD hA hG hS rfl hl.1 rfl rfl (Nat.le_of_ble_eq_true rfl) dX4_write_7 ⟨Nat.le_of_ble_eq_true rfl, Nat.le_of_ble_eq_true rfl⟩ (fun H locs hP hD hS => ?_)
  refine lv_aload_n hx hb dX4_write_10 rfl (lv_at hl 0 rfl) ?_
  refine kq_cV (st1 := []) ⟨hx, hb, hml, hown, hts⟩ (c_refuseWhenLost_ok u hnl) (cwV 0 hts gX4_66_X4_refuseWhenLost rfl rfl rfl (by decide +kernel) ⟨Nat.le_of_ble_eq_true rfl, Nat.le_of_ble_eq_true rfl⟩) tm_Gok hK hP hD hA hG hS (va_recv hK hP (ci := 4) (q0 := 0) rfl (tm_at (i := 0) (by omega) rfl)) rfl hl.1 rfl rfl (Nat.le_of_ble_eq_true rfl) dX4_write_11 ⟨Nat.le_of_ble_eq_true rfl, Nat.le_of_ble_eq_true rfl⟩ (fun H locs hP hD hS => ?_)
  refine lv_aload_n hx hb dX4_write_14 rfl (lv_at hl 0 rfl) ?_
  refine lv_iload_n hx hb dX4_write_15 rfl (lv_at hl 1 rfl) ?_
  refine kq_cV (st1 := [.ref (ad (j + 32))]) ⟨hx, hb, hml, hown, hts⟩ (c_definedIndex_ok u (k := j) (by omega) hd) (cwV 1 hts gX4_182_X4_definedIndex rfl rfl rfl (by decide +kernel) ⟨Nat.le_of_ble_eq_true rfl, Nat.le_of_ble_eq_true rfl⟩) tm_Gok hK hP hD hA hG hS (va_recv hK hP (ci := 4) (q0 := 0) rfl (tm_at (i := 0) (by omega) rfl)) rfl hl.1 rfl rfl (Nat.le_of_ble_eq_true rfl) dX4_write_16 ⟨Nat.le_of_ble_eq_true rfl, Nat.le_of_ble_eq_true rfl⟩ (fun H locs hP hD hS => ?_)
  refine lv_astore (lv' := [(5, .ref (ad (j + 32))), (0, .ref (ad 0)), (1, .int (nI j)), (2, .int (nI i)), (3, .long v)]) hx hb dX4_write_19 hl (by decide) rfl (fun ls hl => ?_)
  refine lv_aload hx hb dX4_write_21 (lv_at hl 0 rfl) ?_
  refine tc_gX_policy hx hb hts inB_X1 hown hK hP (by omega) (hts _ mb_112) dX4_write_23 ?_
  refine lv_lconst (v := 0) hx hb dX4_write_26 (by decide) ?_
  refine W.lcmp hx hb dX4_write_27 ?_
  refine lv_if_eq (tgt := 46) hx hb dX4_write_28 (by decide) (fun c => absurd c (fun q => h0 (tm_cmp0.mp q))) (fun _ => ?_)
  refine lv_aload_n hx hb dX4_write_31 rfl (lv_at hl 1 rfl) ?_
  refine lv_aload hx hb dX4_write_32 (lv_at hl 0 rfl) ?_
  refine tc_gX_policy hx hb hts inB_X1 hown hK hP (by omega) (hts _ mb_112) dX4_write_34 ?_
  refine lv_aload_n hx hb dX4_write_37 rfl (lv_at hl 1 rfl) ?_
  refine tc_gT_sessions hx hb hts inB_X4 hown hK hP (hts _ mb_149) dX4_write_38 ?_
  refine lv_iload_n hx hb dX4_write_41 rfl (lv_at hl 3 rfl) ?_
  refine tc_a_sessions hx hb hK hP (by omega) dX4_write_42 ?_
  refine kq_cV (st1 := []) ⟨hx, hb, hml, hown, hts⟩ (c_allowBySession_ok u (k := i) (by omega) (u.1 7 j) h0 he hz) (cwV 2 hts gX4_130_X4_allowBySession rfl rfl rfl (by decide +kernel) ⟨Nat.le_of_ble_eq_true rfl, Nat.le_of_ble_eq_true rfl⟩) tm_Gok hK hP hD hA hG hS (va_recv hK hP (ci := 4) (q0 := 0) rfl (tm_at (i := 0) (by omega) rfl)) rfl hl.1 rfl rfl (Nat.le_of_ble_eq_true rfl) dX4_write_43 ⟨Nat.le_of_ble_eq_true rfl, Nat.le_of_ble_eq_true rfl⟩ (fun H locs hP hD hS => ?_)
  refine lv_aload_n hx hb dX4_write_46 rfl (lv_at hl 1 rfl) ?_
  refine lv_iconst (v := (nI 3)) hx hb dX4_write_47 (by decide) ?_
  exact kq_tV ⟨hx, hb, hml, hown, hts⟩ (c_useParts_no hl9 u (nI 3) hq hq2) (cwV 1 hts gX4_175_X4_useParts rfl rfl rfl (by decide +kernel) ⟨Nat.le_of_ble_eq_true rfl, Nat.le_of_ble_eq_true rfl⟩) tm_Gok hK hP hD hA hG hS (va_recv hK hP (ci := 4) (q0 := 0) rfl (tm_at (i := 0) (by omega) rfl)) rfl hl.1 rfl (Nat.le_of_ble_eq_true rfl) dX4_write_48 ⟨Nat.le_of_ble_eq_true rfl, Nat.le_of_ble_eq_true rfl⟩ hlk hEx (Nat.le_of_ble_eq_true rfl) (Nat.le_of_ble_eq_true rfl)
set_option maxHeartbeats 4000000 in
set_option maxRecDepth 100000 in
theorem m_write_pcell (u : tm_S) {j i : Nat} (hj : j < 4) (hi : i < 3) (v : Int64) (hnl : u.2.1 11 0 = 0) (hd : ¬ u.2.1 6 j = 0) (h0 : ¬ u.1 7 j = 0) (he : u.1 6 i = u.1 7 j) (hz : ¬ u.2.1 4 i = 0 → u.2.1 5 i = u.2.1 9 0)(pr : Int32) (hq : tm_fit (u.2.1 10 0) (nI 3) pr) (hk : u.2.1 7 j = 0) : kc_M l dC dI gs ad cc yX4_write wsX4_write { frames := 8, cells := 0, slots := 0, locals := 125 } [.ref (ad 0), .int (nI j), .int (nI i), .long v] u (tm_I (tm_L (tm_I (tm_I (tm_L (tm_I u 10 0 pr) 6 i 0) 4 i (nI 0)) 5 i (nI 0)) 8 j v) 8 j (nI 1)) (some (.long v)) := by
  refine kq_ofW (cc := cX4_write) (maxL := 6) (ret := (some .long)) (R0 := RX4) (by decide) rfl rfl (Nat.le_of_ble_eq_true rfl) ?_
  intro p e s m below meth c A ls hx hb hr hlk hml hown hts hP hK hD hA hG hS hl
  have hl : lv_has ls 6 [(0, .ref (ad 0)), (1, .int (nI j)), (2, .int (nI i)), (3, .long v)] := hl
  refine lv_iload_n hx hb dX4_write_0 rfl (lv_at hl 1 rfl) ?_
  refine lv_iconst (v := (nI 4)) hx hb dX4_write_1 (by decide) ?_
  refine kq_cS (st1 := []) ⟨hx, hb, hml, hown, hts⟩ (c_refuseUnlessBelow_ok u (by omega) (by omega)) (va_cwS 2 hts gX4_62_X4_refuseUnlessBelow rfl rfl rfl (by decide +kernel) ⟨Nat.le_of_ble_eq_true rfl, Nat.le_of_ble_eq_true rfl⟩) tm_Gok hK hP hD hA hG hS rfl hl.1 rfl rfl (Nat.le_of_ble_eq_true rfl) dX4_write_2 ⟨Nat.le_of_ble_eq_true rfl, Nat.le_of_ble_eq_true rfl⟩ (fun H locs hP hD hS => ?_)
  refine lv_iload_n hx hb dX4_write_5 rfl (lv_at hl 2 rfl) ?_
  refine lv_iconst (v := (nI 3)) hx hb dX4_write_6 (by decide) ?_
  refine kq_cS (st1 := []) ⟨hx, hb, hml, hown, hts⟩ (c_refuseUnlessBelow_ok u (by omega) (by omega)) (va_cwS 2 hts gX4_62_X4_refuseUnlessBelow rfl rfl rfl (by decide +kernel) ⟨Nat.le_of_ble_eq_true rfl, Nat.le_of_ble_eq_true rfl⟩) tm_Gok hK hP hD hA hG hS rfl hl.1 rfl rfl (Nat.le_of_ble_eq_true rfl) dX4_write_7 ⟨Nat.le_of_ble_eq_true rfl, Nat.le_of_ble_eq_true rfl⟩ (fun H locs hP hD hS => ?_)
  refine lv_aload_n hx hb dX4_write_10 rfl (lv_at hl 0 rfl) ?_
  refine kq_cV (st1 := []) ⟨hx, hb, hml, hown, hts⟩ (c_refuseWhenLost_ok u hnl) (cwV 0 hts gX4_66_X4_refuseWhenLost rfl rfl rfl (by decide +kernel) ⟨Nat.le_of_ble_eq_true rfl, Nat.le_of_ble_eq_true rfl⟩) tm_Gok hK hP hD hA hG hS (va_recv hK hP (ci := 4) (q0 := 0) rfl (tm_at (i := 0) (by omega) rfl)) rfl hl.1 rfl rfl (Nat.le_of_ble_eq_true rfl) dX4_write_11 ⟨Nat.le_of_ble_eq_true rfl, Nat.le_of_ble_eq_true rfl⟩ (fun H locs hP hD hS => ?_)
  refine lv_aload_n hx hb dX4_write_14 rfl (lv_at hl 0 rfl) ?_
  refine lv_iload_n hx hb dX4_write_15 rfl (lv_at hl 1 rfl) ?_
  refine kq_cV (st1 := [.ref (ad (j + 32))]) ⟨hx, hb, hml, hown, hts⟩ (c_definedIndex_ok u (k := j) (by omega) hd) (cwV 1 hts gX4_182_X4_definedIndex rfl rfl rfl (by decide +kernel) ⟨Nat.le_of_ble_eq_true rfl, Nat.le_of_ble_eq_true rfl⟩) tm_Gok hK hP hD hA hG hS (va_recv hK hP (ci := 4) (q0 := 0) rfl (tm_at (i := 0) (by omega) rfl)) rfl hl.1 rfl rfl (Nat.le_of_ble_eq_true rfl) dX4_write_16 ⟨Nat.le_of_ble_eq_true rfl, Nat.le_of_ble_eq_true rfl⟩ (fun H locs hP hD hS => ?_)
  refine lv_astore (lv' := [(5, .ref (ad (j + 32))), (0, .ref (ad 0)), (1, .int (nI j)), (2, .int (nI i)), (3, .long v)]) hx hb dX4_write_19 hl (by decide) rfl (fun ls hl => ?_)
  refine lv_aload hx hb dX4_write_21 (lv_at hl 0 rfl) ?_
  refine tc_gX_policy hx hb hts inB_X1 hown hK hP (by omega) (hts _ mb_112) dX4_write_23 ?_
  refine lv_lconst (v := 0) hx hb dX4_write_26 (by decide) ?_
  refine W.lcmp hx hb dX4_write_27 ?_
  refine lv_if_eq (tgt := 46) hx hb dX4_write_28 (by decide) (fun c => absurd c (fun q => h0 (tm_cmp0.mp q))) (fun _ => ?_)
  refine lv_aload_n hx hb dX4_write_31 rfl (lv_at hl 1 rfl) ?_
  refine lv_aload hx hb dX4_write_32 (lv_at hl 0 rfl) ?_
  refine tc_gX_policy hx hb hts inB_X1 hown hK hP (by omega) (hts _ mb_112) dX4_write_34 ?_
  refine lv_aload_n hx hb dX4_write_37 rfl (lv_at hl 1 rfl) ?_
  refine tc_gT_sessions hx hb hts inB_X4 hown hK hP (hts _ mb_149) dX4_write_38 ?_
  refine lv_iload_n hx hb dX4_write_41 rfl (lv_at hl 3 rfl) ?_
  refine tc_a_sessions hx hb hK hP (by omega) dX4_write_42 ?_
  refine kq_cV (st1 := []) ⟨hx, hb, hml, hown, hts⟩ (c_allowBySession_ok u (k := i) (by omega) (u.1 7 j) h0 he hz) (cwV 2 hts gX4_130_X4_allowBySession rfl rfl rfl (by decide +kernel) ⟨Nat.le_of_ble_eq_true rfl, Nat.le_of_ble_eq_true rfl⟩) tm_Gok hK hP hD hA hG hS (va_recv hK hP (ci := 4) (q0 := 0) rfl (tm_at (i := 0) (by omega) rfl)) rfl hl.1 rfl rfl (Nat.le_of_ble_eq_true rfl) dX4_write_43 ⟨Nat.le_of_ble_eq_true rfl, Nat.le_of_ble_eq_true rfl⟩ (fun H locs hP hD hS => ?_)
  refine lv_aload_n hx hb dX4_write_46 rfl (lv_at hl 1 rfl) ?_
  refine lv_iconst (v := (nI 3)) hx hb dX4_write_47 (by decide) ?_
  refine kq_cV (st1 := []) ⟨hx, hb, hml, hown, hts⟩ (c_useParts_fit u (nI 3) pr hq) (cwV 1 hts gX4_175_X4_useParts rfl rfl rfl (by decide +kernel) ⟨Nat.le_of_ble_eq_true rfl, Nat.le_of_ble_eq_true rfl⟩) tm_Gok hK hP hD hA hG hS (va_recv hK hP (ci := 4) (q0 := 0) rfl (tm_at (i := 0) (by omega) rfl)) rfl hl.1 rfl rfl (Nat.le_of_ble_eq_true rfl) dX4_write_48 ⟨Nat.le_of_ble_eq_true rfl, Nat.le_of_ble_eq_true rfl⟩ (fun H locs hP hD hS => ?_)
  refine lv_aload hx hb dX4_write_51 (lv_at hl 0 rfl) ?_
  refine tc_gX_policy hx hb hts inB_X1 hown hK hP (by omega) (hts _ mb_112) dX4_write_53 ?_
  refine kq_tl (y := (u.1 7 j)) (by simp [tm_L, tm_I, tm_D]) ?_
  refine lv_lconst (v := 0) hx hb dX4_write_56 (by decide) ?_
  refine W.lcmp hx hb dX4_write_57 ?_
  refine lv_if_eq (tgt := 70) hx hb dX4_write_58 (by decide) (fun c => absurd c (fun q => h0 (tm_cmp0.mp q))) (fun _ => ?_)
  refine lv_aload_n hx hb dX4_write_61 rfl (lv_at hl 1 rfl) ?_
  refine tc_gT_sessions hx hb hts inB_X4 hown hK hP (hts _ mb_149) dX4_write_62 ?_
  refine lv_iload_n hx hb dX4_write_65 rfl (lv_at hl 3 rfl) ?_
  refine tc_a_sessions hx hb hK hP (by omega) dX4_write_66 ?_
  refine kq_cV (st1 := []) ⟨hx, hb, hml, hown, hts⟩ (c_beginAnew (tm_I u 10 0 pr) (k := i) (by omega)) (cwV 0 hts gX4_134_X3_beginAnew rfl rfl rfl (by decide +kernel) ⟨Nat.le_of_ble_eq_true rfl, Nat.le_of_ble_eq_true rfl⟩) tm_Gok hK hP hD hA hG hS (va_recv hK hP (ci := 3) (q0 := i + 29) rfl (tm_at (i := i + 29) (by omega) (tc_Y (by omega)))) rfl hl.1 rfl rfl (Nat.le_of_ble_eq_true rfl) dX4_write_67 ⟨Nat.le_of_ble_eq_true rfl, Nat.le_of_ble_eq_true rfl⟩ (fun H locs hP hD hS => ?_)
  refine lv_aload hx hb dX4_write_70 (lv_at hl 0 rfl) ?_
  refine lv_aload hx hb dX4_write_72 (lv_at hl 0 rfl) ?_
  refine tc_gX_counter hx hb hts inB_X1 hown hK hP (by omega) (hts _ mb_110) dX4_write_74 ?_
  refine kq_ti (y := (u.2.1 7 j)) (by simp [tm_L, tm_I, tm_D]) ?_
  refine lv_if_eq (tgt := 87) hx hb dX4_write_77 (by decide) (fun _ => ?_) (fun c => absurd hk c)
  refine lv_lload_n hx hb dX4_write_87 rfl (lv_at hl 4 rfl) ?_
  refine tc_pX_value hx hb hts inB_X1 hown hK hP hD hS (by omega) (hts _ mb_116) dX4_write_88 (fun H locs hP hD hS => ?_)
  refine lv_aload hx hb dX4_write_91 (lv_at hl 0 rfl) ?_
  refine lv_iconst (v := (nI 1)) hx hb dX4_write_93 (by decide) ?_
  refine tc_pX_written hx hb hts inB_X1 hown hK hP hD hS (by omega) (by first | rfl | decide) (by first | rfl | decide) (hts _ mb_114) dX4_write_94 (fun H locs hP hD hS => ?_)
  refine lv_aload hx hb dX4_write_97 (lv_at hl 0 rfl) ?_
  refine tc_gX_value hx hb hts inB_X1 hown hK hP (by omega) (hts _ mb_116) dX4_write_99 ?_
  refine kq_tl (y := v) (by simp [tm_L, tm_I, tm_D]) ?_
  exact kq_lret hx hb hr hlk hP hD hS dX4_write_102
set_option maxHeartbeats 4000000 in
set_option maxRecDepth 100000 in
theorem m_write_pcnt (u : tm_S) {j i : Nat} (hj : j < 4) (hi : i < 3) (v : Int64) (hnl : u.2.1 11 0 = 0) (hd : ¬ u.2.1 6 j = 0) (h0 : ¬ u.1 7 j = 0) (he : u.1 6 i = u.1 7 j) (hz : ¬ u.2.1 4 i = 0 → u.2.1 5 i = u.2.1 9 0)(pr : Int32) (hq : tm_fit (u.2.1 10 0) (nI 3) pr) (hk : ¬ u.2.1 7 j = 0) : kc_M l dC dI gs ad cc yX4_write wsX4_write { frames := 8, cells := 0, slots := 0, locals := 125 } [.ref (ad 0), .int (nI j), .int (nI i), .long v] u (tm_I (tm_L (tm_L (tm_I (tm_I (tm_L (tm_I u 10 0 pr) 6 i 0) 4 i (nI 0)) 5 i (nI 0)) 9 0 ((u.1 9 0) + 1)) 8 j ((u.1 9 0) + 1)) 8 j (nI 1)) (some (.long ((u.1 9 0) + 1))) := by
  refine kq_ofW (cc := cX4_write) (maxL := 6) (ret := (some .long)) (R0 := RX4) (by decide) rfl rfl (Nat.le_of_ble_eq_true rfl) ?_
  intro p e s m below meth c A ls hx hb hr hlk hml hown hts hP hK hD hA hG hS hl
  have hl : lv_has ls 6 [(0, .ref (ad 0)), (1, .int (nI j)), (2, .int (nI i)), (3, .long v)] := hl
  refine lv_iload_n hx hb dX4_write_0 rfl (lv_at hl 1 rfl) ?_
  refine lv_iconst (v := (nI 4)) hx hb dX4_write_1 (by decide) ?_
  refine kq_cS (st1 := []) ⟨hx, hb, hml, hown, hts⟩ (c_refuseUnlessBelow_ok u (by omega) (by omega)) (va_cwS 2 hts gX4_62_X4_refuseUnlessBelow rfl rfl rfl (by decide +kernel) ⟨Nat.le_of_ble_eq_true rfl, Nat.le_of_ble_eq_true rfl⟩) tm_Gok hK hP hD hA hG hS rfl hl.1 rfl rfl (Nat.le_of_ble_eq_true rfl) dX4_write_2 ⟨Nat.le_of_ble_eq_true rfl, Nat.le_of_ble_eq_true rfl⟩ (fun H locs hP hD hS => ?_)
  refine lv_iload_n hx hb dX4_write_5 rfl (lv_at hl 2 rfl) ?_
  refine lv_iconst (v := (nI 3)) hx hb dX4_write_6 (by decide) ?_
  refine kq_cS (st1 := []) ⟨hx, hb, hml, hown, hts⟩ (c_refuseUnlessBelow_ok u (by omega) (by omega)) (va_cwS 2 hts gX4_62_X4_refuseUnlessBelow rfl rfl rfl (by decide +kernel) ⟨Nat.le_of_ble_eq_true rfl, Nat.le_of_ble_eq_true rfl⟩) tm_Gok hK hP hD hA hG hS rfl hl.1 rfl rfl (Nat.le_of_ble_eq_true rfl) dX4_write_7 ⟨Nat.le_of_ble_eq_true rfl, Nat.le_of_ble_eq_true rfl⟩ (fun H locs hP hD hS => ?_)
  refine lv_aload_n hx hb dX4_write_10 rfl (lv_at hl 0 rfl) ?_
  refine kq_cV (st1 := []) ⟨hx, hb, hml, hown, hts⟩ (c_refuseWhenLost_ok u hnl) (cwV 0 hts gX4_66_X4_refuseWhenLost rfl rfl rfl (by decide +kernel) ⟨Nat.le_of_ble_eq_true rfl, Nat.le_of_ble_eq_true rfl⟩) tm_Gok hK hP hD hA hG hS (va_recv hK hP (ci := 4) (q0 := 0) rfl (tm_at (i := 0) (by omega) rfl)) rfl hl.1 rfl rfl (Nat.le_of_ble_eq_true rfl) dX4_write_11 ⟨Nat.le_of_ble_eq_true rfl, Nat.le_of_ble_eq_true rfl⟩ (fun H locs hP hD hS => ?_)
  refine lv_aload_n hx hb dX4_write_14 rfl (lv_at hl 0 rfl) ?_
  refine lv_iload_n hx hb dX4_write_15 rfl (lv_at hl 1 rfl) ?_
  refine kq_cV (st1 := [.ref (ad (j + 32))]) ⟨hx, hb, hml, hown, hts⟩ (c_definedIndex_ok u (k := j) (by omega) hd) (cwV 1 hts gX4_182_X4_definedIndex rfl rfl rfl (by decide +kernel) ⟨Nat.le_of_ble_eq_true rfl, Nat.le_of_ble_eq_true rfl⟩) tm_Gok hK hP hD hA hG hS (va_recv hK hP (ci := 4) (q0 := 0) rfl (tm_at (i := 0) (by omega) rfl)) rfl hl.1 rfl rfl (Nat.le_of_ble_eq_true rfl) dX4_write_16 ⟨Nat.le_of_ble_eq_true rfl, Nat.le_of_ble_eq_true rfl⟩ (fun H locs hP hD hS => ?_)
  refine lv_astore (lv' := [(5, .ref (ad (j + 32))), (0, .ref (ad 0)), (1, .int (nI j)), (2, .int (nI i)), (3, .long v)]) hx hb dX4_write_19 hl (by decide) rfl (fun ls hl => ?_)
  refine lv_aload hx hb dX4_write_21 (lv_at hl 0 rfl) ?_
  refine tc_gX_policy hx hb hts inB_X1 hown hK hP (by omega) (hts _ mb_112) dX4_write_23 ?_
  refine lv_lconst (v := 0) hx hb dX4_write_26 (by decide) ?_
  refine W.lcmp hx hb dX4_write_27 ?_
  refine lv_if_eq (tgt := 46) hx hb dX4_write_28 (by decide) (fun c => absurd c (fun q => h0 (tm_cmp0.mp q))) (fun _ => ?_)
  refine lv_aload_n hx hb dX4_write_31 rfl (lv_at hl 1 rfl) ?_
  refine lv_aload hx hb dX4_write_32 (lv_at hl 0 rfl) ?_
  refine tc_gX_policy hx hb hts inB_X1 hown hK hP (by omega) (hts _ mb_112) dX4_write_34 ?_
  refine lv_aload_n hx hb dX4_write_37 rfl (lv_at hl 1 rfl) ?_
  refine tc_gT_sessions hx hb hts inB_X4 hown hK hP (hts _ mb_149) dX4_write_38 ?_
  refine lv_iload_n hx hb dX4_write_41 rfl (lv_at hl 3 rfl) ?_
  refine tc_a_sessions hx hb hK hP (by omega) dX4_write_42 ?_
  refine kq_cV (st1 := []) ⟨hx, hb, hml, hown, hts⟩ (c_allowBySession_ok u (k := i) (by omega) (u.1 7 j) h0 he hz) (cwV 2 hts gX4_130_X4_allowBySession rfl rfl rfl (by decide +kernel) ⟨Nat.le_of_ble_eq_true rfl, Nat.le_of_ble_eq_true rfl⟩) tm_Gok hK hP hD hA hG hS (va_recv hK hP (ci := 4) (q0 := 0) rfl (tm_at (i := 0) (by omega) rfl)) rfl hl.1 rfl rfl (Nat.le_of_ble_eq_true rfl) dX4_write_43 ⟨Nat.le_of_ble_eq_true rfl, Nat.le_of_ble_eq_true rfl⟩ (fun H locs hP hD hS => ?_)
  refine lv_aload_n hx hb dX4_write_46 rfl (lv_at hl 1 rfl) ?_
  refine lv_iconst (v := (nI 3)) hx hb dX4_write_47 (by decide) ?_
  refine kq_cV (st1 := []) ⟨hx, hb, hml, hown, hts⟩ (c_useParts_fit u (nI 3) pr hq) (cwV 1 hts gX4_175_X4_useParts rfl rfl rfl (by decide +kernel) ⟨Nat.le_of_ble_eq_true rfl, Nat.le_of_ble_eq_true rfl⟩) tm_Gok hK hP hD hA hG hS (va_recv hK hP (ci := 4) (q0 := 0) rfl (tm_at (i := 0) (by omega) rfl)) rfl hl.1 rfl rfl (Nat.le_of_ble_eq_true rfl) dX4_write_48 ⟨Nat.le_of_ble_eq_true rfl, Nat.le_of_ble_eq_true rfl⟩ (fun H locs hP hD hS => ?_)
  refine lv_aload hx hb dX4_write_51 (lv_at hl 0 rfl) ?_
  refine tc_gX_policy hx hb hts inB_X1 hown hK hP (by omega) (hts _ mb_112) dX4_write_53 ?_
  refine kq_tl (y := (u.1 7 j)) (by simp [tm_L, tm_I, tm_D]) ?_
  refine lv_lconst (v := 0) hx hb dX4_write_56 (by decide) ?_
  refine W.lcmp hx hb dX4_write_57 ?_
  refine lv_if_eq (tgt := 70) hx hb dX4_write_58 (by decide) (fun c => absurd c (fun q => h0 (tm_cmp0.mp q))) (fun _ => ?_)
  refine lv_aload_n hx hb dX4_write_61 rfl (lv_at hl 1 rfl) ?_
  refine tc_gT_sessions hx hb hts inB_X4 hown hK hP (hts _ mb_149) dX4_write_62 ?_
  refine lv_iload_n hx hb dX4_write_65 rfl (lv_at hl 3 rfl) ?_
  refine tc_a_sessions hx hb hK hP (by omega) dX4_write_66 ?_
  refine kq_cV (st1 := []) ⟨hx, hb, hml, hown, hts⟩ (c_beginAnew (tm_I u 10 0 pr) (k := i) (by omega)) (cwV 0 hts gX4_134_X3_beginAnew rfl rfl rfl (by decide +kernel) ⟨Nat.le_of_ble_eq_true rfl, Nat.le_of_ble_eq_true rfl⟩) tm_Gok hK hP hD hA hG hS (va_recv hK hP (ci := 3) (q0 := i + 29) rfl (tm_at (i := i + 29) (by omega) (tc_Y (by omega)))) rfl hl.1 rfl rfl (Nat.le_of_ble_eq_true rfl) dX4_write_67 ⟨Nat.le_of_ble_eq_true rfl, Nat.le_of_ble_eq_true rfl⟩ (fun H locs hP hD hS => ?_)
  refine lv_aload hx hb dX4_write_70 (lv_at hl 0 rfl) ?_
  refine lv_aload hx hb dX4_write_72 (lv_at hl 0 rfl) ?_
  refine tc_gX_counter hx hb hts inB_X1 hown hK hP (by omega) (hts _ mb_110) dX4_write_74 ?_
  refine kq_ti (y := (u.2.1 7 j)) (by simp [tm_L, tm_I, tm_D]) ?_
  refine lv_if_eq (tgt := 87) hx hb dX4_write_77 (by decide) (fun c => absurd c hk) (fun _ => ?_)
  refine lv_aload_n hx hb dX4_write_80 rfl (lv_at hl 1 rfl) ?_
  refine kq_cV (st1 := [.long ((u.1 9 0) + 1), .ref (ad (j + 32))]) ⟨hx, hb, hml, hown, hts⟩ (c_nextCounted (tm_I (tm_I (tm_L (tm_I u 10 0 pr) 6 i 0) 4 i (nI 0)) 5 i (nI 0))) (cwV 0 hts gX4_190_X4_nextCounted rfl rfl rfl (by decide +kernel) ⟨Nat.le_of_ble_eq_true rfl, Nat.le_of_ble_eq_true rfl⟩) tm_Gok hK hP hD hA hG hS (va_recv hK hP (ci := 4) (q0 := 0) rfl (tm_at (i := 0) (by omega) rfl)) rfl hl.1 rfl rfl (Nat.le_of_ble_eq_true rfl) dX4_write_81 ⟨Nat.le_of_ble_eq_true rfl, Nat.le_of_ble_eq_true rfl⟩ (fun H locs hP hD hS => ?_)
  refine lv_goto (tgt := 88) hx hb dX4_write_84 (by decide) ?_
  refine tc_pX_value hx hb hts inB_X1 hown hK hP hD hS (by omega) (hts _ mb_116) dX4_write_88 (fun H locs hP hD hS => ?_)
  refine lv_aload hx hb dX4_write_91 (lv_at hl 0 rfl) ?_
  refine lv_iconst (v := (nI 1)) hx hb dX4_write_93 (by decide) ?_
  refine tc_pX_written hx hb hts inB_X1 hown hK hP hD hS (by omega) (by first | rfl | decide) (by first | rfl | decide) (hts _ mb_114) dX4_write_94 (fun H locs hP hD hS => ?_)
  refine lv_aload hx hb dX4_write_97 (lv_at hl 0 rfl) ?_
  refine tc_gX_value hx hb hts inB_X1 hown hK hP (by omega) (hts _ mb_116) dX4_write_99 ?_
  refine kq_tl (y := ((u.1 9 0) + 1)) (by simp [tm_L, tm_I, tm_D]) ?_
  exact kq_lret hx hb hr hlk hP hD hS dX4_write_102
set_option maxHeartbeats 4000000 in
set_option maxRecDepth 100000 in
theorem m_read_b1 (hl9 : l.stackTraces = false) (u : tm_S) (x : Int32) (h : x < 0 ∨ nI 4 ≤ x)  : kc_T l dC dI gs ad cc yX4_read wsX4_read { frames := 8, cells := 1, slots := 6, locals := 125 } [.ref (ad 0), .int x] u u "java/lang/IllegalArgumentException" := by
  refine kq_ofT (cc := cX4_read) (maxL := 3) (ret := (some .long)) (R0 := RX4) (by decide) rfl rfl (Nat.le_of_ble_eq_true rfl) ?_
  intro p e s m below meth c A ls hx hb hr hlk hml hown hts hP hK hD hA hG hS hl hEx
  have hl : lv_has ls 3 [(0, .ref (ad 0)), (1, .int x)] := hl
  refine lv_iload_n hx hb dX4_read_0 rfl (lv_at hl 1 rfl) ?_
  refine lv_iconst (v := (nI 4)) hx hb dX4_read_1 (by decide) ?_
  exact kq_tS ⟨hx, hb, hml, hown, hts⟩ (c_refuseUnlessBelow_no hl9 u h (by omega) (by omega)) (va_cwS 2 hts gX4_62_X4_refuseUnlessBelow rfl rfl rfl (by decide +kernel) ⟨Nat.le_of_ble_eq_true rfl, Nat.le_of_ble_eq_true rfl⟩) tm_Gok hK hP hD hA hG hS rfl hl.1 rfl (Nat.le_of_ble_eq_true rfl) dX4_read_2 ⟨Nat.le_of_ble_eq_true rfl, Nat.le_of_ble_eq_true rfl⟩ hlk hEx (Nat.le_of_ble_eq_true rfl) (Nat.le_of_ble_eq_true rfl)
set_option maxHeartbeats 4000000 in
set_option maxRecDepth 100000 in
theorem m_read_lo (hl9 : l.stackTraces = false) (u : tm_S) {j : Nat} (hj : j < 4) (hlo : ¬ u.2.1 11 0 = 0)  : kc_T l dC dI gs ad cc yX4_read wsX4_read { frames := 8, cells := 1, slots := 6, locals := 125 } [.ref (ad 0), .int (nI j)] u u "java/lang/IllegalStateException" := by
  refine kq_ofT (cc := cX4_read) (maxL := 3) (ret := (some .long)) (R0 := RX4) (by decide) rfl rfl (Nat.le_of_ble_eq_true rfl) ?_
  intro p e s m below meth c A ls hx hb hr hlk hml hown hts hP hK hD hA hG hS hl hEx
  have hl : lv_has ls 3 [(0, .ref (ad 0)), (1, .int (nI j))] := hl
  refine lv_iload_n hx hb dX4_read_0 rfl (lv_at hl 1 rfl) ?_
  refine lv_iconst (v := (nI 4)) hx hb dX4_read_1 (by decide) ?_
  refine kq_cS (st1 := []) ⟨hx, hb, hml, hown, hts⟩ (c_refuseUnlessBelow_ok u (by omega) (by omega)) (va_cwS 2 hts gX4_62_X4_refuseUnlessBelow rfl rfl rfl (by decide +kernel) ⟨Nat.le_of_ble_eq_true rfl, Nat.le_of_ble_eq_true rfl⟩) tm_Gok hK hP hD hA hG hS rfl hl.1 rfl rfl (Nat.le_of_ble_eq_true rfl) dX4_read_2 ⟨Nat.le_of_ble_eq_true rfl, Nat.le_of_ble_eq_true rfl⟩ (fun H locs hP hD hS => ?_)
  refine lv_aload_n hx hb dX4_read_5 rfl (lv_at hl 0 rfl) ?_
  exact kq_tV ⟨hx, hb, hml, hown, hts⟩ (c_refuseWhenLost_no hl9 u hlo) (cwV 0 hts gX4_66_X4_refuseWhenLost rfl rfl rfl (by decide +kernel) ⟨Nat.le_of_ble_eq_true rfl, Nat.le_of_ble_eq_true rfl⟩) tm_Gok hK hP hD hA hG hS (va_recv hK hP (ci := 4) (q0 := 0) rfl (tm_at (i := 0) (by omega) rfl)) rfl hl.1 rfl (Nat.le_of_ble_eq_true rfl) dX4_read_6 ⟨Nat.le_of_ble_eq_true rfl, Nat.le_of_ble_eq_true rfl⟩ hlk hEx (Nat.le_of_ble_eq_true rfl) (Nat.le_of_ble_eq_true rfl)
set_option maxHeartbeats 4000000 in
set_option maxRecDepth 100000 in
theorem m_read_und (hl9 : l.stackTraces = false) (u : tm_S) {j : Nat} (hj : j < 4) (hnl : u.2.1 11 0 = 0) (hd : u.2.1 6 j = 0) : kc_T l dC dI gs ad cc yX4_read wsX4_read { frames := 8, cells := 1, slots := 6, locals := 125 } [.ref (ad 0), .int (nI j)] u u "java/util/NoSuchElementException" := by
  refine kq_ofT (cc := cX4_read) (maxL := 3) (ret := (some .long)) (R0 := RX4) (by decide) rfl rfl (Nat.le_of_ble_eq_true rfl) ?_
  intro p e s m below meth c A ls hx hb hr hlk hml hown hts hP hK hD hA hG hS hl hEx
  have hl : lv_has ls 3 [(0, .ref (ad 0)), (1, .int (nI j))] := hl
  refine lv_iload_n hx hb dX4_read_0 rfl (lv_at hl 1 rfl) ?_
  refine lv_iconst (v := (nI 4)) hx hb dX4_read_1 (by decide) ?_
  refine kq_cS (st1 := []) ⟨hx, hb, hml, hown, hts⟩ (c_refuseUnlessBelow_ok u (by omega) (by omega)) (va_cwS 2 hts gX4_62_X4_refuseUnlessBelow rfl rfl rfl (by decide +kernel) ⟨Nat.le_of_ble_eq_true rfl, Nat.le_of_ble_eq_true rfl⟩) tm_Gok hK hP hD hA hG hS rfl hl.1 rfl rfl (Nat.le_of_ble_eq_true rfl) dX4_read_2 ⟨Nat.le_of_ble_eq_true rfl, Nat.le_of_ble_eq_true rfl⟩ (fun H locs hP hD hS => ?_)
  refine lv_aload_n hx hb dX4_read_5 rfl (lv_at hl 0 rfl) ?_
  refine kq_cV (st1 := []) ⟨hx, hb, hml, hown, hts⟩ (c_refuseWhenLost_ok u hnl) (cwV 0 hts gX4_66_X4_refuseWhenLost rfl rfl rfl (by decide +kernel) ⟨Nat.le_of_ble_eq_true rfl, Nat.le_of_ble_eq_true rfl⟩) tm_Gok hK hP hD hA hG hS (va_recv hK hP (ci := 4) (q0 := 0) rfl (tm_at (i := 0) (by omega) rfl)) rfl hl.1 rfl rfl (Nat.le_of_ble_eq_true rfl) dX4_read_6 ⟨Nat.le_of_ble_eq_true rfl, Nat.le_of_ble_eq_true rfl⟩ (fun H locs hP hD hS => ?_)
  refine lv_aload_n hx hb dX4_read_9 rfl (lv_at hl 0 rfl) ?_
  refine lv_iload_n hx hb dX4_read_10 rfl (lv_at hl 1 rfl) ?_
  exact kq_tV ⟨hx, hb, hml, hown, hts⟩ (c_definedIndex_no hl9 u (k := j) (by omega) hd) (cwV 1 hts gX4_182_X4_definedIndex rfl rfl rfl (by decide +kernel) ⟨Nat.le_of_ble_eq_true rfl, Nat.le_of_ble_eq_true rfl⟩) tm_Gok hK hP hD hA hG hS (va_recv hK hP (ci := 4) (q0 := 0) rfl (tm_at (i := 0) (by omega) rfl)) rfl hl.1 rfl (Nat.le_of_ble_eq_true rfl) dX4_read_11 ⟨Nat.le_of_ble_eq_true rfl, Nat.le_of_ble_eq_true rfl⟩ hlk hEx (Nat.le_of_ble_eq_true rfl) (Nat.le_of_ble_eq_true rfl)
set_option maxHeartbeats 4000000 in
set_option maxRecDepth 100000 in
theorem m_read_unw (hl9 : l.stackTraces = false) (u : tm_S) {j : Nat} (hj : j < 4) (hnl : u.2.1 11 0 = 0) (hd : ¬ u.2.1 6 j = 0) (hw : u.2.1 8 j = 0) : kc_T l dC dI gs ad cc yX4_read wsX4_read { frames := 8, cells := 1, slots := 6, locals := 125 } [.ref (ad 0), .int (nI j)] u u "java/util/NoSuchElementException" := by
  refine kq_ofT (cc := cX4_read) (maxL := 3) (ret := (some .long)) (R0 := RX4) (by decide) rfl rfl (Nat.le_of_ble_eq_true rfl) ?_
  intro p e s m below meth c A ls hx hb hr hlk hml hown hts hP hK hD hA hG hS hl hEx
  have hl : lv_has ls 3 [(0, .ref (ad 0)), (1, .int (nI j))] := hl
  refine lv_iload_n hx hb dX4_read_0 rfl (lv_at hl 1 rfl) ?_
  refine lv_iconst (v := (nI 4)) hx hb dX4_read_1 (by decide) ?_
  refine kq_cS (st1 := []) ⟨hx, hb, hml, hown, hts⟩ (c_refuseUnlessBelow_ok u (by omega) (by omega)) (va_cwS 2 hts gX4_62_X4_refuseUnlessBelow rfl rfl rfl (by decide +kernel) ⟨Nat.le_of_ble_eq_true rfl, Nat.le_of_ble_eq_true rfl⟩) tm_Gok hK hP hD hA hG hS rfl hl.1 rfl rfl (Nat.le_of_ble_eq_true rfl) dX4_read_2 ⟨Nat.le_of_ble_eq_true rfl, Nat.le_of_ble_eq_true rfl⟩ (fun H locs hP hD hS => ?_)
  refine lv_aload_n hx hb dX4_read_5 rfl (lv_at hl 0 rfl) ?_
  refine kq_cV (st1 := []) ⟨hx, hb, hml, hown, hts⟩ (c_refuseWhenLost_ok u hnl) (cwV 0 hts gX4_66_X4_refuseWhenLost rfl rfl rfl (by decide +kernel) ⟨Nat.le_of_ble_eq_true rfl, Nat.le_of_ble_eq_true rfl⟩) tm_Gok hK hP hD hA hG hS (va_recv hK hP (ci := 4) (q0 := 0) rfl (tm_at (i := 0) (by omega) rfl)) rfl hl.1 rfl rfl (Nat.le_of_ble_eq_true rfl) dX4_read_6 ⟨Nat.le_of_ble_eq_true rfl, Nat.le_of_ble_eq_true rfl⟩ (fun H locs hP hD hS => ?_)
  refine lv_aload_n hx hb dX4_read_9 rfl (lv_at hl 0 rfl) ?_
  refine lv_iload_n hx hb dX4_read_10 rfl (lv_at hl 1 rfl) ?_
  refine kq_cV (st1 := [.ref (ad (j + 32))]) ⟨hx, hb, hml, hown, hts⟩ (c_definedIndex_ok u (k := j) (by omega) hd) (cwV 1 hts gX4_182_X4_definedIndex rfl rfl rfl (by decide +kernel) ⟨Nat.le_of_ble_eq_true rfl, Nat.le_of_ble_eq_true rfl⟩) tm_Gok hK hP hD hA hG hS (va_recv hK hP (ci := 4) (q0 := 0) rfl (tm_at (i := 0) (by omega) rfl)) rfl hl.1 rfl rfl (Nat.le_of_ble_eq_true rfl) dX4_read_11 ⟨Nat.le_of_ble_eq_true rfl, Nat.le_of_ble_eq_true rfl⟩ (fun H locs hP hD hS => ?_)
  refine lv_astore_n (lv' := [(2, .ref (ad (j + 32))), (0, .ref (ad 0)), (1, .int (nI j))]) hx hb dX4_read_14 rfl hl (by decide) rfl (fun ls hl => ?_)
  refine lv_aload_n hx hb dX4_read_15 rfl (lv_at hl 0 rfl) ?_
  refine tc_gX_written hx hb hts inB_X1 hown hK hP (by omega) (hts _ mb_114) dX4_read_16 ?_
  refine lv_if_ne (tgt := 32) hx hb dX4_read_19 (by decide) (fun c => absurd hw c) (fun _ => ?_)
  exact tw_201 (w := false) (is := 199) hts hl9 hx hb hown (tm_Gs hG 199 "the index was never written" (by decide)) (hts _ mb_355) (hts _ mb_12) hG hS (by rw [hml]; exact hl.1) dX4_read_22 dX4_read_25 dX4_read_26 dX4_read_28 dX4_read_31 hEx (Nat.le_of_ble_eq_true rfl) (Nat.le_of_ble_eq_true rfl) (Nat.le_of_ble_eq_true rfl) (Nat.le_of_ble_eq_true rfl) hlk hP hD (Nat.le_of_ble_eq_true rfl) (Nat.le_of_ble_eq_true rfl)
set_option maxHeartbeats 4000000 in
set_option maxRecDepth 100000 in
theorem m_read_ok (u : tm_S) {j : Nat} (hj : j < 4) (hnl : u.2.1 11 0 = 0) (hd : ¬ u.2.1 6 j = 0) (hw : ¬ u.2.1 8 j = 0) : kc_M l dC dI gs ad cc yX4_read wsX4_read { frames := 8, cells := 0, slots := 0, locals := 125 } [.ref (ad 0), .int (nI j)] u u (some (.long (u.1 8 j))) := by
  refine kq_ofW (cc := cX4_read) (maxL := 3) (ret := (some .long)) (R0 := RX4) (by decide) rfl rfl (Nat.le_of_ble_eq_true rfl) ?_
  intro p e s m below meth c A ls hx hb hr hlk hml hown hts hP hK hD hA hG hS hl
  have hl : lv_has ls 3 [(0, .ref (ad 0)), (1, .int (nI j))] := hl
  refine lv_iload_n hx hb dX4_read_0 rfl (lv_at hl 1 rfl) ?_
  refine lv_iconst (v := (nI 4)) hx hb dX4_read_1 (by decide) ?_
  refine kq_cS (st1 := []) ⟨hx, hb, hml, hown, hts⟩ (c_refuseUnlessBelow_ok u (by omega) (by omega)) (va_cwS 2 hts gX4_62_X4_refuseUnlessBelow rfl rfl rfl (by decide +kernel) ⟨Nat.le_of_ble_eq_true rfl, Nat.le_of_ble_eq_true rfl⟩) tm_Gok hK hP hD hA hG hS rfl hl.1 rfl rfl (Nat.le_of_ble_eq_true rfl) dX4_read_2 ⟨Nat.le_of_ble_eq_true rfl, Nat.le_of_ble_eq_true rfl⟩ (fun H locs hP hD hS => ?_)
  refine lv_aload_n hx hb dX4_read_5 rfl (lv_at hl 0 rfl) ?_
  refine kq_cV (st1 := []) ⟨hx, hb, hml, hown, hts⟩ (c_refuseWhenLost_ok u hnl) (cwV 0 hts gX4_66_X4_refuseWhenLost rfl rfl rfl (by decide +kernel) ⟨Nat.le_of_ble_eq_true rfl, Nat.le_of_ble_eq_true rfl⟩) tm_Gok hK hP hD hA hG hS (va_recv hK hP (ci := 4) (q0 := 0) rfl (tm_at (i := 0) (by omega) rfl)) rfl hl.1 rfl rfl (Nat.le_of_ble_eq_true rfl) dX4_read_6 ⟨Nat.le_of_ble_eq_true rfl, Nat.le_of_ble_eq_true rfl⟩ (fun H locs hP hD hS => ?_)
  refine lv_aload_n hx hb dX4_read_9 rfl (lv_at hl 0 rfl) ?_
  refine lv_iload_n hx hb dX4_read_10 rfl (lv_at hl 1 rfl) ?_
  refine kq_cV (st1 := [.ref (ad (j + 32))]) ⟨hx, hb, hml, hown, hts⟩ (c_definedIndex_ok u (k := j) (by omega) hd) (cwV 1 hts gX4_182_X4_definedIndex rfl rfl rfl (by decide +kernel) ⟨Nat.le_of_ble_eq_true rfl, Nat.le_of_ble_eq_true rfl⟩) tm_Gok hK hP hD hA hG hS (va_recv hK hP (ci := 4) (q0 := 0) rfl (tm_at (i := 0) (by omega) rfl)) rfl hl.1 rfl rfl (Nat.le_of_ble_eq_true rfl) dX4_read_11 ⟨Nat.le_of_ble_eq_true rfl, Nat.le_of_ble_eq_true rfl⟩ (fun H locs hP hD hS => ?_)
  refine lv_astore_n (lv' := [(2, .ref (ad (j + 32))), (0, .ref (ad 0)), (1, .int (nI j))]) hx hb dX4_read_14 rfl hl (by decide) rfl (fun ls hl => ?_)
  refine lv_aload_n hx hb dX4_read_15 rfl (lv_at hl 0 rfl) ?_
  refine tc_gX_written hx hb hts inB_X1 hown hK hP (by omega) (hts _ mb_114) dX4_read_16 ?_
  refine lv_if_ne (tgt := 32) hx hb dX4_read_19 (by decide) (fun _ => ?_) (fun c => absurd c hw)
  refine lv_aload_n hx hb dX4_read_32 rfl (lv_at hl 0 rfl) ?_
  refine tc_gX_value hx hb hts inB_X1 hown hK hP (by omega) (hts _ mb_116) dX4_read_33 ?_
  exact kq_lret hx hb hr hlk hP hD hS dX4_read_36
set_option maxHeartbeats 4000000 in
set_option maxRecDepth 100000 in
theorem m_clear_lo (hl9 : l.stackTraces = false) (u : tm_S) (hlo : ¬ u.2.1 11 0 = 0)  : kc_T l dC dI gs ad cc yX4_clear wsX4_clear { frames := 7, cells := 1, slots := 6, locals := 102 } [.ref (ad 0)] u u "java/lang/IllegalStateException" := by
  refine kq_ofT (cc := cX4_clear) (maxL := 2) (ret := none) (R0 := RX4) (by decide) rfl rfl (Nat.le_of_ble_eq_true rfl) ?_
  intro p e s m below meth c A ls hx hb hr hlk hml hown hts hP hK hD hA hG hS hl hEx
  have hl : lv_has ls 2 [(0, .ref (ad 0))] := hl
  refine lv_aload_n hx hb dX4_clear_0 rfl (lv_at hl 0 rfl) ?_
  exact kq_tV ⟨hx, hb, hml, hown, hts⟩ (c_refuseWhenLost_no hl9 u hlo) (cwV 0 hts gX4_66_X4_refuseWhenLost rfl rfl rfl (by decide +kernel) ⟨Nat.le_of_ble_eq_true rfl, Nat.le_of_ble_eq_true rfl⟩) tm_Gok hK hP hD hA hG hS (va_recv hK hP (ci := 4) (q0 := 0) rfl (tm_at (i := 0) (by omega) rfl)) rfl hl.1 rfl (Nat.le_of_ble_eq_true rfl) dX4_clear_1 ⟨Nat.le_of_ble_eq_true rfl, Nat.le_of_ble_eq_true rfl⟩ hlk hEx (Nat.le_of_ble_eq_true rfl) (Nat.le_of_ble_eq_true rfl)
set_option maxHeartbeats 4000000 in
set_option maxRecDepth 100000 in
theorem m_clear_ok (u : tm_S) (hnl : u.2.1 11 0 = 0)  : kc_M l dC dI gs ad cc yX4_clear wsX4_clear { frames := 7, cells := 0, slots := 0, locals := 102 } [.ref (ad 0)] u (tm_I (tm_I (tm_I (tm_I (tm_I (tm_I (tm_I (tm_I (tm_I (tm_L u 0 0 (tm_h (u.1 0 0) 4)) 0 0 (nI 0)) 0 1 (nI 0)) 0 2 (nI 0)) 0 3 (nI 0)) 6 0 (nI 0)) 6 1 (nI 0)) 6 2 (nI 0)) 6 3 (nI 0)) 13 0 (nI 0)) none := by
  refine kq_ofW (cc := cX4_clear) (maxL := 2) (ret := none) (R0 := RX4) (by decide) rfl rfl (Nat.le_of_ble_eq_true rfl) ?_
  intro p e s m below meth c A ls hx hb hr hlk hml hown hts hP hK hD hA hG hS hl
  have hl : lv_has ls 2 [(0, .ref (ad 0))] := hl
  refine lv_aload_n hx hb dX4_clear_0 rfl (lv_at hl 0 rfl) ?_
  refine kq_cV (st1 := []) ⟨hx, hb, hml, hown, hts⟩ (c_refuseWhenLost_ok u hnl) (cwV 0 hts gX4_66_X4_refuseWhenLost rfl rfl rfl (by decide +kernel) ⟨Nat.le_of_ble_eq_true rfl, Nat.le_of_ble_eq_true rfl⟩) tm_Gok hK hP hD hA hG hS (va_recv hK hP (ci := 4) (q0 := 0) rfl (tm_at (i := 0) (by omega) rfl)) rfl hl.1 rfl rfl (Nat.le_of_ble_eq_true rfl) dX4_clear_1 ⟨Nat.le_of_ble_eq_true rfl, Nat.le_of_ble_eq_true rfl⟩ (fun H locs hP hD hS => ?_)
  refine lv_aload_n hx hb dX4_clear_4 rfl (lv_at hl 0 rfl) ?_
  refine tc_gT_seeds hx hb hts inB_X4 hown hK hP (hts _ mb_145) dX4_clear_5 ?_
  refine lv_iconst (v := (nI 0)) hx hb dX4_clear_8 (by decide) ?_
  refine lv_aload_n hx hb dX4_clear_9 rfl (lv_at hl 0 rfl) ?_
  refine tc_gT_seeds hx hb hts inB_X4 hown hK hP (hts _ mb_145) dX4_clear_10 ?_
  refine lv_iconst (v := (nI 0)) hx hb dX4_clear_13 (by decide) ?_
  refine tc_l_seed hx hb hK hP (by omega) dX4_clear_14 ?_
  refine lv_ldc2 hx hb hown (hts _ mb_598) dX4_clear_15 ?_
  refine kq_cS (st1 := [.long (tm_h (u.1 0 0) 4), .int (nI 0), .ref (ad 1)]) ⟨hx, hb, hml, hown, hts⟩ (c_hash u (u.1 0 0) 4) (va_cwS 2 hts gX4_42_X4_hash rfl rfl rfl (by decide +kernel) ⟨Nat.le_of_ble_eq_true rfl, Nat.le_of_ble_eq_true rfl⟩) tm_Gok hK hP hD hA hG hS rfl hl.1 rfl rfl (Nat.le_of_ble_eq_true rfl) dX4_clear_18 ⟨Nat.le_of_ble_eq_true rfl, Nat.le_of_ble_eq_true rfl⟩ (fun H locs hP hD hS => ?_)
  refine tc_t_seed hx hb hK hP hD hS (by omega) dX4_clear_21 (fun H locs hP hD hS => ?_)
  refine lv_aload_n hx hb dX4_clear_22 rfl (lv_at hl 0 rfl) ?_
  refine kq_cV (st1 := []) ⟨hx, hb, hml, hown, hts⟩ (c_freeHandles (tm_L u 0 0 (tm_h (u.1 0 0) 4))) (cwV 0 hts gX4_218_X4_freeHandles rfl rfl rfl (by decide +kernel) ⟨Nat.le_of_ble_eq_true rfl, Nat.le_of_ble_eq_true rfl⟩) tm_Gok hK hP hD hA hG hS (va_recv hK hP (ci := 4) (q0 := 0) rfl (tm_at (i := 0) (by omega) rfl)) rfl hl.1 rfl rfl (Nat.le_of_ble_eq_true rfl) dX4_clear_23 ⟨Nat.le_of_ble_eq_true rfl, Nat.le_of_ble_eq_true rfl⟩ (fun H locs hP hD hS => ?_)
  refine lv_iconst (v := (nI 0)) hx hb dX4_clear_26 (by decide) ?_
  refine lv_istore_n (lv' := [(1, .int (nI 0)), (0, .ref (ad 0))]) hx hb dX4_clear_27 rfl hl (by decide) rfl (fun ls hl => ?_)
  refine lv_iload_n hx hb dX4_clear_28 rfl (lv_at hl 0 rfl) ?_
  refine lv_iconst (v := (nI 4)) hx hb dX4_clear_29 (by decide) ?_
  refine lv_icmp_ge (tgt := 49) hx hb dX4_clear_30 (by decide) (fun c => absurd c (by decide)) (fun _ => ?_)
  refine lv_aload_n hx hb dX4_clear_33 rfl (lv_at hl 1 rfl) ?_
  refine tc_gT_indices hx hb hts inB_X4 hown hK hP (hts _ mb_150) dX4_clear_34 ?_
  refine lv_iload_n hx hb dX4_clear_37 rfl (lv_at hl 0 rfl) ?_
  refine tc_a_indices hx hb hK hP (by omega) dX4_clear_38 ?_
  refine lv_iconst (v := (nI 0)) hx hb dX4_clear_39 (by decide) ?_
  refine tc_pX_defined hx hb hts inB_X1 hown hK hP hD hS (by omega) (by first | rfl | decide) (by first | rfl | decide) (hts _ mb_108) dX4_clear_40 (fun H locs hP hD hS => ?_)
  refine lv_iinc (v := (nI 1)) (lv' := [(1, .int (nI 1)), (0, .ref (ad 0))]) hx hb dX4_clear_43 hl (k := 0) rfl (by decide) (by decide) rfl (fun ls hl => ?_)
  refine lv_goto (tgt := 28) hx hb dX4_clear_46 (by decide) ?_
  refine lv_iload_n hx hb dX4_clear_28 rfl (lv_at hl 0 rfl) ?_
  refine lv_iconst (v := (nI 4)) hx hb dX4_clear_29 (by decide) ?_
  refine lv_icmp_ge (tgt := 49) hx hb dX4_clear_30 (by decide) (fun c => absurd c (by decide)) (fun _ => ?_)
  refine lv_aload_n hx hb dX4_clear_33 rfl (lv_at hl 1 rfl) ?_
  refine tc_gT_indices hx hb hts inB_X4 hown hK hP (hts _ mb_150) dX4_clear_34 ?_
  refine lv_iload_n hx hb dX4_clear_37 rfl (lv_at hl 0 rfl) ?_
  refine tc_a_indices hx hb hK hP (by omega) dX4_clear_38 ?_
  refine lv_iconst (v := (nI 0)) hx hb dX4_clear_39 (by decide) ?_
  refine tc_pX_defined hx hb hts inB_X1 hown hK hP hD hS (by omega) (by first | rfl | decide) (by first | rfl | decide) (hts _ mb_108) dX4_clear_40 (fun H locs hP hD hS => ?_)
  refine lv_iinc (v := (nI 2)) (lv' := [(1, .int (nI 2)), (0, .ref (ad 0))]) hx hb dX4_clear_43 hl (k := 0) rfl (by decide) (by decide) rfl (fun ls hl => ?_)
  refine lv_goto (tgt := 28) hx hb dX4_clear_46 (by decide) ?_
  refine lv_iload_n hx hb dX4_clear_28 rfl (lv_at hl 0 rfl) ?_
  refine lv_iconst (v := (nI 4)) hx hb dX4_clear_29 (by decide) ?_
  refine lv_icmp_ge (tgt := 49) hx hb dX4_clear_30 (by decide) (fun c => absurd c (by decide)) (fun _ => ?_)
  refine lv_aload_n hx hb dX4_clear_33 rfl (lv_at hl 1 rfl) ?_
  refine tc_gT_indices hx hb hts inB_X4 hown hK hP (hts _ mb_150) dX4_clear_34 ?_
  refine lv_iload_n hx hb dX4_clear_37 rfl (lv_at hl 0 rfl) ?_
  refine tc_a_indices hx hb hK hP (by omega) dX4_clear_38 ?_
  refine lv_iconst (v := (nI 0)) hx hb dX4_clear_39 (by decide) ?_
  refine tc_pX_defined hx hb hts inB_X1 hown hK hP hD hS (by omega) (by first | rfl | decide) (by first | rfl | decide) (hts _ mb_108) dX4_clear_40 (fun H locs hP hD hS => ?_)
  refine lv_iinc (v := (nI 3)) (lv' := [(1, .int (nI 3)), (0, .ref (ad 0))]) hx hb dX4_clear_43 hl (k := 0) rfl (by decide) (by decide) rfl (fun ls hl => ?_)
  refine lv_goto (tgt := 28) hx hb dX4_clear_46 (by decide) ?_
  refine lv_iload_n hx hb dX4_clear_28 rfl (lv_at hl 0 rfl) ?_
  refine lv_iconst (v := (nI 4)) hx hb dX4_clear_29 (by decide) ?_
  refine lv_icmp_ge (tgt := 49) hx hb dX4_clear_30 (by decide) (fun c => absurd c (by decide)) (fun _ => ?_)
  refine lv_aload_n hx hb dX4_clear_33 rfl (lv_at hl 1 rfl) ?_
  refine tc_gT_indices hx hb hts inB_X4 hown hK hP (hts _ mb_150) dX4_clear_34 ?_
  refine lv_iload_n hx hb dX4_clear_37 rfl (lv_at hl 0 rfl) ?_
  refine tc_a_indices hx hb hK hP (by omega) dX4_clear_38 ?_
  refine lv_iconst (v := (nI 0)) hx hb dX4_clear_39 (by decide) ?_
  refine tc_pX_defined hx hb hts inB_X1 hown hK hP hD hS (by omega) (by first | rfl | decide) (by first | rfl | decide) (hts _ mb_108) dX4_clear_40 (fun H locs hP hD hS => ?_)
  refine lv_iinc (v := (nI 4)) (lv' := [(1, .int (nI 4)), (0, .ref (ad 0))]) hx hb dX4_clear_43 hl (k := 0) rfl (by decide) (by decide) rfl (fun ls hl => ?_)
  refine lv_goto (tgt := 28) hx hb dX4_clear_46 (by decide) ?_
  refine lv_iload_n hx hb dX4_clear_28 rfl (lv_at hl 0 rfl) ?_
  refine lv_iconst (v := (nI 4)) hx hb dX4_clear_29 (by decide) ?_
  refine lv_icmp_ge (tgt := 49) hx hb dX4_clear_30 (by decide) (fun _ => ?_) (fun c => absurd (by decide) c)
  refine lv_aload_n hx hb dX4_clear_49 rfl (lv_at hl 1 rfl) ?_
  refine lv_iconst (v := (nI 0)) hx hb dX4_clear_50 (by decide) ?_
  refine tc_pT_wrongGuesses hx hb hts inB_X4 hown hK hP hD hS (hts _ mb_156) dX4_clear_51 (fun H locs hP hD hS => ?_)
  exact kq_vret hx hb hr hlk hP hD hS dX4_clear_54
set_option maxHeartbeats 4000000 in
set_option maxRecDepth 100000 in
theorem m_rate_ok (u : tm_S)  : kc_M l dC dI gs ad cc yX4_rate wsX4_rate { frames := 0, cells := 0, slots := 0, locals := 0 } [.ref (ad 0)] u u (some (.double (u.2.2 2))) := by
  refine kq_ofW (cc := cX4_rate) (maxL := 1) (ret := (some .double)) (R0 := RX4) (by decide) rfl rfl (Nat.le_of_ble_eq_true rfl) ?_
  intro p e s m below meth c A ls hx hb hr hlk hml hown hts hP hK hD hA hG hS hl
  have hl : lv_has ls 1 [(0, .ref (ad 0))] := hl
  refine lv_aload_n hx hb dX4_rate_0 rfl (lv_at hl 0 rfl) ?_
  refine tc_gT_pace hx hb hts inB_X4 hown hK hP (hts _ mb_159) dX4_rate_1 ?_
  exact kq_dret hx hb hr hlk hP hD hS dX4_rate_4
end S14
