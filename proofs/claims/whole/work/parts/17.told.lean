section S17
variable {l : Launch} {dC : Nat → ClassId} {dI : Nat → Nat → Nat} {gs : Nat → Nat} {ad : Nat → Nat} {cc : Nat → ClassId}
set_option maxHeartbeats 4000000 in
set_option maxRecDepth 100000 in
theorem m_pcr_b1 (hl9 : l.stackTraces = false) (u : tm_S) (x : Int32) (h : x < 0 ∨ nI 3 ≤ x) (i mk : Int32) : kc_T l dC dI gs ad cc yX4_pcr wsX4_pcr { frames := 8, cells := 1, slots := 6, locals := 125 } [.ref (ad 0), .int x, .int i, .int mk] u u "java/lang/IllegalArgumentException" := by
  refine kq_ofT (cc := cX4_pcr) (maxL := 5) (ret := (some .long)) (R0 := RX4) (by decide) rfl rfl (Nat.le_of_ble_eq_true rfl) ?_
  intro p e s m below meth c A ls hx hb hr hlk hml hown hts hP hK hD hA hG hS hl hEx
  have hl : lv_has ls 5 [(0, .ref (ad 0)), (1, .int x), (2, .int i), (3, .int mk)] := hl
  refine lv_iload_n hx hb dX4_pcr_0 rfl (lv_at hl 1 rfl) ?_
  refine lv_iconst (v := (nI 3)) hx hb dX4_pcr_1 (by decide) ?_
  exact kq_tS ⟨hx, hb, hml, hown, hts⟩ (c_refuseUnlessBelow_no hl9 u h (by omega) (by omega)) (va_cwS 2 hts gX4_62_X4_refuseUnlessBelow rfl rfl rfl (by decide +kernel) ⟨Nat.le_of_ble_eq_true rfl, Nat.le_of_ble_eq_true rfl⟩) tm_Gok hK hP hD hA hG hS rfl hl.1 rfl (Nat.le_of_ble_eq_true rfl) dX4_pcr_2 ⟨Nat.le_of_ble_eq_true rfl, Nat.le_of_ble_eq_true rfl⟩ hlk hEx (Nat.le_of_ble_eq_true rfl) (Nat.le_of_ble_eq_true rfl)
set_option maxHeartbeats 4000000 in
set_option maxRecDepth 100000 in
theorem m_pcr_b2 (hl9 : l.stackTraces = false) (u : tm_S) {j : Nat} (hj : j < 3) (x : Int32) (h : x < 0 ∨ nI 2 ≤ x) (mk : Int32) : kc_T l dC dI gs ad cc yX4_pcr wsX4_pcr { frames := 8, cells := 1, slots := 6, locals := 125 } [.ref (ad 0), .int (nI j), .int x, .int mk] u u "java/lang/IllegalArgumentException" := by
  refine kq_ofT (cc := cX4_pcr) (maxL := 5) (ret := (some .long)) (R0 := RX4) (by decide) rfl rfl (Nat.le_of_ble_eq_true rfl) ?_
  intro p e s m below meth c A ls hx hb hr hlk hml hown hts hP hK hD hA hG hS hl hEx
  have hl : lv_has ls 5 [(0, .ref (ad 0)), (1, .int (nI j)), (2, .int x), (3, .int mk)] := hl
  refine lv_iload_n hx hb dX4_pcr_0 rfl (lv_at hl 1 rfl) ?_
  refine lv_iconst (v := (nI 3)) hx hb dX4_pcr_1 (by decide) ?_
  refine kq_cS (st1 := []) ⟨hx, hb, hml, hown, hts⟩ (c_refuseUnlessBelow_ok u (by omega) (by omega)) (va_cwS 2 hts gX4_62_X4_refuseUnlessBelow rfl rfl rfl (by decide +kernel) ⟨Nat.le_of_ble_eq_true rfl, Nat.le_of_ble_eq_true rfl⟩) tm_Gok hK hP hD hA hG hS rfl hl.1 rfl rfl (Nat.le_of_ble_eq_true rfl) dX4_pcr_2 ⟨Nat.le_of_ble_eq_true rfl, Nat.le_of_ble_eq_true rfl⟩ (fun H locs hP hD hS => ?_)
  refine lv_iload_n hx hb dX4_pcr_5 rfl (lv_at hl 2 rfl) ?_
  refine lv_iconst (v := (nI 2)) hx hb dX4_pcr_6 (by decide) ?_
  exact kq_tS ⟨hx, hb, hml, hown, hts⟩ (c_refuseUnlessBelow_no hl9 u h (by omega) (by omega)) (va_cwS 2 hts gX4_62_X4_refuseUnlessBelow rfl rfl rfl (by decide +kernel) ⟨Nat.le_of_ble_eq_true rfl, Nat.le_of_ble_eq_true rfl⟩) tm_Gok hK hP hD hA hG hS rfl hl.1 rfl (Nat.le_of_ble_eq_true rfl) dX4_pcr_7 ⟨Nat.le_of_ble_eq_true rfl, Nat.le_of_ble_eq_true rfl⟩ hlk hEx (Nat.le_of_ble_eq_true rfl) (Nat.le_of_ble_eq_true rfl)
set_option maxHeartbeats 4000000 in
set_option maxRecDepth 100000 in
theorem m_pcr_b3 (hl9 : l.stackTraces = false) (u : tm_S) {j i : Nat} (hj : j < 3) (hi : i < 2) (mk : Int32) (h : mk < nI 1 ∨ ¬ mk ≤ nI 255) : kc_T l dC dI gs ad cc yX4_pcr wsX4_pcr { frames := 8, cells := 1, slots := 6, locals := 125 } [.ref (ad 0), .int (nI j), .int (nI i), .int mk] u u "java/lang/IllegalArgumentException" := by
  refine kq_ofT (cc := cX4_pcr) (maxL := 5) (ret := (some .long)) (R0 := RX4) (by decide) rfl rfl (Nat.le_of_ble_eq_true rfl) ?_
  intro p e s m below meth c A ls hx hb hr hlk hml hown hts hP hK hD hA hG hS hl hEx
  have hl : lv_has ls 5 [(0, .ref (ad 0)), (1, .int (nI j)), (2, .int (nI i)), (3, .int mk)] := hl
  refine lv_iload_n hx hb dX4_pcr_0 rfl (lv_at hl 1 rfl) ?_
  refine lv_iconst (v := (nI 3)) hx hb dX4_pcr_1 (by decide) ?_
  refine kq_cS (st1 := []) ⟨hx, hb, hml, hown, hts⟩ (c_refuseUnlessBelow_ok u (by omega) (by omega)) (va_cwS 2 hts gX4_62_X4_refuseUnlessBelow rfl rfl rfl (by decide +kernel) ⟨Nat.le_of_ble_eq_true rfl, Nat.le_of_ble_eq_true rfl⟩) tm_Gok hK hP hD hA hG hS rfl hl.1 rfl rfl (Nat.le_of_ble_eq_true rfl) dX4_pcr_2 ⟨Nat.le_of_ble_eq_true rfl, Nat.le_of_ble_eq_true rfl⟩ (fun H locs hP hD hS => ?_)
  refine lv_iload_n hx hb dX4_pcr_5 rfl (lv_at hl 2 rfl) ?_
  refine lv_iconst (v := (nI 2)) hx hb dX4_pcr_6 (by decide) ?_
  refine kq_cS (st1 := []) ⟨hx, hb, hml, hown, hts⟩ (c_refuseUnlessBelow_ok u (by omega) (by omega)) (va_cwS 2 hts gX4_62_X4_refuseUnlessBelow rfl rfl rfl (by decide +kernel) ⟨Nat.le_of_ble_eq_true rfl, Nat.le_of_ble_eq_true rfl⟩) tm_Gok hK hP hD hA hG hS rfl hl.1 rfl rfl (Nat.le_of_ble_eq_true rfl) dX4_pcr_7 ⟨Nat.le_of_ble_eq_true rfl, Nat.le_of_ble_eq_true rfl⟩ (fun H locs hP hD hS => ?_)
  refine lv_iload_n hx hb dX4_pcr_10 rfl (lv_at hl 3 rfl) ?_
  refine lv_iconst (v := (nI 1)) hx hb dX4_pcr_11 (by decide) ?_
  refine lv_sipush (v := (nI 255)) hx hb dX4_pcr_12 (by decide) ?_
  exact kq_tS ⟨hx, hb, hml, hown, hts⟩ (c_refuseOutside_no hl9 u h) (va_cwS 3 hts gX4_58_X4_refuseOutside rfl rfl rfl (by decide +kernel) ⟨Nat.le_of_ble_eq_true rfl, Nat.le_of_ble_eq_true rfl⟩) tm_Gok hK hP hD hA hG hS rfl hl.1 rfl (Nat.le_of_ble_eq_true rfl) dX4_pcr_15 ⟨Nat.le_of_ble_eq_true rfl, Nat.le_of_ble_eq_true rfl⟩ hlk hEx (Nat.le_of_ble_eq_true rfl) (Nat.le_of_ble_eq_true rfl)
set_option maxHeartbeats 4000000 in
set_option maxRecDepth 100000 in
theorem m_pcr_lo (hl9 : l.stackTraces = false) (u : tm_S) {j i : Nat} (hj : j < 3) (hi : i < 2) (mk : Int32) (h1 : ¬ mk < nI 1) (h2 : mk ≤ nI 255) (hlo : ¬ u.2.1 11 0 = 0) : kc_T l dC dI gs ad cc yX4_pcr wsX4_pcr { frames := 8, cells := 1, slots := 6, locals := 125 } [.ref (ad 0), .int (nI j), .int (nI i), .int mk] u u "java/lang/IllegalStateException" := by
  refine kq_ofT (cc := cX4_pcr) (maxL := 5) (ret := (some .long)) (R0 := RX4) (by decide) rfl rfl (Nat.le_of_ble_eq_true rfl) ?_
  intro p e s m below meth c A ls hx hb hr hlk hml hown hts hP hK hD hA hG hS hl hEx
  have hl : lv_has ls 5 [(0, .ref (ad 0)), (1, .int (nI j)), (2, .int (nI i)), (3, .int mk)] := hl
  refine lv_iload_n hx hb dX4_pcr_0 rfl (lv_at hl 1 rfl) ?_
  refine lv_iconst (v := (nI 3)) hx hb dX4_pcr_1 (by decide) ?_
  refine kq_cS (st1 := []) ⟨hx, hb, hml, hown, hts⟩ (c_refuseUnlessBelow_ok u (by omega) (by omega)) (va_cwS 2 hts gX4_62_X4_refuseUnlessBelow rfl rfl rfl (by decide +kernel) ⟨Nat.le_of_ble_eq_true rfl, Nat.le_of_ble_eq_true rfl⟩) tm_Gok hK hP hD hA hG hS rfl hl.1 rfl rfl (Nat.le_of_ble_eq_true rfl) dX4_pcr_2 ⟨Nat.le_of_ble_eq_true rfl, Nat.le_of_ble_eq_true rfl⟩ (fun H locs hP hD hS => ?_)
  refine lv_iload_n hx hb dX4_pcr_5 rfl (lv_at hl 2 rfl) ?_
  refine lv_iconst (v := (nI 2)) hx hb dX4_pcr_6 (by decide) ?_
  refine kq_cS (st1 := []) ⟨hx, hb, hml, hown, hts⟩ (c_refuseUnlessBelow_ok u (by omega) (by omega)) (va_cwS 2 hts gX4_62_X4_refuseUnlessBelow rfl rfl rfl (by decide +kernel) ⟨Nat.le_of_ble_eq_true rfl, Nat.le_of_ble_eq_true rfl⟩) tm_Gok hK hP hD hA hG hS rfl hl.1 rfl rfl (Nat.le_of_ble_eq_true rfl) dX4_pcr_7 ⟨Nat.le_of_ble_eq_true rfl, Nat.le_of_ble_eq_true rfl⟩ (fun H locs hP hD hS => ?_)
  refine lv_iload_n hx hb dX4_pcr_10 rfl (lv_at hl 3 rfl) ?_
  refine lv_iconst (v := (nI 1)) hx hb dX4_pcr_11 (by decide) ?_
  refine lv_sipush (v := (nI 255)) hx hb dX4_pcr_12 (by decide) ?_
  refine kq_cS (st1 := []) ⟨hx, hb, hml, hown, hts⟩ (c_refuseOutside_ok u mk (nI 1) (nI 255) h1 h2) (va_cwS 3 hts gX4_58_X4_refuseOutside rfl rfl rfl (by decide +kernel) ⟨Nat.le_of_ble_eq_true rfl, Nat.le_of_ble_eq_true rfl⟩) tm_Gok hK hP hD hA hG hS rfl hl.1 rfl rfl (Nat.le_of_ble_eq_true rfl) dX4_pcr_15 ⟨Nat.le_of_ble_eq_true rfl, Nat.le_of_ble_eq_true rfl⟩ (fun H locs hP hD hS => ?_)
  refine lv_aload_n hx hb dX4_pcr_18 rfl (lv_at hl 0 rfl) ?_
  exact kq_tV ⟨hx, hb, hml, hown, hts⟩ (c_refuseWhenLost_no hl9 u hlo) (cwV 0 hts gX4_66_X4_refuseWhenLost rfl rfl rfl (by decide +kernel) ⟨Nat.le_of_ble_eq_true rfl, Nat.le_of_ble_eq_true rfl⟩) tm_Gok hK hP hD hA hG hS (va_recv hK hP (ci := 4) (q0 := 0) rfl (tm_at (i := 0) (by omega) rfl)) rfl hl.1 rfl (Nat.le_of_ble_eq_true rfl) dX4_pcr_19 ⟨Nat.le_of_ble_eq_true rfl, Nat.le_of_ble_eq_true rfl⟩ hlk hEx (Nat.le_of_ble_eq_true rfl) (Nat.le_of_ble_eq_true rfl)
set_option maxHeartbeats 4000000 in
set_option maxRecDepth 100000 in
theorem m_pcr_ok (u : tm_S) {j i : Nat} (hj : j < 3) (hi : i < 2) (mk : Int32) (h1 : ¬ mk < nI 1) (h2 : mk ≤ nI 255) (hnl : u.2.1 11 0 = 0) : kc_M l dC dI gs ad cc yX4_pcr wsX4_pcr { frames := 8, cells := 0, slots := 0, locals := 125 } [.ref (ad 0), .int (nI j), .int (nI i), .int mk] u (tm_I (tm_I (tm_L u 6 j (tm_h (tm_h (u.1 6 j) 11) (tm_px u i mk 8))) 4 j (nI 1)) 5 j (u.2.1 9 0)) (some (.long (tm_h (tm_h (u.1 6 j) 11) (tm_px u i mk 8)))) := by
  refine kq_ofW (cc := cX4_pcr) (maxL := 5) (ret := (some .long)) (R0 := RX4) (by decide) rfl rfl (Nat.le_of_ble_eq_true rfl) ?_
  intro p e s m below meth c A ls hx hb hr hlk hml hown hts hP hK hD hA hG hS hl
  have hl : lv_has ls 5 [(0, .ref (ad 0)), (1, .int (nI j)), (2, .int (nI i)), (3, .int mk)] := hl
  refine lv_iload_n hx hb dX4_pcr_0 rfl (lv_at hl 1 rfl) ?_
  refine lv_iconst (v := (nI 3)) hx hb dX4_pcr_1 (by decide) ?_
  refine kq_cS (st1 := []) ⟨hx, hb, hml, hown, hts⟩ (c_refuseUnlessBelow_ok u (by omega) (by omega)) (va_cwS 2 hts gX4_62_X4_refuseUnlessBelow rfl rfl rfl (by decide +kernel) ⟨Nat.le_of_ble_eq_true rfl, Nat.le_of_ble_eq_true rfl⟩) tm_Gok hK hP hD hA hG hS rfl hl.1 rfl rfl (Nat.le_of_ble_eq_true rfl) dX4_pcr_2 ⟨Nat.le_of_ble_eq_true rfl, Nat.le_of_ble_eq_true rfl⟩ (fun H locs hP hD hS => ?_)
  refine lv_iload_n hx hb dX4_pcr_5 rfl (lv_at hl 2 rfl) ?_
  refine lv_iconst (v := (nI 2)) hx hb dX4_pcr_6 (by decide) ?_
  refine kq_cS (st1 := []) ⟨hx, hb, hml, hown, hts⟩ (c_refuseUnlessBelow_ok u (by omega) (by omega)) (va_cwS 2 hts gX4_62_X4_refuseUnlessBelow rfl rfl rfl (by decide +kernel) ⟨Nat.le_of_ble_eq_true rfl, Nat.le_of_ble_eq_true rfl⟩) tm_Gok hK hP hD hA hG hS rfl hl.1 rfl rfl (Nat.le_of_ble_eq_true rfl) dX4_pcr_7 ⟨Nat.le_of_ble_eq_true rfl, Nat.le_of_ble_eq_true rfl⟩ (fun H locs hP hD hS => ?_)
  refine lv_iload_n hx hb dX4_pcr_10 rfl (lv_at hl 3 rfl) ?_
  refine lv_iconst (v := (nI 1)) hx hb dX4_pcr_11 (by decide) ?_
  refine lv_sipush (v := (nI 255)) hx hb dX4_pcr_12 (by decide) ?_
  refine kq_cS (st1 := []) ⟨hx, hb, hml, hown, hts⟩ (c_refuseOutside_ok u mk (nI 1) (nI 255) h1 h2) (va_cwS 3 hts gX4_58_X4_refuseOutside rfl rfl rfl (by decide +kernel) ⟨Nat.le_of_ble_eq_true rfl, Nat.le_of_ble_eq_true rfl⟩) tm_Gok hK hP hD hA hG hS rfl hl.1 rfl rfl (Nat.le_of_ble_eq_true rfl) dX4_pcr_15 ⟨Nat.le_of_ble_eq_true rfl, Nat.le_of_ble_eq_true rfl⟩ (fun H locs hP hD hS => ?_)
  refine lv_aload_n hx hb dX4_pcr_18 rfl (lv_at hl 0 rfl) ?_
  refine kq_cV (st1 := []) ⟨hx, hb, hml, hown, hts⟩ (c_refuseWhenLost_ok u hnl) (cwV 0 hts gX4_66_X4_refuseWhenLost rfl rfl rfl (by decide +kernel) ⟨Nat.le_of_ble_eq_true rfl, Nat.le_of_ble_eq_true rfl⟩) tm_Gok hK hP hD hA hG hS (va_recv hK hP (ci := 4) (q0 := 0) rfl (tm_at (i := 0) (by omega) rfl)) rfl hl.1 rfl rfl (Nat.le_of_ble_eq_true rfl) dX4_pcr_19 ⟨Nat.le_of_ble_eq_true rfl, Nat.le_of_ble_eq_true rfl⟩ (fun H locs hP hD hS => ?_)
  refine lv_aload_n hx hb dX4_pcr_22 rfl (lv_at hl 0 rfl) ?_
  refine tc_gT_sessions hx hb hts inB_X4 hown hK hP (hts _ mb_149) dX4_pcr_23 ?_
  refine lv_iload_n hx hb dX4_pcr_26 rfl (lv_at hl 1 rfl) ?_
  refine tc_a_sessions hx hb hK hP (by omega) dX4_pcr_27 ?_
  refine lv_astore (lv' := [(4, .ref (ad (j + 29))), (0, .ref (ad 0)), (1, .int (nI j)), (2, .int (nI i)), (3, .int mk)]) hx hb dX4_pcr_28 hl (by decide) rfl (fun ls hl => ?_)
  refine lv_aload hx hb dX4_pcr_30 (lv_at hl 0 rfl) ?_
  refine lv_aload hx hb dX4_pcr_32 (lv_at hl 0 rfl) ?_
  refine tc_gY_digest hx hb hts inB_X3 hown hK hP (by omega) (hts _ mb_90) dX4_pcr_34 ?_
  refine lv_ldc2 hx hb hown (hts _ mb_496) dX4_pcr_37 ?_
  refine kq_cS (st1 := [.long (tm_h (u.1 6 j) 11), .ref (ad (j + 29))]) ⟨hx, hb, hml, hown, hts⟩ (c_hash u (u.1 6 j) 11) (va_cwS 2 hts gX4_42_X4_hash rfl rfl rfl (by decide +kernel) ⟨Nat.le_of_ble_eq_true rfl, Nat.le_of_ble_eq_true rfl⟩) tm_Gok hK hP hD hA hG hS rfl hl.1 rfl rfl (Nat.le_of_ble_eq_true rfl) dX4_pcr_40 ⟨Nat.le_of_ble_eq_true rfl, Nat.le_of_ble_eq_true rfl⟩ (fun H locs hP hD hS => ?_)
  refine lv_aload_n hx hb dX4_pcr_43 rfl (lv_at hl 1 rfl) ?_
  refine lv_iload_n hx hb dX4_pcr_44 rfl (lv_at hl 3 rfl) ?_
  refine lv_iload_n hx hb dX4_pcr_45 rfl (lv_at hl 4 rfl) ?_
  refine kq_cV (st1 := [.long (tm_px u i mk 8), .long (tm_h (u.1 6 j) 11), .ref (ad (j + 29))]) ⟨hx, hb, hml, hown, hts⟩ (c_hashOfPcrs u (j := i) (by omega) mk) (cwV 2 hts gX4_142_X4_hashOfPcrs rfl rfl rfl (by decide +kernel) ⟨Nat.le_of_ble_eq_true rfl, Nat.le_of_ble_eq_true rfl⟩) tm_Gok hK hP hD hA hG hS (va_recv hK hP (ci := 4) (q0 := 0) rfl (tm_at (i := 0) (by omega) rfl)) rfl hl.1 rfl rfl (Nat.le_of_ble_eq_true rfl) dX4_pcr_46 ⟨Nat.le_of_ble_eq_true rfl, Nat.le_of_ble_eq_true rfl⟩ (fun H locs hP hD hS => ?_)
  refine kq_cS (st1 := [.long (tm_h (tm_h (u.1 6 j) 11) (tm_px u i mk 8)), .ref (ad (j + 29))]) ⟨hx, hb, hml, hown, hts⟩ (c_hash u (tm_h (u.1 6 j) 11) (tm_px u i mk 8)) (va_cwS 2 hts gX4_42_X4_hash rfl rfl rfl (by decide +kernel) ⟨Nat.le_of_ble_eq_true rfl, Nat.le_of_ble_eq_true rfl⟩) tm_Gok hK hP hD hA hG hS rfl hl.1 rfl rfl (Nat.le_of_ble_eq_true rfl) dX4_pcr_49 ⟨Nat.le_of_ble_eq_true rfl, Nat.le_of_ble_eq_true rfl⟩ (fun H locs hP hD hS => ?_)
  refine tc_pY_digest hx hb hts inB_X3 hown hK hP hD hS (by omega) (hts _ mb_90) dX4_pcr_52 (fun H locs hP hD hS => ?_)
  refine lv_aload hx hb dX4_pcr_55 (lv_at hl 0 rfl) ?_
  refine lv_iconst (v := (nI 1)) hx hb dX4_pcr_57 (by decide) ?_
  refine tc_pY_looked hx hb hts inB_X3 hown hK hP hD hS (by omega) (by first | rfl | decide) (by first | rfl | decide) (hts _ mb_92) dX4_pcr_58 (fun H locs hP hD hS => ?_)
  refine lv_aload hx hb dX4_pcr_61 (lv_at hl 0 rfl) ?_
  refine lv_aload_n hx hb dX4_pcr_63 rfl (lv_at hl 1 rfl) ?_
  refine tc_gT_pcrCount hx hb hts inB_X4 hown hK hP (hts _ mb_151) dX4_pcr_64 ?_
  refine kq_ti (y := (u.2.1 9 0)) (by simp [tm_L, tm_I, tm_D]) ?_
  refine tc_pY_countSeen hx hb hts inB_X3 hown hK hP hD hS (by omega) (hts _ mb_94) dX4_pcr_67 (fun H locs hP hD hS => ?_)
  refine lv_aload hx hb dX4_pcr_70 (lv_at hl 0 rfl) ?_
  refine tc_gY_digest hx hb hts inB_X3 hown hK hP (by omega) (hts _ mb_90) dX4_pcr_72 ?_
  refine kq_tl (y := (tm_h (tm_h (u.1 6 j) 11) (tm_px u i mk 8))) (by simp [tm_L, tm_I, tm_D]) ?_
  exact kq_lret hx hb hr hlk hP hD hS dX4_pcr_75
set_option maxHeartbeats 4000000 in
set_option maxRecDepth 100000 in
theorem m_told_b1 (hl9 : l.stackTraces = false) (u : tm_S) (x : Int32) (h : x < 0 ∨ nI 5 ≤ x) (i : Int32) : kc_T l dC dI gs ad cc yX4_told wsX4_told { frames := 8, cells := 1, slots := 6, locals := 125 } [.ref (ad 0), .int x, .int i] u u "java/lang/IllegalArgumentException" := by
  refine kq_ofT (cc := cX4_told) (maxL := 3) (ret := (some .long)) (R0 := RX4) (by decide) rfl rfl (Nat.le_of_ble_eq_true rfl) ?_
  intro p e s m below meth c A ls hx hb hr hlk hml hown hts hP hK hD hA hG hS hl hEx
  have hl : lv_has ls 3 [(0, .ref (ad 0)), (1, .int x), (2, .int i)] := hl
  refine lv_iload_n hx hb dX4_told_0 rfl (lv_at hl 1 rfl) ?_
  refine va_gets hx hb (tm_Gz hG) hS hown (hts _ mb_606) (fun _ h9 => h9) dX4_told_1 ?_
  refine va_tlen hx hb (tm_Gt hG) hS (v := (nI 5)) (by decide) dX4_told_4 ?_
  exact kq_tS ⟨hx, hb, hml, hown, hts⟩ (c_refuseUnlessBelow_no hl9 u h (by omega) (by omega)) (va_cwS 2 hts gX4_62_X4_refuseUnlessBelow rfl rfl rfl (by decide +kernel) ⟨Nat.le_of_ble_eq_true rfl, Nat.le_of_ble_eq_true rfl⟩) tm_Gok hK hP hD hA hG hS rfl hl.1 rfl (Nat.le_of_ble_eq_true rfl) dX4_told_5 ⟨Nat.le_of_ble_eq_true rfl, Nat.le_of_ble_eq_true rfl⟩ hlk hEx (Nat.le_of_ble_eq_true rfl) (Nat.le_of_ble_eq_true rfl)
set_option maxHeartbeats 4000000 in
set_option maxRecDepth 100000 in
theorem m_told_b2_0 (hl9 : l.stackTraces = false) (u : tm_S) (x : Int32) (h : x < 0 ∨ nI 8 ≤ x)  : kc_T l dC dI gs ad cc yX4_told wsX4_told { frames := 8, cells := 1, slots := 6, locals := 125 } [.ref (ad 0), .int (nI 0), .int x] u u "java/lang/IllegalArgumentException" := by
  refine kq_ofT (cc := cX4_told) (maxL := 3) (ret := (some .long)) (R0 := RX4) (by decide) rfl rfl (Nat.le_of_ble_eq_true rfl) ?_
  intro p e s m below meth c A ls hx hb hr hlk hml hown hts hP hK hD hA hG hS hl hEx
  have hl : lv_has ls 3 [(0, .ref (ad 0)), (1, .int (nI 0)), (2, .int x)] := hl
  refine lv_iload_n hx hb dX4_told_0 rfl (lv_at hl 1 rfl) ?_
  refine va_gets hx hb (tm_Gz hG) hS hown (hts _ mb_606) (fun _ h9 => h9) dX4_told_1 ?_
  refine va_tlen hx hb (tm_Gt hG) hS (v := (nI 5)) (by decide) dX4_told_4 ?_
  refine kq_cS (st1 := []) ⟨hx, hb, hml, hown, hts⟩ (c_refuseUnlessBelow_ok u (by omega) (by omega)) (va_cwS 2 hts gX4_62_X4_refuseUnlessBelow rfl rfl rfl (by decide +kernel) ⟨Nat.le_of_ble_eq_true rfl, Nat.le_of_ble_eq_true rfl⟩) tm_Gok hK hP hD hA hG hS rfl hl.1 rfl rfl (Nat.le_of_ble_eq_true rfl) dX4_told_5 ⟨Nat.le_of_ble_eq_true rfl, Nat.le_of_ble_eq_true rfl⟩ (fun H locs hP hD hS => ?_)
  refine lv_iload_n hx hb dX4_told_8 rfl (lv_at hl 2 rfl) ?_
  refine va_gets hx hb (tm_Gz hG) hS hown (hts _ mb_606) (fun _ h9 => h9) dX4_told_9 ?_
  refine lv_iload_n hx hb dX4_told_12 rfl (lv_at hl 1 rfl) ?_
  refine va_ti hx hb (tm_Gt hG) hS (i := (nI 0)) (v := .int (nI 8)) (vp_in_nI (by omega) (by omega)) rfl dX4_told_13 ?_
  exact kq_tS ⟨hx, hb, hml, hown, hts⟩ (c_refuseUnlessBelow_no hl9 u h (by omega) (by omega)) (va_cwS 2 hts gX4_62_X4_refuseUnlessBelow rfl rfl rfl (by decide +kernel) ⟨Nat.le_of_ble_eq_true rfl, Nat.le_of_ble_eq_true rfl⟩) tm_Gok hK hP hD hA hG hS rfl hl.1 rfl (Nat.le_of_ble_eq_true rfl) dX4_told_14 ⟨Nat.le_of_ble_eq_true rfl, Nat.le_of_ble_eq_true rfl⟩ hlk hEx (Nat.le_of_ble_eq_true rfl) (Nat.le_of_ble_eq_true rfl)
set_option maxHeartbeats 4000000 in
set_option maxRecDepth 100000 in
theorem m_told_0 (u : tm_S) {j : Nat} (hj : j < 8)  : kc_M l dC dI gs ad cc yX4_told wsX4_told { frames := 8, cells := 0, slots := 0, locals := 125 } [.ref (ad 0), .int (nI 0), .int (nI j)] u u (some (.long (u.1 1 (8 * 0 + j)))) := by
  refine kq_ofW (cc := cX4_told) (maxL := 3) (ret := (some .long)) (R0 := RX4) (by decide) rfl rfl (Nat.le_of_ble_eq_true rfl) ?_
  intro p e s m below meth c A ls hx hb hr hlk hml hown hts hP hK hD hA hG hS hl
  have hl : lv_has ls 3 [(0, .ref (ad 0)), (1, .int (nI 0)), (2, .int (nI j))] := hl
  refine lv_iload_n hx hb dX4_told_0 rfl (lv_at hl 1 rfl) ?_
  refine va_gets hx hb (tm_Gz hG) hS hown (hts _ mb_606) (fun _ h9 => h9) dX4_told_1 ?_
  refine va_tlen hx hb (tm_Gt hG) hS (v := (nI 5)) (by decide) dX4_told_4 ?_
  refine kq_cS (st1 := []) ⟨hx, hb, hml, hown, hts⟩ (c_refuseUnlessBelow_ok u (by omega) (by omega)) (va_cwS 2 hts gX4_62_X4_refuseUnlessBelow rfl rfl rfl (by decide +kernel) ⟨Nat.le_of_ble_eq_true rfl, Nat.le_of_ble_eq_true rfl⟩) tm_Gok hK hP hD hA hG hS rfl hl.1 rfl rfl (Nat.le_of_ble_eq_true rfl) dX4_told_5 ⟨Nat.le_of_ble_eq_true rfl, Nat.le_of_ble_eq_true rfl⟩ (fun H locs hP hD hS => ?_)
  refine lv_iload_n hx hb dX4_told_8 rfl (lv_at hl 2 rfl) ?_
  refine va_gets hx hb (tm_Gz hG) hS hown (hts _ mb_606) (fun _ h9 => h9) dX4_told_9 ?_
  refine lv_iload_n hx hb dX4_told_12 rfl (lv_at hl 1 rfl) ?_
  refine va_ti hx hb (tm_Gt hG) hS (i := (nI 0)) (v := .int (nI 8)) (vp_in_nI (by omega) (by omega)) rfl dX4_told_13 ?_
  refine kq_cS (st1 := []) ⟨hx, hb, hml, hown, hts⟩ (c_refuseUnlessBelow_ok u (by omega) (by omega)) (va_cwS 2 hts gX4_62_X4_refuseUnlessBelow rfl rfl rfl (by decide +kernel) ⟨Nat.le_of_ble_eq_true rfl, Nat.le_of_ble_eq_true rfl⟩) tm_Gok hK hP hD hA hG hS rfl hl.1 rfl rfl (Nat.le_of_ble_eq_true rfl) dX4_told_14 ⟨Nat.le_of_ble_eq_true rfl, Nat.le_of_ble_eq_true rfl⟩ (fun H locs hP hD hS => ?_)
  refine lv_iload_n hx hb dX4_told_17 rfl (lv_at hl 1 rfl) ?_
  refine lv_tableOut (tgt := 78) hx hb dX4_told_18 (by decide) (by decide) ?_
  refine lv_aload_n hx hb dX4_told_78 rfl (lv_at hl 0 rfl) ?_
  refine tc_gT_pcrs hx hb hts inB_X4 hown hK hP (hts _ mb_146) dX4_told_79 ?_
  refine lv_iload_n hx hb dX4_told_82 rfl (lv_at hl 1 rfl) ?_
  refine tc_a_pcrs hx hb hK hP (by omega) dX4_told_83 ?_
  refine lv_iload_n hx hb dX4_told_84 rfl (lv_at hl 2 rfl) ?_
  refine tc_l_pcr hx hb hK hP (by omega) (by omega) dX4_told_85 ?_
  exact kq_lret hx hb hr hlk hP hD hS dX4_told_86
set_option maxHeartbeats 4000000 in
set_option maxRecDepth 100000 in
theorem m_told_b2_1 (hl9 : l.stackTraces = false) (u : tm_S) (x : Int32) (h : x < 0 ∨ nI 8 ≤ x)  : kc_T l dC dI gs ad cc yX4_told wsX4_told { frames := 8, cells := 1, slots := 6, locals := 125 } [.ref (ad 0), .int (nI 1), .int x] u u "java/lang/IllegalArgumentException" := by
  refine kq_ofT (cc := cX4_told) (maxL := 3) (ret := (some .long)) (R0 := RX4) (by decide) rfl rfl (Nat.le_of_ble_eq_true rfl) ?_
  intro p e s m below meth c A ls hx hb hr hlk hml hown hts hP hK hD hA hG hS hl hEx
  have hl : lv_has ls 3 [(0, .ref (ad 0)), (1, .int (nI 1)), (2, .int x)] := hl
  refine lv_iload_n hx hb dX4_told_0 rfl (lv_at hl 1 rfl) ?_
  refine va_gets hx hb (tm_Gz hG) hS hown (hts _ mb_606) (fun _ h9 => h9) dX4_told_1 ?_
  refine va_tlen hx hb (tm_Gt hG) hS (v := (nI 5)) (by decide) dX4_told_4 ?_
  refine kq_cS (st1 := []) ⟨hx, hb, hml, hown, hts⟩ (c_refuseUnlessBelow_ok u (by omega) (by omega)) (va_cwS 2 hts gX4_62_X4_refuseUnlessBelow rfl rfl rfl (by decide +kernel) ⟨Nat.le_of_ble_eq_true rfl, Nat.le_of_ble_eq_true rfl⟩) tm_Gok hK hP hD hA hG hS rfl hl.1 rfl rfl (Nat.le_of_ble_eq_true rfl) dX4_told_5 ⟨Nat.le_of_ble_eq_true rfl, Nat.le_of_ble_eq_true rfl⟩ (fun H locs hP hD hS => ?_)
  refine lv_iload_n hx hb dX4_told_8 rfl (lv_at hl 2 rfl) ?_
  refine va_gets hx hb (tm_Gz hG) hS hown (hts _ mb_606) (fun _ h9 => h9) dX4_told_9 ?_
  refine lv_iload_n hx hb dX4_told_12 rfl (lv_at hl 1 rfl) ?_
  refine va_ti hx hb (tm_Gt hG) hS (i := (nI 1)) (v := .int (nI 8)) (vp_in_nI (by omega) (by omega)) rfl dX4_told_13 ?_
  exact kq_tS ⟨hx, hb, hml, hown, hts⟩ (c_refuseUnlessBelow_no hl9 u h (by omega) (by omega)) (va_cwS 2 hts gX4_62_X4_refuseUnlessBelow rfl rfl rfl (by decide +kernel) ⟨Nat.le_of_ble_eq_true rfl, Nat.le_of_ble_eq_true rfl⟩) tm_Gok hK hP hD hA hG hS rfl hl.1 rfl (Nat.le_of_ble_eq_true rfl) dX4_told_14 ⟨Nat.le_of_ble_eq_true rfl, Nat.le_of_ble_eq_true rfl⟩ hlk hEx (Nat.le_of_ble_eq_true rfl) (Nat.le_of_ble_eq_true rfl)
set_option maxHeartbeats 4000000 in
set_option maxRecDepth 100000 in
theorem m_told_1 (u : tm_S) {j : Nat} (hj : j < 8)  : kc_M l dC dI gs ad cc yX4_told wsX4_told { frames := 8, cells := 0, slots := 0, locals := 125 } [.ref (ad 0), .int (nI 1), .int (nI j)] u u (some (.long (u.1 1 (8 * 1 + j)))) := by
  refine kq_ofW (cc := cX4_told) (maxL := 3) (ret := (some .long)) (R0 := RX4) (by decide) rfl rfl (Nat.le_of_ble_eq_true rfl) ?_
  intro p e s m below meth c A ls hx hb hr hlk hml hown hts hP hK hD hA hG hS hl
  have hl : lv_has ls 3 [(0, .ref (ad 0)), (1, .int (nI 1)), (2, .int (nI j))] := hl
  refine lv_iload_n hx hb dX4_told_0 rfl (lv_at hl 1 rfl) ?_
  refine va_gets hx hb (tm_Gz hG) hS hown (hts _ mb_606) (fun _ h9 => h9) dX4_told_1 ?_
  refine va_tlen hx hb (tm_Gt hG) hS (v := (nI 5)) (by decide) dX4_told_4 ?_
  refine kq_cS (st1 := []) ⟨hx, hb, hml, hown, hts⟩ (c_refuseUnlessBelow_ok u (by omega) (by omega)) (va_cwS 2 hts gX4_62_X4_refuseUnlessBelow rfl rfl rfl (by decide +kernel) ⟨Nat.le_of_ble_eq_true rfl, Nat.le_of_ble_eq_true rfl⟩) tm_Gok hK hP hD hA hG hS rfl hl.1 rfl rfl (Nat.le_of_ble_eq_true rfl) dX4_told_5 ⟨Nat.le_of_ble_eq_true rfl, Nat.le_of_ble_eq_true rfl⟩ (fun H locs hP hD hS => ?_)
  refine lv_iload_n hx hb dX4_told_8 rfl (lv_at hl 2 rfl) ?_
  refine va_gets hx hb (tm_Gz hG) hS hown (hts _ mb_606) (fun _ h9 => h9) dX4_told_9 ?_
  refine lv_iload_n hx hb dX4_told_12 rfl (lv_at hl 1 rfl) ?_
  refine va_ti hx hb (tm_Gt hG) hS (i := (nI 1)) (v := .int (nI 8)) (vp_in_nI (by omega) (by omega)) rfl dX4_told_13 ?_
  refine kq_cS (st1 := []) ⟨hx, hb, hml, hown, hts⟩ (c_refuseUnlessBelow_ok u (by omega) (by omega)) (va_cwS 2 hts gX4_62_X4_refuseUnlessBelow rfl rfl rfl (by decide +kernel) ⟨Nat.le_of_ble_eq_true rfl, Nat.le_of_ble_eq_true rfl⟩) tm_Gok hK hP hD hA hG hS rfl hl.1 rfl rfl (Nat.le_of_ble_eq_true rfl) dX4_told_14 ⟨Nat.le_of_ble_eq_true rfl, Nat.le_of_ble_eq_true rfl⟩ (fun H locs hP hD hS => ?_)
  refine lv_iload_n hx hb dX4_told_17 rfl (lv_at hl 1 rfl) ?_
  refine lv_tableOut (tgt := 78) hx hb dX4_told_18 (by decide) (by decide) ?_
  refine lv_aload_n hx hb dX4_told_78 rfl (lv_at hl 0 rfl) ?_
  refine tc_gT_pcrs hx hb hts inB_X4 hown hK hP (hts _ mb_146) dX4_told_79 ?_
  refine lv_iload_n hx hb dX4_told_82 rfl (lv_at hl 1 rfl) ?_
  refine tc_a_pcrs hx hb hK hP (by omega) dX4_told_83 ?_
  refine lv_iload_n hx hb dX4_told_84 rfl (lv_at hl 2 rfl) ?_
  refine tc_l_pcr hx hb hK hP (by omega) (by omega) dX4_told_85 ?_
  exact kq_lret hx hb hr hlk hP hD hS dX4_told_86
set_option maxHeartbeats 4000000 in
set_option maxRecDepth 100000 in
theorem m_told_b2_2 (hl9 : l.stackTraces = false) (u : tm_S) (x : Int32) (h : x < 0 ∨ nI 4 ≤ x)  : kc_T l dC dI gs ad cc yX4_told wsX4_told { frames := 8, cells := 1, slots := 6, locals := 125 } [.ref (ad 0), .int (nI 2), .int x] u u "java/lang/IllegalArgumentException" := by
  refine kq_ofT (cc := cX4_told) (maxL := 3) (ret := (some .long)) (R0 := RX4) (by decide) rfl rfl (Nat.le_of_ble_eq_true rfl) ?_
  intro p e s m below meth c A ls hx hb hr hlk hml hown hts hP hK hD hA hG hS hl hEx
  have hl : lv_has ls 3 [(0, .ref (ad 0)), (1, .int (nI 2)), (2, .int x)] := hl
  refine lv_iload_n hx hb dX4_told_0 rfl (lv_at hl 1 rfl) ?_
  refine va_gets hx hb (tm_Gz hG) hS hown (hts _ mb_606) (fun _ h9 => h9) dX4_told_1 ?_
  refine va_tlen hx hb (tm_Gt hG) hS (v := (nI 5)) (by decide) dX4_told_4 ?_
  refine kq_cS (st1 := []) ⟨hx, hb, hml, hown, hts⟩ (c_refuseUnlessBelow_ok u (by omega) (by omega)) (va_cwS 2 hts gX4_62_X4_refuseUnlessBelow rfl rfl rfl (by decide +kernel) ⟨Nat.le_of_ble_eq_true rfl, Nat.le_of_ble_eq_true rfl⟩) tm_Gok hK hP hD hA hG hS rfl hl.1 rfl rfl (Nat.le_of_ble_eq_true rfl) dX4_told_5 ⟨Nat.le_of_ble_eq_true rfl, Nat.le_of_ble_eq_true rfl⟩ (fun H locs hP hD hS => ?_)
  refine lv_iload_n hx hb dX4_told_8 rfl (lv_at hl 2 rfl) ?_
  refine va_gets hx hb (tm_Gz hG) hS hown (hts _ mb_606) (fun _ h9 => h9) dX4_told_9 ?_
  refine lv_iload_n hx hb dX4_told_12 rfl (lv_at hl 1 rfl) ?_
  refine va_ti hx hb (tm_Gt hG) hS (i := (nI 2)) (v := .int (nI 4)) (vp_in_nI (by omega) (by omega)) rfl dX4_told_13 ?_
  exact kq_tS ⟨hx, hb, hml, hown, hts⟩ (c_refuseUnlessBelow_no hl9 u h (by omega) (by omega)) (va_cwS 2 hts gX4_62_X4_refuseUnlessBelow rfl rfl rfl (by decide +kernel) ⟨Nat.le_of_ble_eq_true rfl, Nat.le_of_ble_eq_true rfl⟩) tm_Gok hK hP hD hA hG hS rfl hl.1 rfl (Nat.le_of_ble_eq_true rfl) dX4_told_14 ⟨Nat.le_of_ble_eq_true rfl, Nat.le_of_ble_eq_true rfl⟩ hlk hEx (Nat.le_of_ble_eq_true rfl) (Nat.le_of_ble_eq_true rfl)
set_option maxHeartbeats 4000000 in
set_option maxRecDepth 100000 in
theorem m_told_free (hl9 : l.stackTraces = false) (u : tm_S) {j : Nat} (hj : j < 4) (hh : u.2.1 0 j = 0) : kc_T l dC dI gs ad cc yX4_told wsX4_told { frames := 8, cells := 1, slots := 6, locals := 125 } [.ref (ad 0), .int (nI 2), .int (nI j)] u u "java/util/NoSuchElementException" := by
  refine kq_ofT (cc := cX4_told) (maxL := 3) (ret := (some .long)) (R0 := RX4) (by decide) rfl rfl (Nat.le_of_ble_eq_true rfl) ?_
  intro p e s m below meth c A ls hx hb hr hlk hml hown hts hP hK hD hA hG hS hl hEx
  have hl : lv_has ls 3 [(0, .ref (ad 0)), (1, .int (nI 2)), (2, .int (nI j))] := hl
  refine lv_iload_n hx hb dX4_told_0 rfl (lv_at hl 1 rfl) ?_
  refine va_gets hx hb (tm_Gz hG) hS hown (hts _ mb_606) (fun _ h9 => h9) dX4_told_1 ?_
  refine va_tlen hx hb (tm_Gt hG) hS (v := (nI 5)) (by decide) dX4_told_4 ?_
  refine kq_cS (st1 := []) ⟨hx, hb, hml, hown, hts⟩ (c_refuseUnlessBelow_ok u (by omega) (by omega)) (va_cwS 2 hts gX4_62_X4_refuseUnlessBelow rfl rfl rfl (by decide +kernel) ⟨Nat.le_of_ble_eq_true rfl, Nat.le_of_ble_eq_true rfl⟩) tm_Gok hK hP hD hA hG hS rfl hl.1 rfl rfl (Nat.le_of_ble_eq_true rfl) dX4_told_5 ⟨Nat.le_of_ble_eq_true rfl, Nat.le_of_ble_eq_true rfl⟩ (fun H locs hP hD hS => ?_)
  refine lv_iload_n hx hb dX4_told_8 rfl (lv_at hl 2 rfl) ?_
  refine va_gets hx hb (tm_Gz hG) hS hown (hts _ mb_606) (fun _ h9 => h9) dX4_told_9 ?_
  refine lv_iload_n hx hb dX4_told_12 rfl (lv_at hl 1 rfl) ?_
  refine va_ti hx hb (tm_Gt hG) hS (i := (nI 2)) (v := .int (nI 4)) (vp_in_nI (by omega) (by omega)) rfl dX4_told_13 ?_
  refine kq_cS (st1 := []) ⟨hx, hb, hml, hown, hts⟩ (c_refuseUnlessBelow_ok u (by omega) (by omega)) (va_cwS 2 hts gX4_62_X4_refuseUnlessBelow rfl rfl rfl (by decide +kernel) ⟨Nat.le_of_ble_eq_true rfl, Nat.le_of_ble_eq_true rfl⟩) tm_Gok hK hP hD hA hG hS rfl hl.1 rfl rfl (Nat.le_of_ble_eq_true rfl) dX4_told_14 ⟨Nat.le_of_ble_eq_true rfl, Nat.le_of_ble_eq_true rfl⟩ (fun H locs hP hD hS => ?_)
  refine lv_iload_n hx hb dX4_told_17 rfl (lv_at hl 1 rfl) ?_
  refine lv_tableIn (tgt := 44) hx hb dX4_told_18 (by decide) (by decide) rfl (by decide) ?_
  refine lv_aload_n hx hb dX4_told_44 rfl (lv_at hl 0 rfl) ?_
  refine lv_iload_n hx hb dX4_told_45 rfl (lv_at hl 2 rfl) ?_
  exact kq_tV ⟨hx, hb, hml, hown, hts⟩ (c_heldKey_no hl9 u (k := j) (by omega) hh) (cwV 1 hts gX4_81_X4_heldKey rfl rfl rfl (by decide +kernel) ⟨Nat.le_of_ble_eq_true rfl, Nat.le_of_ble_eq_true rfl⟩) tm_Gok hK hP hD hA hG hS (va_recv hK hP (ci := 4) (q0 := 0) rfl (tm_at (i := 0) (by omega) rfl)) rfl hl.1 rfl (Nat.le_of_ble_eq_true rfl) dX4_told_46 ⟨Nat.le_of_ble_eq_true rfl, Nat.le_of_ble_eq_true rfl⟩ hlk hEx (Nat.le_of_ble_eq_true rfl) (Nat.le_of_ble_eq_true rfl)
set_option maxHeartbeats 4000000 in
set_option maxRecDepth 100000 in
theorem m_told_2 (u : tm_S) {j : Nat} (hj : j < 4) (hh : ¬ u.2.1 0 j = 0) : kc_M l dC dI gs ad cc yX4_told wsX4_told { frames := 8, cells := 0, slots := 0, locals := 125 } [.ref (ad 0), .int (nI 2), .int (nI j)] u u (some (.long (tm_h (tm_h (u.1 2 j) ((u.2.1 1 j).toInt64)) (tm_h (u.1 3 j) (u.1 4 j))))) := by
  refine kq_ofW (cc := cX4_told) (maxL := 3) (ret := (some .long)) (R0 := RX4) (by decide) rfl rfl (Nat.le_of_ble_eq_true rfl) ?_
  intro p e s m below meth c A ls hx hb hr hlk hml hown hts hP hK hD hA hG hS hl
  have hl : lv_has ls 3 [(0, .ref (ad 0)), (1, .int (nI 2)), (2, .int (nI j))] := hl
  refine lv_iload_n hx hb dX4_told_0 rfl (lv_at hl 1 rfl) ?_
  refine va_gets hx hb (tm_Gz hG) hS hown (hts _ mb_606) (fun _ h9 => h9) dX4_told_1 ?_
  refine va_tlen hx hb (tm_Gt hG) hS (v := (nI 5)) (by decide) dX4_told_4 ?_
  refine kq_cS (st1 := []) ⟨hx, hb, hml, hown, hts⟩ (c_refuseUnlessBelow_ok u (by omega) (by omega)) (va_cwS 2 hts gX4_62_X4_refuseUnlessBelow rfl rfl rfl (by decide +kernel) ⟨Nat.le_of_ble_eq_true rfl, Nat.le_of_ble_eq_true rfl⟩) tm_Gok hK hP hD hA hG hS rfl hl.1 rfl rfl (Nat.le_of_ble_eq_true rfl) dX4_told_5 ⟨Nat.le_of_ble_eq_true rfl, Nat.le_of_ble_eq_true rfl⟩ (fun H locs hP hD hS => ?_)
  refine lv_iload_n hx hb dX4_told_8 rfl (lv_at hl 2 rfl) ?_
  refine va_gets hx hb (tm_Gz hG) hS hown (hts _ mb_606) (fun _ h9 => h9) dX4_told_9 ?_
  refine lv_iload_n hx hb dX4_told_12 rfl (lv_at hl 1 rfl) ?_
  refine va_ti hx hb (tm_Gt hG) hS (i := (nI 2)) (v := .int (nI 4)) (vp_in_nI (by omega) (by omega)) rfl dX4_told_13 ?_
  refine kq_cS (st1 := []) ⟨hx, hb, hml, hown, hts⟩ (c_refuseUnlessBelow_ok u (by omega) (by omega)) (va_cwS 2 hts gX4_62_X4_refuseUnlessBelow rfl rfl rfl (by decide +kernel) ⟨Nat.le_of_ble_eq_true rfl, Nat.le_of_ble_eq_true rfl⟩) tm_Gok hK hP hD hA hG hS rfl hl.1 rfl rfl (Nat.le_of_ble_eq_true rfl) dX4_told_14 ⟨Nat.le_of_ble_eq_true rfl, Nat.le_of_ble_eq_true rfl⟩ (fun H locs hP hD hS => ?_)
  refine lv_iload_n hx hb dX4_told_17 rfl (lv_at hl 1 rfl) ?_
  refine lv_tableIn (tgt := 44) hx hb dX4_told_18 (by decide) (by decide) rfl (by decide) ?_
  refine lv_aload_n hx hb dX4_told_44 rfl (lv_at hl 0 rfl) ?_
  refine lv_iload_n hx hb dX4_told_45 rfl (lv_at hl 2 rfl) ?_
  refine kq_cV (st1 := [.ref (ad (j + 9))]) ⟨hx, hb, hml, hown, hts⟩ (c_heldKey_ok u (k := j) (by omega) hh) (cwV 1 hts gX4_81_X4_heldKey rfl rfl rfl (by decide +kernel) ⟨Nat.le_of_ble_eq_true rfl, Nat.le_of_ble_eq_true rfl⟩) tm_Gok hK hP hD hA hG hS (va_recv hK hP (ci := 4) (q0 := 0) rfl (tm_at (i := 0) (by omega) rfl)) rfl hl.1 rfl rfl (Nat.le_of_ble_eq_true rfl) dX4_told_46 ⟨Nat.le_of_ble_eq_true rfl, Nat.le_of_ble_eq_true rfl⟩ (fun H locs hP hD hS => ?_)
  refine kq_cV (st1 := [.long (tm_h (tm_h (u.1 2 j) ((u.2.1 1 j).toInt64)) (tm_h (u.1 3 j) (u.1 4 j)))]) ⟨hx, hb, hml, hown, hts⟩ (c_name u (k := j) (by omega)) (cwV 0 hts gX4_163_X2_name rfl rfl rfl (by decide +kernel) ⟨Nat.le_of_ble_eq_true rfl, Nat.le_of_ble_eq_true rfl⟩) tm_Gok hK hP hD hA hG hS (va_recv hK hP (ci := 2) (q0 := j + 9) rfl (tm_at (i := j + 9) (by omega) (tc_K (by omega)))) rfl hl.1 rfl rfl (Nat.le_of_ble_eq_true rfl) dX4_told_49 ⟨Nat.le_of_ble_eq_true rfl, Nat.le_of_ble_eq_true rfl⟩ (fun H locs hP hD hS => ?_)
  exact kq_lret hx hb hr hlk hP hD hS dX4_told_52
set_option maxHeartbeats 4000000 in
set_option maxRecDepth 100000 in
theorem m_told_b2_3 (hl9 : l.stackTraces = false) (u : tm_S) (x : Int32) (h : x < 0 ∨ nI 32 ≤ x)  : kc_T l dC dI gs ad cc yX4_told wsX4_told { frames := 8, cells := 1, slots := 6, locals := 125 } [.ref (ad 0), .int (nI 3), .int x] u u "java/lang/IllegalArgumentException" := by
  refine kq_ofT (cc := cX4_told) (maxL := 3) (ret := (some .long)) (R0 := RX4) (by decide) rfl rfl (Nat.le_of_ble_eq_true rfl) ?_
  intro p e s m below meth c A ls hx hb hr hlk hml hown hts hP hK hD hA hG hS hl hEx
  have hl : lv_has ls 3 [(0, .ref (ad 0)), (1, .int (nI 3)), (2, .int x)] := hl
  refine lv_iload_n hx hb dX4_told_0 rfl (lv_at hl 1 rfl) ?_
  refine va_gets hx hb (tm_Gz hG) hS hown (hts _ mb_606) (fun _ h9 => h9) dX4_told_1 ?_
  refine va_tlen hx hb (tm_Gt hG) hS (v := (nI 5)) (by decide) dX4_told_4 ?_
  refine kq_cS (st1 := []) ⟨hx, hb, hml, hown, hts⟩ (c_refuseUnlessBelow_ok u (by omega) (by omega)) (va_cwS 2 hts gX4_62_X4_refuseUnlessBelow rfl rfl rfl (by decide +kernel) ⟨Nat.le_of_ble_eq_true rfl, Nat.le_of_ble_eq_true rfl⟩) tm_Gok hK hP hD hA hG hS rfl hl.1 rfl rfl (Nat.le_of_ble_eq_true rfl) dX4_told_5 ⟨Nat.le_of_ble_eq_true rfl, Nat.le_of_ble_eq_true rfl⟩ (fun H locs hP hD hS => ?_)
  refine lv_iload_n hx hb dX4_told_8 rfl (lv_at hl 2 rfl) ?_
  refine va_gets hx hb (tm_Gz hG) hS hown (hts _ mb_606) (fun _ h9 => h9) dX4_told_9 ?_
  refine lv_iload_n hx hb dX4_told_12 rfl (lv_at hl 1 rfl) ?_
  refine va_ti hx hb (tm_Gt hG) hS (i := (nI 3)) (v := .int (nI 32)) (vp_in_nI (by omega) (by omega)) rfl dX4_told_13 ?_
  exact kq_tS ⟨hx, hb, hml, hown, hts⟩ (c_refuseUnlessBelow_no hl9 u h (by omega) (by omega)) (va_cwS 2 hts gX4_62_X4_refuseUnlessBelow rfl rfl rfl (by decide +kernel) ⟨Nat.le_of_ble_eq_true rfl, Nat.le_of_ble_eq_true rfl⟩) tm_Gok hK hP hD hA hG hS rfl hl.1 rfl (Nat.le_of_ble_eq_true rfl) dX4_told_14 ⟨Nat.le_of_ble_eq_true rfl, Nat.le_of_ble_eq_true rfl⟩ hlk hEx (Nat.le_of_ble_eq_true rfl) (Nat.le_of_ble_eq_true rfl)
set_option maxHeartbeats 4000000 in
set_option maxRecDepth 100000 in
theorem m_told_none (hl9 : l.stackTraces = false) (u : tm_S) {j : Nat} (hj : j < 32) (hm : u.2.1 3 (j / 4) = 0) : kc_T l dC dI gs ad cc yX4_told wsX4_told { frames := 8, cells := 1, slots := 6, locals := 125 } [.ref (ad 0), .int (nI 3), .int (nI j)] u u "java/util/NoSuchElementException" := by
  refine kq_ofT (cc := cX4_told) (maxL := 3) (ret := (some .long)) (R0 := RX4) (by decide) rfl rfl (Nat.le_of_ble_eq_true rfl) ?_
  intro p e s m below meth c A ls hx hb hr hlk hml hown hts hP hK hD hA hG hS hl hEx
  have hl : lv_has ls 3 [(0, .ref (ad 0)), (1, .int (nI 3)), (2, .int (nI j))] := hl
  refine lv_iload_n hx hb dX4_told_0 rfl (lv_at hl 1 rfl) ?_
  refine va_gets hx hb (tm_Gz hG) hS hown (hts _ mb_606) (fun _ h9 => h9) dX4_told_1 ?_
  refine va_tlen hx hb (tm_Gt hG) hS (v := (nI 5)) (by decide) dX4_told_4 ?_
  refine kq_cS (st1 := []) ⟨hx, hb, hml, hown, hts⟩ (c_refuseUnlessBelow_ok u (by omega) (by omega)) (va_cwS 2 hts gX4_62_X4_refuseUnlessBelow rfl rfl rfl (by decide +kernel) ⟨Nat.le_of_ble_eq_true rfl, Nat.le_of_ble_eq_true rfl⟩) tm_Gok hK hP hD hA hG hS rfl hl.1 rfl rfl (Nat.le_of_ble_eq_true rfl) dX4_told_5 ⟨Nat.le_of_ble_eq_true rfl, Nat.le_of_ble_eq_true rfl⟩ (fun H locs hP hD hS => ?_)
  refine lv_iload_n hx hb dX4_told_8 rfl (lv_at hl 2 rfl) ?_
  refine va_gets hx hb (tm_Gz hG) hS hown (hts _ mb_606) (fun _ h9 => h9) dX4_told_9 ?_
  refine lv_iload_n hx hb dX4_told_12 rfl (lv_at hl 1 rfl) ?_
  refine va_ti hx hb (tm_Gt hG) hS (i := (nI 3)) (v := .int (nI 32)) (vp_in_nI (by omega) (by omega)) rfl dX4_told_13 ?_
  refine kq_cS (st1 := []) ⟨hx, hb, hml, hown, hts⟩ (c_refuseUnlessBelow_ok u (by omega) (by omega)) (va_cwS 2 hts gX4_62_X4_refuseUnlessBelow rfl rfl rfl (by decide +kernel) ⟨Nat.le_of_ble_eq_true rfl, Nat.le_of_ble_eq_true rfl⟩) tm_Gok hK hP hD hA hG hS rfl hl.1 rfl rfl (Nat.le_of_ble_eq_true rfl) dX4_told_14 ⟨Nat.le_of_ble_eq_true rfl, Nat.le_of_ble_eq_true rfl⟩ (fun H locs hP hD hS => ?_)
  refine lv_iload_n hx hb dX4_told_17 rfl (lv_at hl 1 rfl) ?_
  refine lv_tableIn (tgt := 53) hx hb dX4_told_18 (by decide) (by decide) rfl (by decide) ?_
  refine lv_aload_n hx hb dX4_told_53 rfl (lv_at hl 0 rfl) ?_
  refine lv_iload_n hx hb dX4_told_54 rfl (lv_at hl 2 rfl) ?_
  refine lv_iconst (v := (nI 4)) hx hb dX4_told_55 (by decide) ?_
  refine lv_idiv hx hb dX4_told_56 (by decide) ?_
  refine kq_ti (y := (nI (j / 4))) (pk_div (by omega) (by omega) (by omega)) ?_
  exact kq_tV ⟨hx, hb, hml, hown, hts⟩ (c_madeBlob_no hl9 u (k := (j / 4)) (by omega) hm) (cwV 1 hts gX4_97_X4_madeBlob rfl rfl rfl (by decide +kernel) ⟨Nat.le_of_ble_eq_true rfl, Nat.le_of_ble_eq_true rfl⟩) tm_Gok hK hP hD hA hG hS (va_recv hK hP (ci := 4) (q0 := 0) rfl (tm_at (i := 0) (by omega) rfl)) rfl hl.1 rfl (Nat.le_of_ble_eq_true rfl) dX4_told_57 ⟨Nat.le_of_ble_eq_true rfl, Nat.le_of_ble_eq_true rfl⟩ hlk hEx (Nat.le_of_ble_eq_true rfl) (Nat.le_of_ble_eq_true rfl)
set_option maxHeartbeats 4000000 in
set_option maxRecDepth 100000 in
theorem m_told_3 (u : tm_S) {j : Nat} (hj : j < 32) (hm : ¬ u.2.1 3 (j / 4) = 0) : kc_M l dC dI gs ad cc yX4_told wsX4_told { frames := 8, cells := 0, slots := 0, locals := 125 } [.ref (ad 0), .int (nI 3), .int (nI j)] u u (some (.long (u.1 5 (4 * (j / 4) + (j % 4))))) := by
  refine kq_ofW (cc := cX4_told) (maxL := 3) (ret := (some .long)) (R0 := RX4) (by decide) rfl rfl (Nat.le_of_ble_eq_true rfl) ?_
  intro p e s m below meth c A ls hx hb hr hlk hml hown hts hP hK hD hA hG hS hl
  have hl : lv_has ls 3 [(0, .ref (ad 0)), (1, .int (nI 3)), (2, .int (nI j))] := hl
  refine lv_iload_n hx hb dX4_told_0 rfl (lv_at hl 1 rfl) ?_
  refine va_gets hx hb (tm_Gz hG) hS hown (hts _ mb_606) (fun _ h9 => h9) dX4_told_1 ?_
  refine va_tlen hx hb (tm_Gt hG) hS (v := (nI 5)) (by decide) dX4_told_4 ?_
  refine kq_cS (st1 := []) ⟨hx, hb, hml, hown, hts⟩ (c_refuseUnlessBelow_ok u (by omega) (by omega)) (va_cwS 2 hts gX4_62_X4_refuseUnlessBelow rfl rfl rfl (by decide +kernel) ⟨Nat.le_of_ble_eq_true rfl, Nat.le_of_ble_eq_true rfl⟩) tm_Gok hK hP hD hA hG hS rfl hl.1 rfl rfl (Nat.le_of_ble_eq_true rfl) dX4_told_5 ⟨Nat.le_of_ble_eq_true rfl, Nat.le_of_ble_eq_true rfl⟩ (fun H locs hP hD hS => ?_)
  refine lv_iload_n hx hb dX4_told_8 rfl (lv_at hl 2 rfl) ?_
  refine va_gets hx hb (tm_Gz hG) hS hown (hts _ mb_606) (fun _ h9 => h9) dX4_told_9 ?_
  refine lv_iload_n hx hb dX4_told_12 rfl (lv_at hl 1 rfl) ?_
  refine va_ti hx hb (tm_Gt hG) hS (i := (nI 3)) (v := .int (nI 32)) (vp_in_nI (by omega) (by omega)) rfl dX4_told_13 ?_
  refine kq_cS (st1 := []) ⟨hx, hb, hml, hown, hts⟩ (c_refuseUnlessBelow_ok u (by omega) (by omega)) (va_cwS 2 hts gX4_62_X4_refuseUnlessBelow rfl rfl rfl (by decide +kernel) ⟨Nat.le_of_ble_eq_true rfl, Nat.le_of_ble_eq_true rfl⟩) tm_Gok hK hP hD hA hG hS rfl hl.1 rfl rfl (Nat.le_of_ble_eq_true rfl) dX4_told_14 ⟨Nat.le_of_ble_eq_true rfl, Nat.le_of_ble_eq_true rfl⟩ (fun H locs hP hD hS => ?_)
  refine lv_iload_n hx hb dX4_told_17 rfl (lv_at hl 1 rfl) ?_
  refine lv_tableIn (tgt := 53) hx hb dX4_told_18 (by decide) (by decide) rfl (by decide) ?_
  refine lv_aload_n hx hb dX4_told_53 rfl (lv_at hl 0 rfl) ?_
  refine lv_iload_n hx hb dX4_told_54 rfl (lv_at hl 2 rfl) ?_
  refine lv_iconst (v := (nI 4)) hx hb dX4_told_55 (by decide) ?_
  refine lv_idiv hx hb dX4_told_56 (by decide) ?_
  refine kq_ti (y := (nI (j / 4))) (pk_div (by omega) (by omega) (by omega)) ?_
  refine kq_cV (st1 := [.ref (ad ((j / 4) + 13))]) ⟨hx, hb, hml, hown, hts⟩ (c_madeBlob_ok u (k := (j / 4)) (by omega) hm) (cwV 1 hts gX4_97_X4_madeBlob rfl rfl rfl (by decide +kernel) ⟨Nat.le_of_ble_eq_true rfl, Nat.le_of_ble_eq_true rfl⟩) tm_Gok hK hP hD hA hG hS (va_recv hK hP (ci := 4) (q0 := 0) rfl (tm_at (i := 0) (by omega) rfl)) rfl hl.1 rfl rfl (Nat.le_of_ble_eq_true rfl) dX4_told_57 ⟨Nat.le_of_ble_eq_true rfl, Nat.le_of_ble_eq_true rfl⟩ (fun H locs hP hD hS => ?_)
  refine tc_gB_longs hx hb hts inB_X0 hown hK hP (by omega) (hts _ mb_78) dX4_told_60 ?_
  refine lv_iload_n hx hb dX4_told_63 rfl (lv_at hl 2 rfl) ?_
  refine lv_iconst (v := (nI 4)) hx hb dX4_told_64 (by decide) ?_
  refine lv_irem hx hb dX4_told_65 (by decide) ?_
  refine kq_ti (y := (nI (j % 4))) (pk_rem (by omega) (by omega) (by omega)) ?_
  refine tc_l_blob hx hb hK hP (by omega) (by omega) dX4_told_66 ?_
  exact kq_lret hx hb hr hlk hP hD hS dX4_told_67
set_option maxHeartbeats 4000000 in
set_option maxRecDepth 100000 in
theorem m_told_b2_4 (hl9 : l.stackTraces = false) (u : tm_S) (x : Int32) (h : x < 0 ∨ nI 3 ≤ x)  : kc_T l dC dI gs ad cc yX4_told wsX4_told { frames := 8, cells := 1, slots := 6, locals := 125 } [.ref (ad 0), .int (nI 4), .int x] u u "java/lang/IllegalArgumentException" := by
  refine kq_ofT (cc := cX4_told) (maxL := 3) (ret := (some .long)) (R0 := RX4) (by decide) rfl rfl (Nat.le_of_ble_eq_true rfl) ?_
  intro p e s m below meth c A ls hx hb hr hlk hml hown hts hP hK hD hA hG hS hl hEx
  have hl : lv_has ls 3 [(0, .ref (ad 0)), (1, .int (nI 4)), (2, .int x)] := hl
  refine lv_iload_n hx hb dX4_told_0 rfl (lv_at hl 1 rfl) ?_
  refine va_gets hx hb (tm_Gz hG) hS hown (hts _ mb_606) (fun _ h9 => h9) dX4_told_1 ?_
  refine va_tlen hx hb (tm_Gt hG) hS (v := (nI 5)) (by decide) dX4_told_4 ?_
  refine kq_cS (st1 := []) ⟨hx, hb, hml, hown, hts⟩ (c_refuseUnlessBelow_ok u (by omega) (by omega)) (va_cwS 2 hts gX4_62_X4_refuseUnlessBelow rfl rfl rfl (by decide +kernel) ⟨Nat.le_of_ble_eq_true rfl, Nat.le_of_ble_eq_true rfl⟩) tm_Gok hK hP hD hA hG hS rfl hl.1 rfl rfl (Nat.le_of_ble_eq_true rfl) dX4_told_5 ⟨Nat.le_of_ble_eq_true rfl, Nat.le_of_ble_eq_true rfl⟩ (fun H locs hP hD hS => ?_)
  refine lv_iload_n hx hb dX4_told_8 rfl (lv_at hl 2 rfl) ?_
  refine va_gets hx hb (tm_Gz hG) hS hown (hts _ mb_606) (fun _ h9 => h9) dX4_told_9 ?_
  refine lv_iload_n hx hb dX4_told_12 rfl (lv_at hl 1 rfl) ?_
  refine va_ti hx hb (tm_Gt hG) hS (i := (nI 4)) (v := .int (nI 3)) (vp_in_nI (by omega) (by omega)) rfl dX4_told_13 ?_
  exact kq_tS ⟨hx, hb, hml, hown, hts⟩ (c_refuseUnlessBelow_no hl9 u h (by omega) (by omega)) (va_cwS 2 hts gX4_62_X4_refuseUnlessBelow rfl rfl rfl (by decide +kernel) ⟨Nat.le_of_ble_eq_true rfl, Nat.le_of_ble_eq_true rfl⟩) tm_Gok hK hP hD hA hG hS rfl hl.1 rfl (Nat.le_of_ble_eq_true rfl) dX4_told_14 ⟨Nat.le_of_ble_eq_true rfl, Nat.le_of_ble_eq_true rfl⟩ hlk hEx (Nat.le_of_ble_eq_true rfl) (Nat.le_of_ble_eq_true rfl)
set_option maxHeartbeats 4000000 in
set_option maxRecDepth 100000 in
theorem m_told_4 (u : tm_S) {j : Nat} (hj : j < 3)  : kc_M l dC dI gs ad cc yX4_told wsX4_told { frames := 8, cells := 0, slots := 0, locals := 125 } [.ref (ad 0), .int (nI 4), .int (nI j)] u u (some (.long (u.1 6 j))) := by
  refine kq_ofW (cc := cX4_told) (maxL := 3) (ret := (some .long)) (R0 := RX4) (by decide) rfl rfl (Nat.le_of_ble_eq_true rfl) ?_
  intro p e s m below meth c A ls hx hb hr hlk hml hown hts hP hK hD hA hG hS hl
  have hl : lv_has ls 3 [(0, .ref (ad 0)), (1, .int (nI 4)), (2, .int (nI j))] := hl
  refine lv_iload_n hx hb dX4_told_0 rfl (lv_at hl 1 rfl) ?_
  refine va_gets hx hb (tm_Gz hG) hS hown (hts _ mb_606) (fun _ h9 => h9) dX4_told_1 ?_
  refine va_tlen hx hb (tm_Gt hG) hS (v := (nI 5)) (by decide) dX4_told_4 ?_
  refine kq_cS (st1 := []) ⟨hx, hb, hml, hown, hts⟩ (c_refuseUnlessBelow_ok u (by omega) (by omega)) (va_cwS 2 hts gX4_62_X4_refuseUnlessBelow rfl rfl rfl (by decide +kernel) ⟨Nat.le_of_ble_eq_true rfl, Nat.le_of_ble_eq_true rfl⟩) tm_Gok hK hP hD hA hG hS rfl hl.1 rfl rfl (Nat.le_of_ble_eq_true rfl) dX4_told_5 ⟨Nat.le_of_ble_eq_true rfl, Nat.le_of_ble_eq_true rfl⟩ (fun H locs hP hD hS => ?_)
  refine lv_iload_n hx hb dX4_told_8 rfl (lv_at hl 2 rfl) ?_
  refine va_gets hx hb (tm_Gz hG) hS hown (hts _ mb_606) (fun _ h9 => h9) dX4_told_9 ?_
  refine lv_iload_n hx hb dX4_told_12 rfl (lv_at hl 1 rfl) ?_
  refine va_ti hx hb (tm_Gt hG) hS (i := (nI 4)) (v := .int (nI 3)) (vp_in_nI (by omega) (by omega)) rfl dX4_told_13 ?_
  refine kq_cS (st1 := []) ⟨hx, hb, hml, hown, hts⟩ (c_refuseUnlessBelow_ok u (by omega) (by omega)) (va_cwS 2 hts gX4_62_X4_refuseUnlessBelow rfl rfl rfl (by decide +kernel) ⟨Nat.le_of_ble_eq_true rfl, Nat.le_of_ble_eq_true rfl⟩) tm_Gok hK hP hD hA hG hS rfl hl.1 rfl rfl (Nat.le_of_ble_eq_true rfl) dX4_told_14 ⟨Nat.le_of_ble_eq_true rfl, Nat.le_of_ble_eq_true rfl⟩ (fun H locs hP hD hS => ?_)
  refine lv_iload_n hx hb dX4_told_17 rfl (lv_at hl 1 rfl) ?_
  refine lv_tableIn (tgt := 68) hx hb dX4_told_18 (by decide) (by decide) rfl (by decide) ?_
  refine lv_aload_n hx hb dX4_told_68 rfl (lv_at hl 0 rfl) ?_
  refine tc_gT_sessions hx hb hts inB_X4 hown hK hP (hts _ mb_149) dX4_told_69 ?_
  refine lv_iload_n hx hb dX4_told_72 rfl (lv_at hl 2 rfl) ?_
  refine tc_a_sessions hx hb hK hP (by omega) dX4_told_73 ?_
  refine tc_gY_digest hx hb hts inB_X3 hown hK hP (by omega) (hts _ mb_90) dX4_told_74 ?_
  exact kq_lret hx hb hr hlk hP hD hS dX4_told_77
set_option maxHeartbeats 4000000 in
set_option maxRecDepth 100000 in
theorem m_count_0 (u : tm_S) : kc_M l dC dI gs ad cc yX4_count wsX4_count { frames := 1, cells := 0, slots := 0, locals := 22 } [.ref (ad 0), .int (nI 0)] u u (some (.int (tm_cnt u 0 4))) := by
  refine kq_ofW (cc := cX4_count) (maxL := 2) (ret := (some .int)) (R0 := RX4) (by decide) rfl rfl (Nat.le_of_ble_eq_true rfl) ?_
  intro p e s m below meth c A ls hx hb hr hlk hml hown hts hP hK hD hA hG hS hl
  have hl : lv_has ls 2 [(0, .ref (ad 0)), (1, .int (nI 0))] := hl
  refine lv_iload_n hx hb dX4_count_0 rfl (lv_at hl 1 rfl) ?_
  refine lv_tableIn (tgt := 48) hx hb dX4_count_1 (by decide) (by decide) rfl (by decide) ?_
  refine lv_aload_n hx hb dX4_count_48 rfl (lv_at hl 0 rfl) ?_
  refine kq_cV (st1 := [.int (tm_cnt u 0 4)]) ⟨hx, hb, hml, hown, hts⟩ (c_heldKeys u) (cwV 0 hts gX4_228_X4_heldKeys rfl rfl rfl (by decide +kernel) ⟨Nat.le_of_ble_eq_true rfl, Nat.le_of_ble_eq_true rfl⟩) tm_Gok hK hP hD hA hG hS (va_recv hK hP (ci := 4) (q0 := 0) rfl (tm_at (i := 0) (by omega) rfl)) rfl hl.1 rfl rfl (Nat.le_of_ble_eq_true rfl) dX4_count_49 ⟨Nat.le_of_ble_eq_true rfl, Nat.le_of_ble_eq_true rfl⟩ (fun H locs hP hD hS => ?_)
  exact kq_iret hx hb hr hlk hP hD hS dX4_count_52
set_option maxHeartbeats 4000000 in
set_option maxRecDepth 100000 in
theorem m_count_1 (u : tm_S) : kc_M l dC dI gs ad cc yX4_count wsX4_count { frames := 1, cells := 0, slots := 0, locals := 22 } [.ref (ad 0), .int (nI 1)] u u (some (.int (u.2.1 13 0))) := by
  refine kq_ofW (cc := cX4_count) (maxL := 2) (ret := (some .int)) (R0 := RX4) (by decide) rfl rfl (Nat.le_of_ble_eq_true rfl) ?_
  intro p e s m below meth c A ls hx hb hr hlk hml hown hts hP hK hD hA hG hS hl
  have hl : lv_has ls 2 [(0, .ref (ad 0)), (1, .int (nI 1))] := hl
  refine lv_iload_n hx hb dX4_count_0 rfl (lv_at hl 1 rfl) ?_
  refine lv_tableIn (tgt := 53) hx hb dX4_count_1 (by decide) (by decide) rfl (by decide) ?_
  refine lv_aload_n hx hb dX4_count_53 rfl (lv_at hl 0 rfl) ?_
  refine tc_gT_wrongGuesses hx hb hts inB_X4 hown hK hP (hts _ mb_156) dX4_count_54 ?_
  exact kq_iret hx hb hr hlk hP hD hS dX4_count_57
set_option maxHeartbeats 4000000 in
set_option maxRecDepth 100000 in
theorem m_count_2 (u : tm_S) : kc_M l dC dI gs ad cc yX4_count wsX4_count { frames := 1, cells := 0, slots := 0, locals := 22 } [.ref (ad 0), .int (nI 2)] u u (some (.int (u.2.1 9 0))) := by
  refine kq_ofW (cc := cX4_count) (maxL := 2) (ret := (some .int)) (R0 := RX4) (by decide) rfl rfl (Nat.le_of_ble_eq_true rfl) ?_
  intro p e s m below meth c A ls hx hb hr hlk hml hown hts hP hK hD hA hG hS hl
  have hl : lv_has ls 2 [(0, .ref (ad 0)), (1, .int (nI 2))] := hl
  refine lv_iload_n hx hb dX4_count_0 rfl (lv_at hl 1 rfl) ?_
  refine lv_tableIn (tgt := 58) hx hb dX4_count_1 (by decide) (by decide) rfl (by decide) ?_
  refine lv_aload_n hx hb dX4_count_58 rfl (lv_at hl 0 rfl) ?_
  refine tc_gT_pcrCount hx hb hts inB_X4 hown hK hP (hts _ mb_151) dX4_count_59 ?_
  exact kq_iret hx hb hr hlk hP hD hS dX4_count_62
set_option maxHeartbeats 4000000 in
set_option maxRecDepth 100000 in
theorem m_count_3 (u : tm_S) : kc_M l dC dI gs ad cc yX4_count wsX4_count { frames := 1, cells := 0, slots := 0, locals := 22 } [.ref (ad 0), .int (nI 3)] u u (some (.int (u.2.1 10 0))) := by
  refine kq_ofW (cc := cX4_count) (maxL := 2) (ret := (some .int)) (R0 := RX4) (by decide) rfl rfl (Nat.le_of_ble_eq_true rfl) ?_
  intro p e s m below meth c A ls hx hb hr hlk hml hown hts hP hK hD hA hG hS hl
  have hl : lv_has ls 2 [(0, .ref (ad 0)), (1, .int (nI 3))] := hl
  refine lv_iload_n hx hb dX4_count_0 rfl (lv_at hl 1 rfl) ?_
  refine lv_tableIn (tgt := 63) hx hb dX4_count_1 (by decide) (by decide) rfl (by decide) ?_
  refine lv_aload_n hx hb dX4_count_63 rfl (lv_at hl 0 rfl) ?_
  refine tc_gT_powerLeft hx hb hts inB_X4 hown hK hP (hts _ mb_153) dX4_count_64 ?_
  exact kq_iret hx hb hr hlk hP hD hS dX4_count_67
set_option maxHeartbeats 4000000 in
set_option maxRecDepth 100000 in
theorem m_count_4a (u : tm_S) (h : u.2.1 11 0 = 0) : kc_M l dC dI gs ad cc yX4_count wsX4_count { frames := 1, cells := 0, slots := 0, locals := 22 } [.ref (ad 0), .int (nI 4)] u u (some (.int (nI 0))) := by
  refine kq_ofW (cc := cX4_count) (maxL := 2) (ret := (some .int)) (R0 := RX4) (by decide) rfl rfl (Nat.le_of_ble_eq_true rfl) ?_
  intro p e s m below meth c A ls hx hb hr hlk hml hown hts hP hK hD hA hG hS hl
  have hl : lv_has ls 2 [(0, .ref (ad 0)), (1, .int (nI 4))] := hl
  refine lv_iload_n hx hb dX4_count_0 rfl (lv_at hl 1 rfl) ?_
  refine lv_tableIn (tgt := 68) hx hb dX4_count_1 (by decide) (by decide) rfl (by decide) ?_
  refine lv_aload_n hx hb dX4_count_68 rfl (lv_at hl 0 rfl) ?_
  refine tc_gT_lost hx hb hts inB_X4 hown hK hP (hts _ mb_154) dX4_count_69 ?_
  refine lv_if_eq (tgt := 79) hx hb dX4_count_72 (by decide) (fun _ => ?_) (fun c => absurd h c)
  refine lv_iconst (v := (nI 0)) hx hb dX4_count_79 (by decide) ?_
  exact kq_iret hx hb hr hlk hP hD hS dX4_count_80
set_option maxHeartbeats 4000000 in
set_option maxRecDepth 100000 in
theorem m_count_4b (u : tm_S) (h : ¬ u.2.1 11 0 = 0) : kc_M l dC dI gs ad cc yX4_count wsX4_count { frames := 1, cells := 0, slots := 0, locals := 22 } [.ref (ad 0), .int (nI 4)] u u (some (.int (nI 1))) := by
  refine kq_ofW (cc := cX4_count) (maxL := 2) (ret := (some .int)) (R0 := RX4) (by decide) rfl rfl (Nat.le_of_ble_eq_true rfl) ?_
  intro p e s m below meth c A ls hx hb hr hlk hml hown hts hP hK hD hA hG hS hl
  have hl : lv_has ls 2 [(0, .ref (ad 0)), (1, .int (nI 4))] := hl
  refine lv_iload_n hx hb dX4_count_0 rfl (lv_at hl 1 rfl) ?_
  refine lv_tableIn (tgt := 68) hx hb dX4_count_1 (by decide) (by decide) rfl (by decide) ?_
  refine lv_aload_n hx hb dX4_count_68 rfl (lv_at hl 0 rfl) ?_
  refine tc_gT_lost hx hb hts inB_X4 hown hK hP (hts _ mb_154) dX4_count_69 ?_
  refine lv_if_eq (tgt := 79) hx hb dX4_count_72 (by decide) (fun c => absurd c h) (fun _ => ?_)
  refine lv_iconst (v := (nI 1)) hx hb dX4_count_75 (by decide) ?_
  refine lv_goto (tgt := 80) hx hb dX4_count_76 (by decide) ?_
  exact kq_iret hx hb hr hlk hP hD hS dX4_count_80
set_option maxHeartbeats 4000000 in
set_option maxRecDepth 100000 in
theorem m_count_5 (u : tm_S) : kc_M l dC dI gs ad cc yX4_count wsX4_count { frames := 1, cells := 0, slots := 0, locals := 22 } [.ref (ad 0), .int (nI 5)] u u (some (.int (tm_cnt u 6 4))) := by
  refine kq_ofW (cc := cX4_count) (maxL := 2) (ret := (some .int)) (R0 := RX4) (by decide) rfl rfl (Nat.le_of_ble_eq_true rfl) ?_
  intro p e s m below meth c A ls hx hb hr hlk hml hown hts hP hK hD hA hG hS hl
  have hl : lv_has ls 2 [(0, .ref (ad 0)), (1, .int (nI 5))] := hl
  refine lv_iload_n hx hb dX4_count_0 rfl (lv_at hl 1 rfl) ?_
  refine lv_tableIn (tgt := 81) hx hb dX4_count_1 (by decide) (by decide) rfl (by decide) ?_
  refine lv_aload_n hx hb dX4_count_81 rfl (lv_at hl 0 rfl) ?_
  refine kq_cV (st1 := [.int (tm_cnt u 6 4)]) ⟨hx, hb, hml, hown, hts⟩ (c_definedIndices u) (cwV 0 hts gX4_237_X4_definedIndices rfl rfl rfl (by decide +kernel) ⟨Nat.le_of_ble_eq_true rfl, Nat.le_of_ble_eq_true rfl⟩) tm_Gok hK hP hD hA hG hS (va_recv hK hP (ci := 4) (q0 := 0) rfl (tm_at (i := 0) (by omega) rfl)) rfl hl.1 rfl rfl (Nat.le_of_ble_eq_true rfl) dX4_count_82 ⟨Nat.le_of_ble_eq_true rfl, Nat.le_of_ble_eq_true rfl⟩ (fun H locs hP hD hS => ?_)
  exact kq_iret hx hb hr hlk hP hD hS dX4_count_85
set_option maxHeartbeats 4000000 in
set_option maxRecDepth 100000 in
theorem m_count_6 (u : tm_S) : kc_M l dC dI gs ad cc yX4_count wsX4_count { frames := 1, cells := 0, slots := 0, locals := 22 } [.ref (ad 0), .int (nI 6)] u u (some (.int (tm_cnt u 3 8))) := by
  refine kq_ofW (cc := cX4_count) (maxL := 2) (ret := (some .int)) (R0 := RX4) (by decide) rfl rfl (Nat.le_of_ble_eq_true rfl) ?_
  intro p e s m below meth c A ls hx hb hr hlk hml hown hts hP hK hD hA hG hS hl
  have hl : lv_has ls 2 [(0, .ref (ad 0)), (1, .int (nI 6))] := hl
  refine lv_iload_n hx hb dX4_count_0 rfl (lv_at hl 1 rfl) ?_
  refine lv_tableIn (tgt := 86) hx hb dX4_count_1 (by decide) (by decide) rfl (by decide) ?_
  refine lv_aload_n hx hb dX4_count_86 rfl (lv_at hl 0 rfl) ?_
  refine kq_cV (st1 := [.int (tm_cnt u 3 8)]) ⟨hx, hb, hml, hown, hts⟩ (c_madeBlobs u) (cwV 0 hts gX4_240_X4_madeBlobs rfl rfl rfl (by decide +kernel) ⟨Nat.le_of_ble_eq_true rfl, Nat.le_of_ble_eq_true rfl⟩) tm_Gok hK hP hD hA hG hS (va_recv hK hP (ci := 4) (q0 := 0) rfl (tm_at (i := 0) (by omega) rfl)) rfl hl.1 rfl rfl (Nat.le_of_ble_eq_true rfl) dX4_count_87 ⟨Nat.le_of_ble_eq_true rfl, Nat.le_of_ble_eq_true rfl⟩ (fun H locs hP hD hS => ?_)
  exact kq_iret hx hb hr hlk hP hD hS dX4_count_90
set_option maxHeartbeats 4000000 in
set_option maxRecDepth 100000 in
theorem m_count_7 (u : tm_S) : kc_M l dC dI gs ad cc yX4_count wsX4_count { frames := 1, cells := 0, slots := 0, locals := 22 } [.ref (ad 0), .int (nI 7)] u u (some (.int (u.2.1 12 0))) := by
  refine kq_ofW (cc := cX4_count) (maxL := 2) (ret := (some .int)) (R0 := RX4) (by decide) rfl rfl (Nat.le_of_ble_eq_true rfl) ?_
  intro p e s m below meth c A ls hx hb hr hlk hml hown hts hP hK hD hA hG hS hl
  have hl : lv_has ls 2 [(0, .ref (ad 0)), (1, .int (nI 7))] := hl
  refine lv_iload_n hx hb dX4_count_0 rfl (lv_at hl 1 rfl) ?_
  refine lv_tableIn (tgt := 91) hx hb dX4_count_1 (by decide) (by decide) rfl (by decide) ?_
  refine lv_aload_n hx hb dX4_count_91 rfl (lv_at hl 0 rfl) ?_
  refine tc_gT_timesLost hx hb hts inB_X4 hown hK hP (hts _ mb_155) dX4_count_92 ?_
  exact kq_iret hx hb hr hlk hP hD hS dX4_count_95
set_option maxHeartbeats 4000000 in
set_option maxRecDepth 100000 in
theorem m_count_d (u : tm_S) (x : Int32) (h : x.toInt < 0 ∨ 7 < x.toInt) : kc_M l dC dI gs ad cc yX4_count wsX4_count { frames := 1, cells := 0, slots := 0, locals := 22 } [.ref (ad 0), .int x] u u (some (.int (-1))) := by
  refine kq_ofW (cc := cX4_count) (maxL := 2) (ret := (some .int)) (R0 := RX4) (by decide) rfl rfl (Nat.le_of_ble_eq_true rfl) ?_
  intro p e s m below meth c A ls hx hb hr hlk hml hown hts hP hK hD hA hG hS hl
  have hl : lv_has ls 2 [(0, .ref (ad 0)), (1, .int x)] := hl
  refine lv_iload_n hx hb dX4_count_0 rfl (lv_at hl 1 rfl) ?_
  refine lv_tableOut (tgt := 96) hx hb dX4_count_1 h (by decide) ?_
  refine lv_iconst (v := (-1)) hx hb dX4_count_96 (by decide) ?_
  exact kq_iret hx hb hr hlk hP hD hS dX4_count_97
end S17
