section S12
variable {l : Launch} {dC : Nat → ClassId} {dI : Nat → Nat → Nat} {gs : Nat → Nat} {ad : Nat → Nat} {cc : Nat → ClassId}
set_option maxHeartbeats 4000000 in
set_option maxRecDepth 100000 in
theorem c_refuseUnlessParent_ok (u : tm_S) {k : Nat} (hk : k < 4) (h : ¬ u.2.1 2 k = 0) : kc_M l dC dI gs ad cc yX4_refuseUnlessParent wsX4_refuseUnlessParent { frames := 6, cells := 0, slots := 0, locals := 82 } [.ref (ad (k + 9))] u u none := by
  refine kq_ofW (cc := cX4_refuseUnlessParent) (maxL := 1) (ret := none) (R0 := RX4) (by decide) rfl rfl (Nat.le_of_ble_eq_true rfl) ?_
  intro p e s m below meth c A ls hx hb hr hlk hml hown hts hP hK hD hA hG hS hl
  have hl : lv_has ls 1 [(0, .ref (ad (k + 9)))] := hl
  refine lv_aload_n hx hb dX4_refuseUnlessParent_0 rfl (lv_at hl 0 rfl) ?_
  refine tc_gK_parent hx hb hts inB_X2 hown hK hP (by omega) (hts _ mb_55) dX4_refuseUnlessParent_1 ?_
  refine lv_if_ne (tgt := 18) hx hb dX4_refuseUnlessParent_4 (by decide) (fun _ => ?_) (fun c => absurd c h)
  exact kq_vret hx hb hr hlk hP hD hS dX4_refuseUnlessParent_18
set_option maxHeartbeats 4000000 in
set_option maxRecDepth 100000 in
theorem c_refuseUnlessParent_no (hl9 : l.stackTraces = false) (u : tm_S) {k : Nat} (hk : k < 4) (h : u.2.1 2 k = 0) : kc_T l dC dI gs ad cc yX4_refuseUnlessParent wsX4_refuseUnlessParent { frames := 6, cells := 1, slots := 6, locals := 82 } [.ref (ad (k + 9))] u u "java/lang/UnsupportedOperationException" := by
  refine kq_ofT (cc := cX4_refuseUnlessParent) (maxL := 1) (ret := none) (R0 := RX4) (by decide) rfl rfl (Nat.le_of_ble_eq_true rfl) ?_
  intro p e s m below meth c A ls hx hb hr hlk hml hown hts hP hK hD hA hG hS hl hEx
  have hl : lv_has ls 1 [(0, .ref (ad (k + 9)))] := hl
  refine lv_aload_n hx hb dX4_refuseUnlessParent_0 rfl (lv_at hl 0 rfl) ?_
  refine tc_gK_parent hx hb hts inB_X2 hown hK hP (by omega) (hts _ mb_55) dX4_refuseUnlessParent_1 ?_
  refine lv_if_ne (tgt := 18) hx hb dX4_refuseUnlessParent_4 (by decide) (fun c => absurd h c) (fun _ => ?_)
  exact tw_156 (w := true) (is := 262) hts hl9 hx hb hown (tm_Gs hG 262 "the key is no parent" (by decide)) (hts _ mb_374) (hts _ mb_13) hG hS (by rw [hml]; exact hl.1) dX4_refuseUnlessParent_7 dX4_refuseUnlessParent_10 dX4_refuseUnlessParent_11 dX4_refuseUnlessParent_14 dX4_refuseUnlessParent_17 hEx (Nat.le_of_ble_eq_true rfl) (Nat.le_of_ble_eq_true rfl) (Nat.le_of_ble_eq_true rfl) (Nat.le_of_ble_eq_true rfl) hlk hP hD (Nat.le_of_ble_eq_true rfl) (Nat.le_of_ble_eq_true rfl)
set_option maxHeartbeats 4000000 in
set_option maxRecDepth 100000 in
theorem c_refuseTampered_ok (u : tm_S) {k : Nat} (hk : k < 8) (pv : Int64) (h : u.1 5 (4 * k + 3) = tm_h (tm_h pv 3) (tm_h (tm_h (u.1 5 (4 * k + 0)) (u.1 5 (4 * k + 1))) (u.1 5 (4 * k + 2)))) : kc_M l dC dI gs ad cc yX4_refuseTampered wsX4_refuseTampered { frames := 6, cells := 0, slots := 0, locals := 82 } [.ref (ad (k + 13)), .long pv] u u none := by
  refine kq_ofW (cc := cX4_refuseTampered) (maxL := 3) (ret := none) (R0 := RX4) (by decide) rfl rfl (Nat.le_of_ble_eq_true rfl) ?_
  intro p e s m below meth c A ls hx hb hr hlk hml hown hts hP hK hD hA hG hS hl
  have hl : lv_has ls 3 [(0, .ref (ad (k + 13))), (1, .long pv)] := hl
  refine lv_aload_n hx hb dX4_refuseTampered_0 rfl (lv_at hl 0 rfl) ?_
  refine tc_gB_longs hx hb hts inB_X0 hown hK hP (by omega) (hts _ mb_78) dX4_refuseTampered_1 ?_
  refine lv_iconst (v := (nI 3)) hx hb dX4_refuseTampered_4 (by decide) ?_
  refine tc_l_blob hx hb hK hP (by omega) (by omega) dX4_refuseTampered_5 ?_
  refine lv_aload_n hx hb dX4_refuseTampered_6 rfl (lv_at hl 0 rfl) ?_
  refine lv_lload_n hx hb dX4_refuseTampered_7 rfl (lv_at hl 1 rfl) ?_
  refine kq_cV (st1 := [.long (tm_h (tm_h pv 3) (tm_h (tm_h (u.1 5 (4 * k + 0)) (u.1 5 (4 * k + 1))) (u.1 5 (4 * k + 2)))), .long (u.1 5 (4 * k + 3))]) ⟨hx, hb, hml, hown, hts⟩ (c_sealUnder u (k := k) (by omega) pv) (cwV 1 hts gX4_264_X0_sealUnder rfl rfl rfl (by decide +kernel) ⟨Nat.le_of_ble_eq_true rfl, Nat.le_of_ble_eq_true rfl⟩) tm_Gok hK hP hD hA hG hS (va_recv hK hP (ci := 0) (q0 := k + 13) rfl (tm_at (i := k + 13) (by omega) (tc_B (by omega)))) rfl hl.1 rfl rfl (Nat.le_of_ble_eq_true rfl) dX4_refuseTampered_8 ⟨Nat.le_of_ble_eq_true rfl, Nat.le_of_ble_eq_true rfl⟩ (fun H locs hP hD hS => ?_)
  refine W.lcmp hx hb dX4_refuseTampered_11 ?_
  refine lv_if_eq (tgt := 26) hx hb dX4_refuseTampered_12 (by decide) (fun _ => ?_) (fun c => absurd (tm_cmp0.mpr h) c)
  exact kq_vret hx hb hr hlk hP hD hS dX4_refuseTampered_26
set_option maxHeartbeats 4000000 in
set_option maxRecDepth 100000 in
theorem c_refuseTampered_no (hl9 : l.stackTraces = false) (u : tm_S) {k : Nat} (hk : k < 8) (pv : Int64) (h : ¬ u.1 5 (4 * k + 3) = tm_h (tm_h pv 3) (tm_h (tm_h (u.1 5 (4 * k + 0)) (u.1 5 (4 * k + 1))) (u.1 5 (4 * k + 2)))) : kc_T l dC dI gs ad cc yX4_refuseTampered wsX4_refuseTampered { frames := 6, cells := 1, slots := 6, locals := 82 } [.ref (ad (k + 13)), .long pv] u u "java/lang/ArithmeticException" := by
  refine kq_ofT (cc := cX4_refuseTampered) (maxL := 3) (ret := none) (R0 := RX4) (by decide) rfl rfl (Nat.le_of_ble_eq_true rfl) ?_
  intro p e s m below meth c A ls hx hb hr hlk hml hown hts hP hK hD hA hG hS hl hEx
  have hl : lv_has ls 3 [(0, .ref (ad (k + 13))), (1, .long pv)] := hl
  refine lv_aload_n hx hb dX4_refuseTampered_0 rfl (lv_at hl 0 rfl) ?_
  refine tc_gB_longs hx hb hts inB_X0 hown hK hP (by omega) (hts _ mb_78) dX4_refuseTampered_1 ?_
  refine lv_iconst (v := (nI 3)) hx hb dX4_refuseTampered_4 (by decide) ?_
  refine tc_l_blob hx hb hK hP (by omega) (by omega) dX4_refuseTampered_5 ?_
  refine lv_aload_n hx hb dX4_refuseTampered_6 rfl (lv_at hl 0 rfl) ?_
  refine lv_lload_n hx hb dX4_refuseTampered_7 rfl (lv_at hl 1 rfl) ?_
  refine kq_cV (st1 := [.long (tm_h (tm_h pv 3) (tm_h (tm_h (u.1 5 (4 * k + 0)) (u.1 5 (4 * k + 1))) (u.1 5 (4 * k + 2)))), .long (u.1 5 (4 * k + 3))]) ⟨hx, hb, hml, hown, hts⟩ (c_sealUnder u (k := k) (by omega) pv) (cwV 1 hts gX4_264_X0_sealUnder rfl rfl rfl (by decide +kernel) ⟨Nat.le_of_ble_eq_true rfl, Nat.le_of_ble_eq_true rfl⟩) tm_Gok hK hP hD hA hG hS (va_recv hK hP (ci := 0) (q0 := k + 13) rfl (tm_at (i := k + 13) (by omega) (tc_B (by omega)))) rfl hl.1 rfl rfl (Nat.le_of_ble_eq_true rfl) dX4_refuseTampered_8 ⟨Nat.le_of_ble_eq_true rfl, Nat.le_of_ble_eq_true rfl⟩ (fun H locs hP hD hS => ?_)
  refine W.lcmp hx hb dX4_refuseTampered_11 ?_
  refine lv_if_eq (tgt := 26) hx hb dX4_refuseTampered_12 (by decide) (fun c => absurd c (fun q => h (tm_cmp0.mp q))) (fun _ => ?_)
  exact tw_271 (w := true) (is := 269) hts hl9 hx hb hown (tm_Gs hG 269 "the blob was tampered with" (by decide)) (hts _ mb_418) (hts _ mb_14) hG hS (by rw [hml]; exact hl.1) dX4_refuseTampered_15 dX4_refuseTampered_18 dX4_refuseTampered_19 dX4_refuseTampered_22 dX4_refuseTampered_25 hEx (Nat.le_of_ble_eq_true rfl) (Nat.le_of_ble_eq_true rfl) (Nat.le_of_ble_eq_true rfl) (Nat.le_of_ble_eq_true rfl) hlk hP hD (Nat.le_of_ble_eq_true rfl) (Nat.le_of_ble_eq_true rfl)
set_option maxHeartbeats 4000000 in
set_option maxRecDepth 100000 in
theorem c_heldKey_ok (u : tm_S) {k : Nat} (hk : k < 4) (h : ¬ u.2.1 0 k = 0) : kc_M l dC dI gs ad cc yX4_heldKey wsX4_heldKey { frames := 6, cells := 0, slots := 0, locals := 82 } [.ref (ad 0), .int (nI k)] u u (some (.ref (ad (k + 9)))) := by
  refine kq_ofW (cc := cX4_heldKey) (maxL := 2) (ret := (some (.object "TrustModule$Key"))) (R0 := RX4) (by decide) rfl rfl (Nat.le_of_ble_eq_true rfl) ?_
  intro p e s m below meth c A ls hx hb hr hlk hml hown hts hP hK hD hA hG hS hl
  have hl : lv_has ls 2 [(0, .ref (ad 0)), (1, .int (nI k))] := hl
  refine lv_aload_n hx hb dX4_heldKey_0 rfl (lv_at hl 0 rfl) ?_
  refine tc_gT_keys hx hb hts inB_X4 hown hK hP (hts _ mb_147) dX4_heldKey_1 ?_
  refine lv_iload_n hx hb dX4_heldKey_4 rfl (lv_at hl 1 rfl) ?_
  refine tc_a_keys hx hb hK hP (by omega) dX4_heldKey_5 ?_
  refine tc_gK_held hx hb hts inB_X2 hown hK hP (by omega) (hts _ mb_45) dX4_heldKey_6 ?_
  refine lv_if_ne (tgt := 23) hx hb dX4_heldKey_9 (by decide) (fun _ => ?_) (fun c => absurd c h)
  refine lv_aload_n hx hb dX4_heldKey_23 rfl (lv_at hl 0 rfl) ?_
  refine tc_gT_keys hx hb hts inB_X4 hown hK hP (hts _ mb_147) dX4_heldKey_24 ?_
  refine lv_iload_n hx hb dX4_heldKey_27 rfl (lv_at hl 1 rfl) ?_
  refine tc_a_keys hx hb hK hP (by omega) dX4_heldKey_28 ?_
  exact kq_aret hx hb hr hlk hP hD hS dX4_heldKey_29
set_option maxHeartbeats 4000000 in
set_option maxRecDepth 100000 in
theorem c_heldKey_no (hl9 : l.stackTraces = false) (u : tm_S) {k : Nat} (hk : k < 4) (h : u.2.1 0 k = 0) : kc_T l dC dI gs ad cc yX4_heldKey wsX4_heldKey { frames := 6, cells := 1, slots := 6, locals := 82 } [.ref (ad 0), .int (nI k)] u u "java/util/NoSuchElementException" := by
  refine kq_ofT (cc := cX4_heldKey) (maxL := 2) (ret := (some (.object "TrustModule$Key"))) (R0 := RX4) (by decide) rfl rfl (Nat.le_of_ble_eq_true rfl) ?_
  intro p e s m below meth c A ls hx hb hr hlk hml hown hts hP hK hD hA hG hS hl hEx
  have hl : lv_has ls 2 [(0, .ref (ad 0)), (1, .int (nI k))] := hl
  refine lv_aload_n hx hb dX4_heldKey_0 rfl (lv_at hl 0 rfl) ?_
  refine tc_gT_keys hx hb hts inB_X4 hown hK hP (hts _ mb_147) dX4_heldKey_1 ?_
  refine lv_iload_n hx hb dX4_heldKey_4 rfl (lv_at hl 1 rfl) ?_
  refine tc_a_keys hx hb hK hP (by omega) dX4_heldKey_5 ?_
  refine tc_gK_held hx hb hts inB_X2 hown hK hP (by omega) (hts _ mb_45) dX4_heldKey_6 ?_
  refine lv_if_ne (tgt := 23) hx hb dX4_heldKey_9 (by decide) (fun c => absurd h c) (fun _ => ?_)
  exact tw_201 (w := true) (is := 272) hts hl9 hx hb hown (tm_Gs hG 272 "the handle is free" (by decide)) (hts _ mb_355) (hts _ mb_12) hG hS (by rw [hml]; exact hl.1) dX4_heldKey_12 dX4_heldKey_15 dX4_heldKey_16 dX4_heldKey_19 dX4_heldKey_22 hEx (Nat.le_of_ble_eq_true rfl) (Nat.le_of_ble_eq_true rfl) (Nat.le_of_ble_eq_true rfl) (Nat.le_of_ble_eq_true rfl) hlk hP hD (Nat.le_of_ble_eq_true rfl) (Nat.le_of_ble_eq_true rfl)
set_option maxHeartbeats 4000000 in
set_option maxRecDepth 100000 in
theorem c_madeBlob_ok (u : tm_S) {k : Nat} (hk : k < 8) (h : ¬ u.2.1 3 k = 0) : kc_M l dC dI gs ad cc yX4_madeBlob wsX4_madeBlob { frames := 6, cells := 0, slots := 0, locals := 82 } [.ref (ad 0), .int (nI k)] u u (some (.ref (ad (k + 13)))) := by
  refine kq_ofW (cc := cX4_madeBlob) (maxL := 2) (ret := (some (.object "TrustModule$Blob"))) (R0 := RX4) (by decide) rfl rfl (Nat.le_of_ble_eq_true rfl) ?_
  intro p e s m below meth c A ls hx hb hr hlk hml hown hts hP hK hD hA hG hS hl
  have hl : lv_has ls 2 [(0, .ref (ad 0)), (1, .int (nI k))] := hl
  refine lv_aload_n hx hb dX4_madeBlob_0 rfl (lv_at hl 0 rfl) ?_
  refine tc_gT_blobs hx hb hts inB_X4 hown hK hP (hts _ mb_148) dX4_madeBlob_1 ?_
  refine lv_iload_n hx hb dX4_madeBlob_4 rfl (lv_at hl 1 rfl) ?_
  refine tc_a_blobs hx hb hK hP (by omega) dX4_madeBlob_5 ?_
  refine tc_gB_made hx hb hts inB_X0 hown hK hP (by omega) (hts _ mb_76) dX4_madeBlob_6 ?_
  refine lv_if_ne (tgt := 23) hx hb dX4_madeBlob_9 (by decide) (fun _ => ?_) (fun c => absurd c h)
  refine lv_aload_n hx hb dX4_madeBlob_23 rfl (lv_at hl 0 rfl) ?_
  refine tc_gT_blobs hx hb hts inB_X4 hown hK hP (hts _ mb_148) dX4_madeBlob_24 ?_
  refine lv_iload_n hx hb dX4_madeBlob_27 rfl (lv_at hl 1 rfl) ?_
  refine tc_a_blobs hx hb hK hP (by omega) dX4_madeBlob_28 ?_
  exact kq_aret hx hb hr hlk hP hD hS dX4_madeBlob_29
set_option maxHeartbeats 4000000 in
set_option maxRecDepth 100000 in
theorem c_madeBlob_no (hl9 : l.stackTraces = false) (u : tm_S) {k : Nat} (hk : k < 8) (h : u.2.1 3 k = 0) : kc_T l dC dI gs ad cc yX4_madeBlob wsX4_madeBlob { frames := 6, cells := 1, slots := 6, locals := 82 } [.ref (ad 0), .int (nI k)] u u "java/util/NoSuchElementException" := by
  refine kq_ofT (cc := cX4_madeBlob) (maxL := 2) (ret := (some (.object "TrustModule$Blob"))) (R0 := RX4) (by decide) rfl rfl (Nat.le_of_ble_eq_true rfl) ?_
  intro p e s m below meth c A ls hx hb hr hlk hml hown hts hP hK hD hA hG hS hl hEx
  have hl : lv_has ls 2 [(0, .ref (ad 0)), (1, .int (nI k))] := hl
  refine lv_aload_n hx hb dX4_madeBlob_0 rfl (lv_at hl 0 rfl) ?_
  refine tc_gT_blobs hx hb hts inB_X4 hown hK hP (hts _ mb_148) dX4_madeBlob_1 ?_
  refine lv_iload_n hx hb dX4_madeBlob_4 rfl (lv_at hl 1 rfl) ?_
  refine tc_a_blobs hx hb hK hP (by omega) dX4_madeBlob_5 ?_
  refine tc_gB_made hx hb hts inB_X0 hown hK hP (by omega) (hts _ mb_76) dX4_madeBlob_6 ?_
  refine lv_if_ne (tgt := 23) hx hb dX4_madeBlob_9 (by decide) (fun c => absurd h c) (fun _ => ?_)
  exact tw_201 (w := true) (is := 277) hts hl9 hx hb hown (tm_Gs hG 277 "there is no such blob" (by decide)) (hts _ mb_355) (hts _ mb_12) hG hS (by rw [hml]; exact hl.1) dX4_madeBlob_12 dX4_madeBlob_15 dX4_madeBlob_16 dX4_madeBlob_19 dX4_madeBlob_22 hEx (Nat.le_of_ble_eq_true rfl) (Nat.le_of_ble_eq_true rfl) (Nat.le_of_ble_eq_true rfl) (Nat.le_of_ble_eq_true rfl) hlk hP hD (Nat.le_of_ble_eq_true rfl) (Nat.le_of_ble_eq_true rfl)
set_option maxHeartbeats 4000000 in
set_option maxRecDepth 100000 in
theorem c_definedIndex_ok (u : tm_S) {k : Nat} (hk : k < 4) (h : ¬ u.2.1 6 k = 0) : kc_M l dC dI gs ad cc yX4_definedIndex wsX4_definedIndex { frames := 6, cells := 0, slots := 0, locals := 82 } [.ref (ad 0), .int (nI k)] u u (some (.ref (ad (k + 32)))) := by
  refine kq_ofW (cc := cX4_definedIndex) (maxL := 2) (ret := (some (.object "TrustModule$Index"))) (R0 := RX4) (by decide) rfl rfl (Nat.le_of_ble_eq_true rfl) ?_
  intro p e s m below meth c A ls hx hb hr hlk hml hown hts hP hK hD hA hG hS hl
  have hl : lv_has ls 2 [(0, .ref (ad 0)), (1, .int (nI k))] := hl
  refine lv_aload_n hx hb dX4_definedIndex_0 rfl (lv_at hl 0 rfl) ?_
  refine tc_gT_indices hx hb hts inB_X4 hown hK hP (hts _ mb_150) dX4_definedIndex_1 ?_
  refine lv_iload_n hx hb dX4_definedIndex_4 rfl (lv_at hl 1 rfl) ?_
  refine tc_a_indices hx hb hK hP (by omega) dX4_definedIndex_5 ?_
  refine tc_gX_defined hx hb hts inB_X1 hown hK hP (by omega) (hts _ mb_108) dX4_definedIndex_6 ?_
  refine lv_if_ne (tgt := 23) hx hb dX4_definedIndex_9 (by decide) (fun _ => ?_) (fun c => absurd c h)
  refine lv_aload_n hx hb dX4_definedIndex_23 rfl (lv_at hl 0 rfl) ?_
  refine tc_gT_indices hx hb hts inB_X4 hown hK hP (hts _ mb_150) dX4_definedIndex_24 ?_
  refine lv_iload_n hx hb dX4_definedIndex_27 rfl (lv_at hl 1 rfl) ?_
  refine tc_a_indices hx hb hK hP (by omega) dX4_definedIndex_28 ?_
  exact kq_aret hx hb hr hlk hP hD hS dX4_definedIndex_29
set_option maxHeartbeats 4000000 in
set_option maxRecDepth 100000 in
theorem c_definedIndex_no (hl9 : l.stackTraces = false) (u : tm_S) {k : Nat} (hk : k < 4) (h : u.2.1 6 k = 0) : kc_T l dC dI gs ad cc yX4_definedIndex wsX4_definedIndex { frames := 6, cells := 1, slots := 6, locals := 82 } [.ref (ad 0), .int (nI k)] u u "java/util/NoSuchElementException" := by
  refine kq_ofT (cc := cX4_definedIndex) (maxL := 2) (ret := (some (.object "TrustModule$Index"))) (R0 := RX4) (by decide) rfl rfl (Nat.le_of_ble_eq_true rfl) ?_
  intro p e s m below meth c A ls hx hb hr hlk hml hown hts hP hK hD hA hG hS hl hEx
  have hl : lv_has ls 2 [(0, .ref (ad 0)), (1, .int (nI k))] := hl
  refine lv_aload_n hx hb dX4_definedIndex_0 rfl (lv_at hl 0 rfl) ?_
  refine tc_gT_indices hx hb hts inB_X4 hown hK hP (hts _ mb_150) dX4_definedIndex_1 ?_
  refine lv_iload_n hx hb dX4_definedIndex_4 rfl (lv_at hl 1 rfl) ?_
  refine tc_a_indices hx hb hK hP (by omega) dX4_definedIndex_5 ?_
  refine tc_gX_defined hx hb hts inB_X1 hown hK hP (by omega) (hts _ mb_108) dX4_definedIndex_6 ?_
  refine lv_if_ne (tgt := 23) hx hb dX4_definedIndex_9 (by decide) (fun c => absurd h c) (fun _ => ?_)
  exact tw_201 (w := true) (is := 279) hts hl9 hx hb hown (tm_Gs hG 279 "the index is not defined" (by decide)) (hts _ mb_355) (hts _ mb_12) hG hS (by rw [hml]; exact hl.1) dX4_definedIndex_12 dX4_definedIndex_15 dX4_definedIndex_16 dX4_definedIndex_19 dX4_definedIndex_22 hEx (Nat.le_of_ble_eq_true rfl) (Nat.le_of_ble_eq_true rfl) (Nat.le_of_ble_eq_true rfl) (Nat.le_of_ble_eq_true rfl) hlk hP hD (Nat.le_of_ble_eq_true rfl) (Nat.le_of_ble_eq_true rfl)
set_option maxHeartbeats 4000000 in
set_option maxRecDepth 100000 in
theorem c_leastFree_0 (u : tm_S)  (h0 : u.2.1 0 0 = 0) : kc_M l dC dI gs ad cc yX4_leastFreeHandle wsX4_leastFreeHandle { frames := 6, cells := 0, slots := 0, locals := 82 } [.ref (ad 0)] u u (some (.int (nI 0))) := by
  refine kq_ofW (cc := cX4_leastFreeHandle) (maxL := 2) (ret := (some .int)) (R0 := RX4) (by decide) rfl rfl (Nat.le_of_ble_eq_true rfl) ?_
  intro p e s m below meth c A ls hx hb hr hlk hml hown hts hP hK hD hA hG hS hl
  have hl : lv_has ls 2 [(0, .ref (ad 0))] := hl
  refine lv_iconst (v := (nI 0)) hx hb dX4_leastFreeHandle_0 (by decide) ?_
  refine lv_istore_n (lv' := [(1, .int (nI 0)), (0, .ref (ad 0))]) hx hb dX4_leastFreeHandle_1 rfl hl (by decide) rfl (fun ls hl => ?_)
  refine lv_iload_n hx hb dX4_leastFreeHandle_2 rfl (lv_at hl 0 rfl) ?_
  refine lv_iconst (v := (nI 4)) hx hb dX4_leastFreeHandle_3 (by decide) ?_
  refine lv_icmp_ge (tgt := 27) hx hb dX4_leastFreeHandle_4 (by decide) (fun c => absurd c (by decide)) (fun _ => ?_)
  refine lv_aload_n hx hb dX4_leastFreeHandle_7 rfl (lv_at hl 1 rfl) ?_
  refine tc_gT_keys hx hb hts inB_X4 hown hK hP (hts _ mb_147) dX4_leastFreeHandle_8 ?_
  refine lv_iload_n hx hb dX4_leastFreeHandle_11 rfl (lv_at hl 0 rfl) ?_
  refine tc_a_keys hx hb hK hP (by omega) dX4_leastFreeHandle_12 ?_
  refine tc_gK_held hx hb hts inB_X2 hown hK hP (by omega) (hts _ mb_45) dX4_leastFreeHandle_13 ?_
  refine lv_if_ne (tgt := 21) hx hb dX4_leastFreeHandle_16 (by decide) (fun c => absurd h0 c) (fun _ => ?_)
  refine lv_iload_n hx hb dX4_leastFreeHandle_19 rfl (lv_at hl 0 rfl) ?_
  exact kq_iret hx hb hr hlk hP hD hS dX4_leastFreeHandle_20
set_option maxHeartbeats 4000000 in
set_option maxRecDepth 100000 in
theorem c_leastFree_1 (u : tm_S) (h0 : ¬ u.2.1 0 0 = 0) (h1 : u.2.1 0 1 = 0) : kc_M l dC dI gs ad cc yX4_leastFreeHandle wsX4_leastFreeHandle { frames := 6, cells := 0, slots := 0, locals := 82 } [.ref (ad 0)] u u (some (.int (nI 1))) := by
  refine kq_ofW (cc := cX4_leastFreeHandle) (maxL := 2) (ret := (some .int)) (R0 := RX4) (by decide) rfl rfl (Nat.le_of_ble_eq_true rfl) ?_
  intro p e s m below meth c A ls hx hb hr hlk hml hown hts hP hK hD hA hG hS hl
  have hl : lv_has ls 2 [(0, .ref (ad 0))] := hl
  refine lv_iconst (v := (nI 0)) hx hb dX4_leastFreeHandle_0 (by decide) ?_
  refine lv_istore_n (lv' := [(1, .int (nI 0)), (0, .ref (ad 0))]) hx hb dX4_leastFreeHandle_1 rfl hl (by decide) rfl (fun ls hl => ?_)
  refine lv_iload_n hx hb dX4_leastFreeHandle_2 rfl (lv_at hl 0 rfl) ?_
  refine lv_iconst (v := (nI 4)) hx hb dX4_leastFreeHandle_3 (by decide) ?_
  refine lv_icmp_ge (tgt := 27) hx hb dX4_leastFreeHandle_4 (by decide) (fun c => absurd c (by decide)) (fun _ => ?_)
  refine lv_aload_n hx hb dX4_leastFreeHandle_7 rfl (lv_at hl 1 rfl) ?_
  refine tc_gT_keys hx hb hts inB_X4 hown hK hP (hts _ mb_147) dX4_leastFreeHandle_8 ?_
  refine lv_iload_n hx hb dX4_leastFreeHandle_11 rfl (lv_at hl 0 rfl) ?_
  refine tc_a_keys hx hb hK hP (by omega) dX4_leastFreeHandle_12 ?_
  refine tc_gK_held hx hb hts inB_X2 hown hK hP (by omega) (hts _ mb_45) dX4_leastFreeHandle_13 ?_
  refine lv_if_ne (tgt := 21) hx hb dX4_leastFreeHandle_16 (by decide) (fun _ => ?_) (fun c => absurd c h0)
  refine lv_iinc (v := (nI 1)) (lv' := [(1, .int (nI 1)), (0, .ref (ad 0))]) hx hb dX4_leastFreeHandle_21 hl (k := 0) rfl (by decide) (by decide) rfl (fun ls hl => ?_)
  refine lv_goto (tgt := 2) hx hb dX4_leastFreeHandle_24 (by decide) ?_
  refine lv_iload_n hx hb dX4_leastFreeHandle_2 rfl (lv_at hl 0 rfl) ?_
  refine lv_iconst (v := (nI 4)) hx hb dX4_leastFreeHandle_3 (by decide) ?_
  refine lv_icmp_ge (tgt := 27) hx hb dX4_leastFreeHandle_4 (by decide) (fun c => absurd c (by decide)) (fun _ => ?_)
  refine lv_aload_n hx hb dX4_leastFreeHandle_7 rfl (lv_at hl 1 rfl) ?_
  refine tc_gT_keys hx hb hts inB_X4 hown hK hP (hts _ mb_147) dX4_leastFreeHandle_8 ?_
  refine lv_iload_n hx hb dX4_leastFreeHandle_11 rfl (lv_at hl 0 rfl) ?_
  refine tc_a_keys hx hb hK hP (by omega) dX4_leastFreeHandle_12 ?_
  refine tc_gK_held hx hb hts inB_X2 hown hK hP (by omega) (hts _ mb_45) dX4_leastFreeHandle_13 ?_
  refine lv_if_ne (tgt := 21) hx hb dX4_leastFreeHandle_16 (by decide) (fun c => absurd h1 c) (fun _ => ?_)
  refine lv_iload_n hx hb dX4_leastFreeHandle_19 rfl (lv_at hl 0 rfl) ?_
  exact kq_iret hx hb hr hlk hP hD hS dX4_leastFreeHandle_20
set_option maxHeartbeats 4000000 in
set_option maxRecDepth 100000 in
theorem c_leastFree_2 (u : tm_S) (h0 : ¬ u.2.1 0 0 = 0) (h1 : ¬ u.2.1 0 1 = 0) (h2 : u.2.1 0 2 = 0) : kc_M l dC dI gs ad cc yX4_leastFreeHandle wsX4_leastFreeHandle { frames := 6, cells := 0, slots := 0, locals := 82 } [.ref (ad 0)] u u (some (.int (nI 2))) := by
  refine kq_ofW (cc := cX4_leastFreeHandle) (maxL := 2) (ret := (some .int)) (R0 := RX4) (by decide) rfl rfl (Nat.le_of_ble_eq_true rfl) ?_
  intro p e s m below meth c A ls hx hb hr hlk hml hown hts hP hK hD hA hG hS hl
  have hl : lv_has ls 2 [(0, .ref (ad 0))] := hl
  refine lv_iconst (v := (nI 0)) hx hb dX4_leastFreeHandle_0 (by decide) ?_
  refine lv_istore_n (lv' := [(1, .int (nI 0)), (0, .ref (ad 0))]) hx hb dX4_leastFreeHandle_1 rfl hl (by decide) rfl (fun ls hl => ?_)
  refine lv_iload_n hx hb dX4_leastFreeHandle_2 rfl (lv_at hl 0 rfl) ?_
  refine lv_iconst (v := (nI 4)) hx hb dX4_leastFreeHandle_3 (by decide) ?_
  refine lv_icmp_ge (tgt := 27) hx hb dX4_leastFreeHandle_4 (by decide) (fun c => absurd c (by decide)) (fun _ => ?_)
  refine lv_aload_n hx hb dX4_leastFreeHandle_7 rfl (lv_at hl 1 rfl) ?_
  refine tc_gT_keys hx hb hts inB_X4 hown hK hP (hts _ mb_147) dX4_leastFreeHandle_8 ?_
  refine lv_iload_n hx hb dX4_leastFreeHandle_11 rfl (lv_at hl 0 rfl) ?_
  refine tc_a_keys hx hb hK hP (by omega) dX4_leastFreeHandle_12 ?_
  refine tc_gK_held hx hb hts inB_X2 hown hK hP (by omega) (hts _ mb_45) dX4_leastFreeHandle_13 ?_
  refine lv_if_ne (tgt := 21) hx hb dX4_leastFreeHandle_16 (by decide) (fun _ => ?_) (fun c => absurd c h0)
  refine lv_iinc (v := (nI 1)) (lv' := [(1, .int (nI 1)), (0, .ref (ad 0))]) hx hb dX4_leastFreeHandle_21 hl (k := 0) rfl (by decide) (by decide) rfl (fun ls hl => ?_)
  refine lv_goto (tgt := 2) hx hb dX4_leastFreeHandle_24 (by decide) ?_
  refine lv_iload_n hx hb dX4_leastFreeHandle_2 rfl (lv_at hl 0 rfl) ?_
  refine lv_iconst (v := (nI 4)) hx hb dX4_leastFreeHandle_3 (by decide) ?_
  refine lv_icmp_ge (tgt := 27) hx hb dX4_leastFreeHandle_4 (by decide) (fun c => absurd c (by decide)) (fun _ => ?_)
  refine lv_aload_n hx hb dX4_leastFreeHandle_7 rfl (lv_at hl 1 rfl) ?_
  refine tc_gT_keys hx hb hts inB_X4 hown hK hP (hts _ mb_147) dX4_leastFreeHandle_8 ?_
  refine lv_iload_n hx hb dX4_leastFreeHandle_11 rfl (lv_at hl 0 rfl) ?_
  refine tc_a_keys hx hb hK hP (by omega) dX4_leastFreeHandle_12 ?_
  refine tc_gK_held hx hb hts inB_X2 hown hK hP (by omega) (hts _ mb_45) dX4_leastFreeHandle_13 ?_
  refine lv_if_ne (tgt := 21) hx hb dX4_leastFreeHandle_16 (by decide) (fun _ => ?_) (fun c => absurd c h1)
  refine lv_iinc (v := (nI 2)) (lv' := [(1, .int (nI 2)), (0, .ref (ad 0))]) hx hb dX4_leastFreeHandle_21 hl (k := 0) rfl (by decide) (by decide) rfl (fun ls hl => ?_)
  refine lv_goto (tgt := 2) hx hb dX4_leastFreeHandle_24 (by decide) ?_
  refine lv_iload_n hx hb dX4_leastFreeHandle_2 rfl (lv_at hl 0 rfl) ?_
  refine lv_iconst (v := (nI 4)) hx hb dX4_leastFreeHandle_3 (by decide) ?_
  refine lv_icmp_ge (tgt := 27) hx hb dX4_leastFreeHandle_4 (by decide) (fun c => absurd c (by decide)) (fun _ => ?_)
  refine lv_aload_n hx hb dX4_leastFreeHandle_7 rfl (lv_at hl 1 rfl) ?_
  refine tc_gT_keys hx hb hts inB_X4 hown hK hP (hts _ mb_147) dX4_leastFreeHandle_8 ?_
  refine lv_iload_n hx hb dX4_leastFreeHandle_11 rfl (lv_at hl 0 rfl) ?_
  refine tc_a_keys hx hb hK hP (by omega) dX4_leastFreeHandle_12 ?_
  refine tc_gK_held hx hb hts inB_X2 hown hK hP (by omega) (hts _ mb_45) dX4_leastFreeHandle_13 ?_
  refine lv_if_ne (tgt := 21) hx hb dX4_leastFreeHandle_16 (by decide) (fun c => absurd h2 c) (fun _ => ?_)
  refine lv_iload_n hx hb dX4_leastFreeHandle_19 rfl (lv_at hl 0 rfl) ?_
  exact kq_iret hx hb hr hlk hP hD hS dX4_leastFreeHandle_20
set_option maxHeartbeats 4000000 in
set_option maxRecDepth 100000 in
theorem c_leastFree_3 (u : tm_S) (h0 : ¬ u.2.1 0 0 = 0) (h1 : ¬ u.2.1 0 1 = 0) (h2 : ¬ u.2.1 0 2 = 0) (h3 : u.2.1 0 3 = 0) : kc_M l dC dI gs ad cc yX4_leastFreeHandle wsX4_leastFreeHandle { frames := 6, cells := 0, slots := 0, locals := 82 } [.ref (ad 0)] u u (some (.int (nI 3))) := by
  refine kq_ofW (cc := cX4_leastFreeHandle) (maxL := 2) (ret := (some .int)) (R0 := RX4) (by decide) rfl rfl (Nat.le_of_ble_eq_true rfl) ?_
  intro p e s m below meth c A ls hx hb hr hlk hml hown hts hP hK hD hA hG hS hl
  have hl : lv_has ls 2 [(0, .ref (ad 0))] := hl
  refine lv_iconst (v := (nI 0)) hx hb dX4_leastFreeHandle_0 (by decide) ?_
  refine lv_istore_n (lv' := [(1, .int (nI 0)), (0, .ref (ad 0))]) hx hb dX4_leastFreeHandle_1 rfl hl (by decide) rfl (fun ls hl => ?_)
  refine lv_iload_n hx hb dX4_leastFreeHandle_2 rfl (lv_at hl 0 rfl) ?_
  refine lv_iconst (v := (nI 4)) hx hb dX4_leastFreeHandle_3 (by decide) ?_
  refine lv_icmp_ge (tgt := 27) hx hb dX4_leastFreeHandle_4 (by decide) (fun c => absurd c (by decide)) (fun _ => ?_)
  refine lv_aload_n hx hb dX4_leastFreeHandle_7 rfl (lv_at hl 1 rfl) ?_
  refine tc_gT_keys hx hb hts inB_X4 hown hK hP (hts _ mb_147) dX4_leastFreeHandle_8 ?_
  refine lv_iload_n hx hb dX4_leastFreeHandle_11 rfl (lv_at hl 0 rfl) ?_
  refine tc_a_keys hx hb hK hP (by omega) dX4_leastFreeHandle_12 ?_
  refine tc_gK_held hx hb hts inB_X2 hown hK hP (by omega) (hts _ mb_45) dX4_leastFreeHandle_13 ?_
  refine lv_if_ne (tgt := 21) hx hb dX4_leastFreeHandle_16 (by decide) (fun _ => ?_) (fun c => absurd c h0)
  refine lv_iinc (v := (nI 1)) (lv' := [(1, .int (nI 1)), (0, .ref (ad 0))]) hx hb dX4_leastFreeHandle_21 hl (k := 0) rfl (by decide) (by decide) rfl (fun ls hl => ?_)
  refine lv_goto (tgt := 2) hx hb dX4_leastFreeHandle_24 (by decide) ?_
  refine lv_iload_n hx hb dX4_leastFreeHandle_2 rfl (lv_at hl 0 rfl) ?_
  refine lv_iconst (v := (nI 4)) hx hb dX4_leastFreeHandle_3 (by decide) ?_
  refine lv_icmp_ge (tgt := 27) hx hb dX4_leastFreeHandle_4 (by decide) (fun c => absurd c (by decide)) (fun _ => ?_)
  refine lv_aload_n hx hb dX4_leastFreeHandle_7 rfl (lv_at hl 1 rfl) ?_
  refine tc_gT_keys hx hb hts inB_X4 hown hK hP (hts _ mb_147) dX4_leastFreeHandle_8 ?_
  refine lv_iload_n hx hb dX4_leastFreeHandle_11 rfl (lv_at hl 0 rfl) ?_
  refine tc_a_keys hx hb hK hP (by omega) dX4_leastFreeHandle_12 ?_
  refine tc_gK_held hx hb hts inB_X2 hown hK hP (by omega) (hts _ mb_45) dX4_leastFreeHandle_13 ?_
  refine lv_if_ne (tgt := 21) hx hb dX4_leastFreeHandle_16 (by decide) (fun _ => ?_) (fun c => absurd c h1)
  refine lv_iinc (v := (nI 2)) (lv' := [(1, .int (nI 2)), (0, .ref (ad 0))]) hx hb dX4_leastFreeHandle_21 hl (k := 0) rfl (by decide) (by decide) rfl (fun ls hl => ?_)
  refine lv_goto (tgt := 2) hx hb dX4_leastFreeHandle_24 (by decide) ?_
  refine lv_iload_n hx hb dX4_leastFreeHandle_2 rfl (lv_at hl 0 rfl) ?_
  refine lv_iconst (v := (nI 4)) hx hb dX4_leastFreeHandle_3 (by decide) ?_
  refine lv_icmp_ge (tgt := 27) hx hb dX4_leastFreeHandle_4 (by decide) (fun c => absurd c (by decide)) (fun _ => ?_)
  refine lv_aload_n hx hb dX4_leastFreeHandle_7 rfl (lv_at hl 1 rfl) ?_
  refine tc_gT_keys hx hb hts inB_X4 hown hK hP (hts _ mb_147) dX4_leastFreeHandle_8 ?_
  refine lv_iload_n hx hb dX4_leastFreeHandle_11 rfl (lv_at hl 0 rfl) ?_
  refine tc_a_keys hx hb hK hP (by omega) dX4_leastFreeHandle_12 ?_
  refine tc_gK_held hx hb hts inB_X2 hown hK hP (by omega) (hts _ mb_45) dX4_leastFreeHandle_13 ?_
  refine lv_if_ne (tgt := 21) hx hb dX4_leastFreeHandle_16 (by decide) (fun _ => ?_) (fun c => absurd c h2)
  refine lv_iinc (v := (nI 3)) (lv' := [(1, .int (nI 3)), (0, .ref (ad 0))]) hx hb dX4_leastFreeHandle_21 hl (k := 0) rfl (by decide) (by decide) rfl (fun ls hl => ?_)
  refine lv_goto (tgt := 2) hx hb dX4_leastFreeHandle_24 (by decide) ?_
  refine lv_iload_n hx hb dX4_leastFreeHandle_2 rfl (lv_at hl 0 rfl) ?_
  refine lv_iconst (v := (nI 4)) hx hb dX4_leastFreeHandle_3 (by decide) ?_
  refine lv_icmp_ge (tgt := 27) hx hb dX4_leastFreeHandle_4 (by decide) (fun c => absurd c (by decide)) (fun _ => ?_)
  refine lv_aload_n hx hb dX4_leastFreeHandle_7 rfl (lv_at hl 1 rfl) ?_
  refine tc_gT_keys hx hb hts inB_X4 hown hK hP (hts _ mb_147) dX4_leastFreeHandle_8 ?_
  refine lv_iload_n hx hb dX4_leastFreeHandle_11 rfl (lv_at hl 0 rfl) ?_
  refine tc_a_keys hx hb hK hP (by omega) dX4_leastFreeHandle_12 ?_
  refine tc_gK_held hx hb hts inB_X2 hown hK hP (by omega) (hts _ mb_45) dX4_leastFreeHandle_13 ?_
  refine lv_if_ne (tgt := 21) hx hb dX4_leastFreeHandle_16 (by decide) (fun c => absurd h3 c) (fun _ => ?_)
  refine lv_iload_n hx hb dX4_leastFreeHandle_19 rfl (lv_at hl 0 rfl) ?_
  exact kq_iret hx hb hr hlk hP hD hS dX4_leastFreeHandle_20
set_option maxHeartbeats 4000000 in
set_option maxRecDepth 100000 in
theorem c_leastFree_4 (hl9 : l.stackTraces = false) (u : tm_S) (h0 : ¬ u.2.1 0 0 = 0) (h1 : ¬ u.2.1 0 1 = 0) (h2 : ¬ u.2.1 0 2 = 0) (h3 : ¬ u.2.1 0 3 = 0) : kc_T l dC dI gs ad cc yX4_leastFreeHandle wsX4_leastFreeHandle { frames := 6, cells := 1, slots := 6, locals := 82 } [.ref (ad 0)] u u "java/lang/IllegalStateException" := by
  refine kq_ofT (cc := cX4_leastFreeHandle) (maxL := 2) (ret := (some .int)) (R0 := RX4) (by decide) rfl rfl (Nat.le_of_ble_eq_true rfl) ?_
  intro p e s m below meth c A ls hx hb hr hlk hml hown hts hP hK hD hA hG hS hl hEx
  have hl : lv_has ls 2 [(0, .ref (ad 0))] := hl
  refine lv_iconst (v := (nI 0)) hx hb dX4_leastFreeHandle_0 (by decide) ?_
  refine lv_istore_n (lv' := [(1, .int (nI 0)), (0, .ref (ad 0))]) hx hb dX4_leastFreeHandle_1 rfl hl (by decide) rfl (fun ls hl => ?_)
  refine lv_iload_n hx hb dX4_leastFreeHandle_2 rfl (lv_at hl 0 rfl) ?_
  refine lv_iconst (v := (nI 4)) hx hb dX4_leastFreeHandle_3 (by decide) ?_
  refine lv_icmp_ge (tgt := 27) hx hb dX4_leastFreeHandle_4 (by decide) (fun c => absurd c (by decide)) (fun _ => ?_)
  refine lv_aload_n hx hb dX4_leastFreeHandle_7 rfl (lv_at hl 1 rfl) ?_
  refine tc_gT_keys hx hb hts inB_X4 hown hK hP (hts _ mb_147) dX4_leastFreeHandle_8 ?_
  refine lv_iload_n hx hb dX4_leastFreeHandle_11 rfl (lv_at hl 0 rfl) ?_
  refine tc_a_keys hx hb hK hP (by omega) dX4_leastFreeHandle_12 ?_
  refine tc_gK_held hx hb hts inB_X2 hown hK hP (by omega) (hts _ mb_45) dX4_leastFreeHandle_13 ?_
  refine lv_if_ne (tgt := 21) hx hb dX4_leastFreeHandle_16 (by decide) (fun _ => ?_) (fun c => absurd c h0)
  refine lv_iinc (v := (nI 1)) (lv' := [(1, .int (nI 1)), (0, .ref (ad 0))]) hx hb dX4_leastFreeHandle_21 hl (k := 0) rfl (by decide) (by decide) rfl (fun ls hl => ?_)
  refine lv_goto (tgt := 2) hx hb dX4_leastFreeHandle_24 (by decide) ?_
  refine lv_iload_n hx hb dX4_leastFreeHandle_2 rfl (lv_at hl 0 rfl) ?_
  refine lv_iconst (v := (nI 4)) hx hb dX4_leastFreeHandle_3 (by decide) ?_
  refine lv_icmp_ge (tgt := 27) hx hb dX4_leastFreeHandle_4 (by decide) (fun c => absurd c (by decide)) (fun _ => ?_)
  refine lv_aload_n hx hb dX4_leastFreeHandle_7 rfl (lv_at hl 1 rfl) ?_
  refine tc_gT_keys hx hb hts inB_X4 hown hK hP (hts _ mb_147) dX4_leastFreeHandle_8 ?_
  refine lv_iload_n hx hb dX4_leastFreeHandle_11 rfl (lv_at hl 0 rfl) ?_
  refine tc_a_keys hx hb hK hP (by omega) dX4_leastFreeHandle_12 ?_
  refine tc_gK_held hx hb hts inB_X2 hown hK hP (by omega) (hts _ mb_45) dX4_leastFreeHandle_13 ?_
  refine lv_if_ne (tgt := 21) hx hb dX4_leastFreeHandle_16 (by decide) (fun _ => ?_) (fun c => absurd c h1)
  refine lv_iinc (v := (nI 2)) (lv' := [(1, .int (nI 2)), (0, .ref (ad 0))]) hx hb dX4_leastFreeHandle_21 hl (k := 0) rfl (by decide) (by decide) rfl (fun ls hl => ?_)
  refine lv_goto (tgt := 2) hx hb dX4_leastFreeHandle_24 (by decide) ?_
  refine lv_iload_n hx hb dX4_leastFreeHandle_2 rfl (lv_at hl 0 rfl) ?_
  refine lv_iconst (v := (nI 4)) hx hb dX4_leastFreeHandle_3 (by decide) ?_
  refine lv_icmp_ge (tgt := 27) hx hb dX4_leastFreeHandle_4 (by decide) (fun c => absurd c (by decide)) (fun _ => ?_)
  refine lv_aload_n hx hb dX4_leastFreeHandle_7 rfl (lv_at hl 1 rfl) ?_
  refine tc_gT_keys hx hb hts inB_X4 hown hK hP (hts _ mb_147) dX4_leastFreeHandle_8 ?_
  refine lv_iload_n hx hb dX4_leastFreeHandle_11 rfl (lv_at hl 0 rfl) ?_
  refine tc_a_keys hx hb hK hP (by omega) dX4_leastFreeHandle_12 ?_
  refine tc_gK_held hx hb hts inB_X2 hown hK hP (by omega) (hts _ mb_45) dX4_leastFreeHandle_13 ?_
  refine lv_if_ne (tgt := 21) hx hb dX4_leastFreeHandle_16 (by decide) (fun _ => ?_) (fun c => absurd c h2)
  refine lv_iinc (v := (nI 3)) (lv' := [(1, .int (nI 3)), (0, .ref (ad 0))]) hx hb dX4_leastFreeHandle_21 hl (k := 0) rfl (by decide) (by decide) rfl (fun ls hl => ?_)
  refine lv_goto (tgt := 2) hx hb dX4_leastFreeHandle_24 (by decide) ?_
  refine lv_iload_n hx hb dX4_leastFreeHandle_2 rfl (lv_at hl 0 rfl) ?_
  refine lv_iconst (v := (nI 4)) hx hb dX4_leastFreeHandle_3 (by decide) ?_
  refine lv_icmp_ge (tgt := 27) hx hb dX4_leastFreeHandle_4 (by decide) (fun c => absurd c (by decide)) (fun _ => ?_)
  refine lv_aload_n hx hb dX4_leastFreeHandle_7 rfl (lv_at hl 1 rfl) ?_
  refine tc_gT_keys hx hb hts inB_X4 hown hK hP (hts _ mb_147) dX4_leastFreeHandle_8 ?_
  refine lv_iload_n hx hb dX4_leastFreeHandle_11 rfl (lv_at hl 0 rfl) ?_
  refine tc_a_keys hx hb hK hP (by omega) dX4_leastFreeHandle_12 ?_
  refine tc_gK_held hx hb hts inB_X2 hown hK hP (by omega) (hts _ mb_45) dX4_leastFreeHandle_13 ?_
  refine lv_if_ne (tgt := 21) hx hb dX4_leastFreeHandle_16 (by decide) (fun _ => ?_) (fun c => absurd c h3)
  refine lv_iinc (v := (nI 4)) (lv' := [(1, .int (nI 4)), (0, .ref (ad 0))]) hx hb dX4_leastFreeHandle_21 hl (k := 0) rfl (by decide) (by decide) rfl (fun ls hl => ?_)
  refine lv_goto (tgt := 2) hx hb dX4_leastFreeHandle_24 (by decide) ?_
  refine lv_iload_n hx hb dX4_leastFreeHandle_2 rfl (lv_at hl 0 rfl) ?_
  refine lv_iconst (v := (nI 4)) hx hb dX4_leastFreeHandle_3 (by decide) ?_
  refine lv_icmp_ge (tgt := 27) hx hb dX4_leastFreeHandle_4 (by decide) (fun _ => ?_) (fun c => absurd (by decide) c)
  exact tw_174 (w := true) (is := 281) hts hl9 hx hb hown (tm_Gs hG 281 "no handle is free" (by decide)) (hts _ mb_310) (hts _ mb_11) hG hS (by rw [hml]; exact hl.1) dX4_leastFreeHandle_27 dX4_leastFreeHandle_30 dX4_leastFreeHandle_31 dX4_leastFreeHandle_34 dX4_leastFreeHandle_37 hEx (Nat.le_of_ble_eq_true rfl) (Nat.le_of_ble_eq_true rfl) (Nat.le_of_ble_eq_true rfl) (Nat.le_of_ble_eq_true rfl) hlk hP hD (Nat.le_of_ble_eq_true rfl) (Nat.le_of_ble_eq_true rfl)
theorem c_leastFree_ok (u : tm_S) {j : Nat} (hj : j < 4) (h : u.2.1 0 j = 0) (ha : ∀ i, i < j → ¬ u.2.1 0 i = 0) : kc_M l dC dI gs ad cc yX4_leastFreeHandle wsX4_leastFreeHandle { frames := 6, cells := 0, slots := 0, locals := 82 } [.ref (ad 0)] u u (some (.int (nI j))) := by
  match j, hj, h, ha with
  | 0, _, h, ha => exact c_leastFree_0 u h
  | 1, _, h, ha => exact c_leastFree_1 u (ha 0 (by omega)) h
  | 2, _, h, ha => exact c_leastFree_2 u (ha 0 (by omega)) (ha 1 (by omega)) h
  | 3, _, h, ha => exact c_leastFree_3 u (ha 0 (by omega)) (ha 1 (by omega)) (ha 2 (by omega)) h
set_option maxHeartbeats 4000000 in
set_option maxRecDepth 100000 in
theorem c_freeHandles (u : tm_S) : kc_M l dC dI gs ad cc yX4_freeHandles wsX4_freeHandles { frames := 0, cells := 0, slots := 0, locals := 0 } [.ref (ad 0)] u (tm_I (tm_I (tm_I (tm_I u 0 0 (nI 0)) 0 1 (nI 0)) 0 2 (nI 0)) 0 3 (nI 0)) none := by
  refine kq_ofW (cc := cX4_freeHandles) (maxL := 2) (ret := none) (R0 := RX4) (by decide) rfl rfl (Nat.le_of_ble_eq_true rfl) ?_
  intro p e s m below meth c A ls hx hb hr hlk hml hown hts hP hK hD hA hG hS hl
  have hl : lv_has ls 2 [(0, .ref (ad 0))] := hl
  refine lv_iconst (v := (nI 0)) hx hb dX4_freeHandles_0 (by decide) ?_
  refine lv_istore_n (lv' := [(1, .int (nI 0)), (0, .ref (ad 0))]) hx hb dX4_freeHandles_1 rfl hl (by decide) rfl (fun ls hl => ?_)
  refine lv_iload_n hx hb dX4_freeHandles_2 rfl (lv_at hl 0 rfl) ?_
  refine lv_iconst (v := (nI 4)) hx hb dX4_freeHandles_3 (by decide) ?_
  refine lv_icmp_ge (tgt := 23) hx hb dX4_freeHandles_4 (by decide) (fun c => absurd c (by decide)) (fun _ => ?_)
  refine lv_aload_n hx hb dX4_freeHandles_7 rfl (lv_at hl 1 rfl) ?_
  refine tc_gT_keys hx hb hts inB_X4 hown hK hP (hts _ mb_147) dX4_freeHandles_8 ?_
  refine lv_iload_n hx hb dX4_freeHandles_11 rfl (lv_at hl 0 rfl) ?_
  refine tc_a_keys hx hb hK hP (by omega) dX4_freeHandles_12 ?_
  refine lv_iconst (v := (nI 0)) hx hb dX4_freeHandles_13 (by decide) ?_
  refine tc_pK_held hx hb hts inB_X2 hown hK hP hD hS (by omega) (by first | rfl | decide) (by first | rfl | decide) (hts _ mb_45) dX4_freeHandles_14 (fun H locs hP hD hS => ?_)
  refine lv_iinc (v := (nI 1)) (lv' := [(1, .int (nI 1)), (0, .ref (ad 0))]) hx hb dX4_freeHandles_17 hl (k := 0) rfl (by decide) (by decide) rfl (fun ls hl => ?_)
  refine lv_goto (tgt := 2) hx hb dX4_freeHandles_20 (by decide) ?_
  refine lv_iload_n hx hb dX4_freeHandles_2 rfl (lv_at hl 0 rfl) ?_
  refine lv_iconst (v := (nI 4)) hx hb dX4_freeHandles_3 (by decide) ?_
  refine lv_icmp_ge (tgt := 23) hx hb dX4_freeHandles_4 (by decide) (fun c => absurd c (by decide)) (fun _ => ?_)
  refine lv_aload_n hx hb dX4_freeHandles_7 rfl (lv_at hl 1 rfl) ?_
  refine tc_gT_keys hx hb hts inB_X4 hown hK hP (hts _ mb_147) dX4_freeHandles_8 ?_
  refine lv_iload_n hx hb dX4_freeHandles_11 rfl (lv_at hl 0 rfl) ?_
  refine tc_a_keys hx hb hK hP (by omega) dX4_freeHandles_12 ?_
  refine lv_iconst (v := (nI 0)) hx hb dX4_freeHandles_13 (by decide) ?_
  refine tc_pK_held hx hb hts inB_X2 hown hK hP hD hS (by omega) (by first | rfl | decide) (by first | rfl | decide) (hts _ mb_45) dX4_freeHandles_14 (fun H locs hP hD hS => ?_)
  refine lv_iinc (v := (nI 2)) (lv' := [(1, .int (nI 2)), (0, .ref (ad 0))]) hx hb dX4_freeHandles_17 hl (k := 0) rfl (by decide) (by decide) rfl (fun ls hl => ?_)
  refine lv_goto (tgt := 2) hx hb dX4_freeHandles_20 (by decide) ?_
  refine lv_iload_n hx hb dX4_freeHandles_2 rfl (lv_at hl 0 rfl) ?_
  refine lv_iconst (v := (nI 4)) hx hb dX4_freeHandles_3 (by decide) ?_
  refine lv_icmp_ge (tgt := 23) hx hb dX4_freeHandles_4 (by decide) (fun c => absurd c (by decide)) (fun _ => ?_)
  refine lv_aload_n hx hb dX4_freeHandles_7 rfl (lv_at hl 1 rfl) ?_
  refine tc_gT_keys hx hb hts inB_X4 hown hK hP (hts _ mb_147) dX4_freeHandles_8 ?_
  refine lv_iload_n hx hb dX4_freeHandles_11 rfl (lv_at hl 0 rfl) ?_
  refine tc_a_keys hx hb hK hP (by omega) dX4_freeHandles_12 ?_
  refine lv_iconst (v := (nI 0)) hx hb dX4_freeHandles_13 (by decide) ?_
  refine tc_pK_held hx hb hts inB_X2 hown hK hP hD hS (by omega) (by first | rfl | decide) (by first | rfl | decide) (hts _ mb_45) dX4_freeHandles_14 (fun H locs hP hD hS => ?_)
  refine lv_iinc (v := (nI 3)) (lv' := [(1, .int (nI 3)), (0, .ref (ad 0))]) hx hb dX4_freeHandles_17 hl (k := 0) rfl (by decide) (by decide) rfl (fun ls hl => ?_)
  refine lv_goto (tgt := 2) hx hb dX4_freeHandles_20 (by decide) ?_
  refine lv_iload_n hx hb dX4_freeHandles_2 rfl (lv_at hl 0 rfl) ?_
  refine lv_iconst (v := (nI 4)) hx hb dX4_freeHandles_3 (by decide) ?_
  refine lv_icmp_ge (tgt := 23) hx hb dX4_freeHandles_4 (by decide) (fun c => absurd c (by decide)) (fun _ => ?_)
  refine lv_aload_n hx hb dX4_freeHandles_7 rfl (lv_at hl 1 rfl) ?_
  refine tc_gT_keys hx hb hts inB_X4 hown hK hP (hts _ mb_147) dX4_freeHandles_8 ?_
  refine lv_iload_n hx hb dX4_freeHandles_11 rfl (lv_at hl 0 rfl) ?_
  refine tc_a_keys hx hb hK hP (by omega) dX4_freeHandles_12 ?_
  refine lv_iconst (v := (nI 0)) hx hb dX4_freeHandles_13 (by decide) ?_
  refine tc_pK_held hx hb hts inB_X2 hown hK hP hD hS (by omega) (by first | rfl | decide) (by first | rfl | decide) (hts _ mb_45) dX4_freeHandles_14 (fun H locs hP hD hS => ?_)
  refine lv_iinc (v := (nI 4)) (lv' := [(1, .int (nI 4)), (0, .ref (ad 0))]) hx hb dX4_freeHandles_17 hl (k := 0) rfl (by decide) (by decide) rfl (fun ls hl => ?_)
  refine lv_goto (tgt := 2) hx hb dX4_freeHandles_20 (by decide) ?_
  refine lv_iload_n hx hb dX4_freeHandles_2 rfl (lv_at hl 0 rfl) ?_
  refine lv_iconst (v := (nI 4)) hx hb dX4_freeHandles_3 (by decide) ?_
  refine lv_icmp_ge (tgt := 23) hx hb dX4_freeHandles_4 (by decide) (fun _ => ?_) (fun c => absurd (by decide) c)
  exact kq_vret hx hb hr hlk hP hD hS dX4_freeHandles_23
set_option maxHeartbeats 4000000 in
set_option maxRecDepth 100000 in
theorem c_forgetPcrs (u : tm_S) : kc_M l dC dI gs ad cc yX4_forgetPcrs wsX4_forgetPcrs { frames := 0, cells := 0, slots := 0, locals := 0 } [.ref (ad 0)] u (tm_I (tm_L (tm_L (tm_L (tm_L (tm_L (tm_L (tm_L (tm_L (tm_L (tm_L (tm_L (tm_L (tm_L (tm_L (tm_L (tm_L u 1 (8 * 0 + 0) 0) 1 (8 * 0 + 1) 0) 1 (8 * 0 + 2) 0) 1 (8 * 0 + 3) 0) 1 (8 * 0 + 4) 0) 1 (8 * 0 + 5) 0) 1 (8 * 0 + 6) 0) 1 (8 * 0 + 7) 0) 1 (8 * 1 + 0) 0) 1 (8 * 1 + 1) 0) 1 (8 * 1 + 2) 0) 1 (8 * 1 + 3) 0) 1 (8 * 1 + 4) 0) 1 (8 * 1 + 5) 0) 1 (8 * 1 + 6) 0) 1 (8 * 1 + 7) 0) 9 0 (nI 0)) none := by
  refine kq_ofW (cc := cX4_forgetPcrs) (maxL := 3) (ret := none) (R0 := RX4) (by decide) rfl rfl (Nat.le_of_ble_eq_true rfl) ?_
  intro p e s m below meth c A ls hx hb hr hlk hml hown hts hP hK hD hA hG hS hl
  have hl : lv_has ls 3 [(0, .ref (ad 0))] := hl
  refine lv_iconst (v := (nI 0)) hx hb dX4_forgetPcrs_0 (by decide) ?_
  refine lv_istore_n (lv' := [(1, .int (nI 0)), (0, .ref (ad 0))]) hx hb dX4_forgetPcrs_1 rfl hl (by decide) rfl (fun ls hl => ?_)
  refine lv_iload_n hx hb dX4_forgetPcrs_2 rfl (lv_at hl 0 rfl) ?_
  refine lv_iconst (v := (nI 2)) hx hb dX4_forgetPcrs_3 (by decide) ?_
  refine lv_icmp_ge (tgt := 36) hx hb dX4_forgetPcrs_4 (by decide) (fun c => absurd c (by decide)) (fun _ => ?_)
  refine lv_iconst (v := (nI 0)) hx hb dX4_forgetPcrs_7 (by decide) ?_
  refine lv_istore_n (lv' := [(2, .int (nI 0)), (1, .int (nI 0)), (0, .ref (ad 0))]) hx hb dX4_forgetPcrs_8 rfl hl (by decide) rfl (fun ls hl => ?_)
  refine lv_iload_n hx hb dX4_forgetPcrs_9 rfl (lv_at hl 0 rfl) ?_
  refine lv_bipush (v := (nI 8)) hx hb dX4_forgetPcrs_10 (by decide) ?_
  refine lv_icmp_ge (tgt := 30) hx hb dX4_forgetPcrs_12 (by decide) (fun c => absurd c (by decide)) (fun _ => ?_)
  refine lv_aload_n hx hb dX4_forgetPcrs_15 rfl (lv_at hl 2 rfl) ?_
  refine tc_gT_pcrs hx hb hts inB_X4 hown hK hP (hts _ mb_146) dX4_forgetPcrs_16 ?_
  refine lv_iload_n hx hb dX4_forgetPcrs_19 rfl (lv_at hl 1 rfl) ?_
  refine tc_a_pcrs hx hb hK hP (by omega) dX4_forgetPcrs_20 ?_
  refine lv_iload_n hx hb dX4_forgetPcrs_21 rfl (lv_at hl 0 rfl) ?_
  refine lv_lconst (v := 0) hx hb dX4_forgetPcrs_22 (by decide) ?_
  refine tc_t_pcr hx hb hK hP hD hS (by omega) (by omega) dX4_forgetPcrs_23 (fun H locs hP hD hS => ?_)
  refine lv_iinc (v := (nI 1)) (lv' := [(2, .int (nI 1)), (1, .int (nI 0)), (0, .ref (ad 0))]) hx hb dX4_forgetPcrs_24 hl (k := 0) rfl (by decide) (by decide) rfl (fun ls hl => ?_)
  refine lv_goto (tgt := 9) hx hb dX4_forgetPcrs_27 (by decide) ?_
  refine lv_iload_n hx hb dX4_forgetPcrs_9 rfl (lv_at hl 0 rfl) ?_
  refine lv_bipush (v := (nI 8)) hx hb dX4_forgetPcrs_10 (by decide) ?_
  refine lv_icmp_ge (tgt := 30) hx hb dX4_forgetPcrs_12 (by decide) (fun c => absurd c (by decide)) (fun _ => ?_)
  refine lv_aload_n hx hb dX4_forgetPcrs_15 rfl (lv_at hl 2 rfl) ?_
  refine tc_gT_pcrs hx hb hts inB_X4 hown hK hP (hts _ mb_146) dX4_forgetPcrs_16 ?_
  refine lv_iload_n hx hb dX4_forgetPcrs_19 rfl (lv_at hl 1 rfl) ?_
  refine tc_a_pcrs hx hb hK hP (by omega) dX4_forgetPcrs_20 ?_
  refine lv_iload_n hx hb dX4_forgetPcrs_21 rfl (lv_at hl 0 rfl) ?_
  refine lv_lconst (v := 0) hx hb dX4_forgetPcrs_22 (by decide) ?_
  refine tc_t_pcr hx hb hK hP hD hS (by omega) (by omega) dX4_forgetPcrs_23 (fun H locs hP hD hS => ?_)
  refine lv_iinc (v := (nI 2)) (lv' := [(2, .int (nI 2)), (1, .int (nI 0)), (0, .ref (ad 0))]) hx hb dX4_forgetPcrs_24 hl (k := 0) rfl (by decide) (by decide) rfl (fun ls hl => ?_)
  refine lv_goto (tgt := 9) hx hb dX4_forgetPcrs_27 (by decide) ?_
  refine lv_iload_n hx hb dX4_forgetPcrs_9 rfl (lv_at hl 0 rfl) ?_
  refine lv_bipush (v := (nI 8)) hx hb dX4_forgetPcrs_10 (by decide) ?_
  refine lv_icmp_ge (tgt := 30) hx hb dX4_forgetPcrs_12 (by decide) (fun c => absurd c (by decide)) (fun _ => ?_)
  refine lv_aload_n hx hb dX4_forgetPcrs_15 rfl (lv_at hl 2 rfl) ?_
  refine tc_gT_pcrs hx hb hts inB_X4 hown hK hP (hts _ mb_146) dX4_forgetPcrs_16 ?_
  refine lv_iload_n hx hb dX4_forgetPcrs_19 rfl (lv_at hl 1 rfl) ?_
  refine tc_a_pcrs hx hb hK hP (by omega) dX4_forgetPcrs_20 ?_
  refine lv_iload_n hx hb dX4_forgetPcrs_21 rfl (lv_at hl 0 rfl) ?_
  refine lv_lconst (v := 0) hx hb dX4_forgetPcrs_22 (by decide) ?_
  refine tc_t_pcr hx hb hK hP hD hS (by omega) (by omega) dX4_forgetPcrs_23 (fun H locs hP hD hS => ?_)
  refine lv_iinc (v := (nI 3)) (lv' := [(2, .int (nI 3)), (1, .int (nI 0)), (0, .ref (ad 0))]) hx hb dX4_forgetPcrs_24 hl (k := 0) rfl (by decide) (by decide) rfl (fun ls hl => ?_)
  refine lv_goto (tgt := 9) hx hb dX4_forgetPcrs_27 (by decide) ?_
  refine lv_iload_n hx hb dX4_forgetPcrs_9 rfl (lv_at hl 0 rfl) ?_
  refine lv_bipush (v := (nI 8)) hx hb dX4_forgetPcrs_10 (by decide) ?_
  refine lv_icmp_ge (tgt := 30) hx hb dX4_forgetPcrs_12 (by decide) (fun c => absurd c (by decide)) (fun _ => ?_)
  refine lv_aload_n hx hb dX4_forgetPcrs_15 rfl (lv_at hl 2 rfl) ?_
  refine tc_gT_pcrs hx hb hts inB_X4 hown hK hP (hts _ mb_146) dX4_forgetPcrs_16 ?_
  refine lv_iload_n hx hb dX4_forgetPcrs_19 rfl (lv_at hl 1 rfl) ?_
  refine tc_a_pcrs hx hb hK hP (by omega) dX4_forgetPcrs_20 ?_
  refine lv_iload_n hx hb dX4_forgetPcrs_21 rfl (lv_at hl 0 rfl) ?_
  refine lv_lconst (v := 0) hx hb dX4_forgetPcrs_22 (by decide) ?_
  refine tc_t_pcr hx hb hK hP hD hS (by omega) (by omega) dX4_forgetPcrs_23 (fun H locs hP hD hS => ?_)
  refine lv_iinc (v := (nI 4)) (lv' := [(2, .int (nI 4)), (1, .int (nI 0)), (0, .ref (ad 0))]) hx hb dX4_forgetPcrs_24 hl (k := 0) rfl (by decide) (by decide) rfl (fun ls hl => ?_)
  refine lv_goto (tgt := 9) hx hb dX4_forgetPcrs_27 (by decide) ?_
  refine lv_iload_n hx hb dX4_forgetPcrs_9 rfl (lv_at hl 0 rfl) ?_
  refine lv_bipush (v := (nI 8)) hx hb dX4_forgetPcrs_10 (by decide) ?_
  refine lv_icmp_ge (tgt := 30) hx hb dX4_forgetPcrs_12 (by decide) (fun c => absurd c (by decide)) (fun _ => ?_)
  refine lv_aload_n hx hb dX4_forgetPcrs_15 rfl (lv_at hl 2 rfl) ?_
  refine tc_gT_pcrs hx hb hts inB_X4 hown hK hP (hts _ mb_146) dX4_forgetPcrs_16 ?_
  refine lv_iload_n hx hb dX4_forgetPcrs_19 rfl (lv_at hl 1 rfl) ?_
  refine tc_a_pcrs hx hb hK hP (by omega) dX4_forgetPcrs_20 ?_
  refine lv_iload_n hx hb dX4_forgetPcrs_21 rfl (lv_at hl 0 rfl) ?_
  refine lv_lconst (v := 0) hx hb dX4_forgetPcrs_22 (by decide) ?_
  refine tc_t_pcr hx hb hK hP hD hS (by omega) (by omega) dX4_forgetPcrs_23 (fun H locs hP hD hS => ?_)
  refine lv_iinc (v := (nI 5)) (lv' := [(2, .int (nI 5)), (1, .int (nI 0)), (0, .ref (ad 0))]) hx hb dX4_forgetPcrs_24 hl (k := 0) rfl (by decide) (by decide) rfl (fun ls hl => ?_)
  refine lv_goto (tgt := 9) hx hb dX4_forgetPcrs_27 (by decide) ?_
  refine lv_iload_n hx hb dX4_forgetPcrs_9 rfl (lv_at hl 0 rfl) ?_
  refine lv_bipush (v := (nI 8)) hx hb dX4_forgetPcrs_10 (by decide) ?_
  refine lv_icmp_ge (tgt := 30) hx hb dX4_forgetPcrs_12 (by decide) (fun c => absurd c (by decide)) (fun _ => ?_)
  refine lv_aload_n hx hb dX4_forgetPcrs_15 rfl (lv_at hl 2 rfl) ?_
  refine tc_gT_pcrs hx hb hts inB_X4 hown hK hP (hts _ mb_146) dX4_forgetPcrs_16 ?_
  refine lv_iload_n hx hb dX4_forgetPcrs_19 rfl (lv_at hl 1 rfl) ?_
  refine tc_a_pcrs hx hb hK hP (by omega) dX4_forgetPcrs_20 ?_
  refine lv_iload_n hx hb dX4_forgetPcrs_21 rfl (lv_at hl 0 rfl) ?_
  refine lv_lconst (v := 0) hx hb dX4_forgetPcrs_22 (by decide) ?_
  refine tc_t_pcr hx hb hK hP hD hS (by omega) (by omega) dX4_forgetPcrs_23 (fun H locs hP hD hS => ?_)
  refine lv_iinc (v := (nI 6)) (lv' := [(2, .int (nI 6)), (1, .int (nI 0)), (0, .ref (ad 0))]) hx hb dX4_forgetPcrs_24 hl (k := 0) rfl (by decide) (by decide) rfl (fun ls hl => ?_)
  refine lv_goto (tgt := 9) hx hb dX4_forgetPcrs_27 (by decide) ?_
  refine lv_iload_n hx hb dX4_forgetPcrs_9 rfl (lv_at hl 0 rfl) ?_
  refine lv_bipush (v := (nI 8)) hx hb dX4_forgetPcrs_10 (by decide) ?_
  refine lv_icmp_ge (tgt := 30) hx hb dX4_forgetPcrs_12 (by decide) (fun c => absurd c (by decide)) (fun _ => ?_)
  refine lv_aload_n hx hb dX4_forgetPcrs_15 rfl (lv_at hl 2 rfl) ?_
  refine tc_gT_pcrs hx hb hts inB_X4 hown hK hP (hts _ mb_146) dX4_forgetPcrs_16 ?_
  refine lv_iload_n hx hb dX4_forgetPcrs_19 rfl (lv_at hl 1 rfl) ?_
  refine tc_a_pcrs hx hb hK hP (by omega) dX4_forgetPcrs_20 ?_
  refine lv_iload_n hx hb dX4_forgetPcrs_21 rfl (lv_at hl 0 rfl) ?_
  refine lv_lconst (v := 0) hx hb dX4_forgetPcrs_22 (by decide) ?_
  refine tc_t_pcr hx hb hK hP hD hS (by omega) (by omega) dX4_forgetPcrs_23 (fun H locs hP hD hS => ?_)
  refine lv_iinc (v := (nI 7)) (lv' := [(2, .int (nI 7)), (1, .int (nI 0)), (0, .ref (ad 0))]) hx hb dX4_forgetPcrs_24 hl (k := 0) rfl (by decide) (by decide) rfl (fun ls hl => ?_)
  refine lv_goto (tgt := 9) hx hb dX4_forgetPcrs_27 (by decide) ?_
  refine lv_iload_n hx hb dX4_forgetPcrs_9 rfl (lv_at hl 0 rfl) ?_
  refine lv_bipush (v := (nI 8)) hx hb dX4_forgetPcrs_10 (by decide) ?_
  refine lv_icmp_ge (tgt := 30) hx hb dX4_forgetPcrs_12 (by decide) (fun c => absurd c (by decide)) (fun _ => ?_)
  refine lv_aload_n hx hb dX4_forgetPcrs_15 rfl (lv_at hl 2 rfl) ?_
  refine tc_gT_pcrs hx hb hts inB_X4 hown hK hP (hts _ mb_146) dX4_forgetPcrs_16 ?_
  refine lv_iload_n hx hb dX4_forgetPcrs_19 rfl (lv_at hl 1 rfl) ?_
  refine tc_a_pcrs hx hb hK hP (by omega) dX4_forgetPcrs_20 ?_
  refine lv_iload_n hx hb dX4_forgetPcrs_21 rfl (lv_at hl 0 rfl) ?_
  refine lv_lconst (v := 0) hx hb dX4_forgetPcrs_22 (by decide) ?_
  refine tc_t_pcr hx hb hK hP hD hS (by omega) (by omega) dX4_forgetPcrs_23 (fun H locs hP hD hS => ?_)
  refine lv_iinc (v := (nI 8)) (lv' := [(2, .int (nI 8)), (1, .int (nI 0)), (0, .ref (ad 0))]) hx hb dX4_forgetPcrs_24 hl (k := 0) rfl (by decide) (by decide) rfl (fun ls hl => ?_)
  refine lv_goto (tgt := 9) hx hb dX4_forgetPcrs_27 (by decide) ?_
  refine lv_iload_n hx hb dX4_forgetPcrs_9 rfl (lv_at hl 0 rfl) ?_
  refine lv_bipush (v := (nI 8)) hx hb dX4_forgetPcrs_10 (by decide) ?_
  refine lv_icmp_ge (tgt := 30) hx hb dX4_forgetPcrs_12 (by decide) (fun _ => ?_) (fun c => absurd (by decide) c)
  refine lv_iinc (v := (nI 1)) (lv' := [(1, .int (nI 1)), (2, .int (nI 8)), (0, .ref (ad 0))]) hx hb dX4_forgetPcrs_30 hl (k := 1) rfl (by decide) (by decide) rfl (fun ls hl => ?_)
  refine lv_goto (tgt := 2) hx hb dX4_forgetPcrs_33 (by decide) ?_
  refine lv_iload_n hx hb dX4_forgetPcrs_2 rfl (lv_at hl 0 rfl) ?_
  refine lv_iconst (v := (nI 2)) hx hb dX4_forgetPcrs_3 (by decide) ?_
  refine lv_icmp_ge (tgt := 36) hx hb dX4_forgetPcrs_4 (by decide) (fun c => absurd c (by decide)) (fun _ => ?_)
  refine lv_iconst (v := (nI 0)) hx hb dX4_forgetPcrs_7 (by decide) ?_
  refine lv_istore_n (lv' := [(2, .int (nI 0)), (1, .int (nI 1)), (0, .ref (ad 0))]) hx hb dX4_forgetPcrs_8 rfl hl (by decide) rfl (fun ls hl => ?_)
  refine lv_iload_n hx hb dX4_forgetPcrs_9 rfl (lv_at hl 0 rfl) ?_
  refine lv_bipush (v := (nI 8)) hx hb dX4_forgetPcrs_10 (by decide) ?_
  refine lv_icmp_ge (tgt := 30) hx hb dX4_forgetPcrs_12 (by decide) (fun c => absurd c (by decide)) (fun _ => ?_)
  refine lv_aload_n hx hb dX4_forgetPcrs_15 rfl (lv_at hl 2 rfl) ?_
  refine tc_gT_pcrs hx hb hts inB_X4 hown hK hP (hts _ mb_146) dX4_forgetPcrs_16 ?_
  refine lv_iload_n hx hb dX4_forgetPcrs_19 rfl (lv_at hl 1 rfl) ?_
  refine tc_a_pcrs hx hb hK hP (by omega) dX4_forgetPcrs_20 ?_
  refine lv_iload_n hx hb dX4_forgetPcrs_21 rfl (lv_at hl 0 rfl) ?_
  refine lv_lconst (v := 0) hx hb dX4_forgetPcrs_22 (by decide) ?_
  refine tc_t_pcr hx hb hK hP hD hS (by omega) (by omega) dX4_forgetPcrs_23 (fun H locs hP hD hS => ?_)
  refine lv_iinc (v := (nI 1)) (lv' := [(2, .int (nI 1)), (1, .int (nI 1)), (0, .ref (ad 0))]) hx hb dX4_forgetPcrs_24 hl (k := 0) rfl (by decide) (by decide) rfl (fun ls hl => ?_)
  refine lv_goto (tgt := 9) hx hb dX4_forgetPcrs_27 (by decide) ?_
  refine lv_iload_n hx hb dX4_forgetPcrs_9 rfl (lv_at hl 0 rfl) ?_
  refine lv_bipush (v := (nI 8)) hx hb dX4_forgetPcrs_10 (by decide) ?_
  refine lv_icmp_ge (tgt := 30) hx hb dX4_forgetPcrs_12 (by decide) (fun c => absurd c (by decide)) (fun _ => ?_)
  refine lv_aload_n hx hb dX4_forgetPcrs_15 rfl (lv_at hl 2 rfl) ?_
  refine tc_gT_pcrs hx hb hts inB_X4 hown hK hP (hts _ mb_146) dX4_forgetPcrs_16 ?_
  refine lv_iload_n hx hb dX4_forgetPcrs_19 rfl (lv_at hl 1 rfl) ?_
  refine tc_a_pcrs hx hb hK hP (by omega) dX4_forgetPcrs_20 ?_
  refine lv_iload_n hx hb dX4_forgetPcrs_21 rfl (lv_at hl 0 rfl) ?_
  refine lv_lconst (v := 0) hx hb dX4_forgetPcrs_22 (by decide) ?_
  refine tc_t_pcr hx hb hK hP hD hS (by omega) (by omega) dX4_forgetPcrs_23 (fun H locs hP hD hS => ?_)
  refine lv_iinc (v := (nI 2)) (lv' := [(2, .int (nI 2)), (1, .int (nI 1)), (0, .ref (ad 0))]) hx hb dX4_forgetPcrs_24 hl (k := 0) rfl (by decide) (by decide) rfl (fun ls hl => ?_)
  refine lv_goto (tgt := 9) hx hb dX4_forgetPcrs_27 (by decide) ?_
  refine lv_iload_n hx hb dX4_forgetPcrs_9 rfl (lv_at hl 0 rfl) ?_
  refine lv_bipush (v := (nI 8)) hx hb dX4_forgetPcrs_10 (by decide) ?_
  refine lv_icmp_ge (tgt := 30) hx hb dX4_forgetPcrs_12 (by decide) (fun c => absurd c (by decide)) (fun _ => ?_)
  refine lv_aload_n hx hb dX4_forgetPcrs_15 rfl (lv_at hl 2 rfl) ?_
  refine tc_gT_pcrs hx hb hts inB_X4 hown hK hP (hts _ mb_146) dX4_forgetPcrs_16 ?_
  refine lv_iload_n hx hb dX4_forgetPcrs_19 rfl (lv_at hl 1 rfl) ?_
  refine tc_a_pcrs hx hb hK hP (by omega) dX4_forgetPcrs_20 ?_
  refine lv_iload_n hx hb dX4_forgetPcrs_21 rfl (lv_at hl 0 rfl) ?_
  refine lv_lconst (v := 0) hx hb dX4_forgetPcrs_22 (by decide) ?_
  refine tc_t_pcr hx hb hK hP hD hS (by omega) (by omega) dX4_forgetPcrs_23 (fun H locs hP hD hS => ?_)
  refine lv_iinc (v := (nI 3)) (lv' := [(2, .int (nI 3)), (1, .int (nI 1)), (0, .ref (ad 0))]) hx hb dX4_forgetPcrs_24 hl (k := 0) rfl (by decide) (by decide) rfl (fun ls hl => ?_)
  refine lv_goto (tgt := 9) hx hb dX4_forgetPcrs_27 (by decide) ?_
  refine lv_iload_n hx hb dX4_forgetPcrs_9 rfl (lv_at hl 0 rfl) ?_
  refine lv_bipush (v := (nI 8)) hx hb dX4_forgetPcrs_10 (by decide) ?_
  refine lv_icmp_ge (tgt := 30) hx hb dX4_forgetPcrs_12 (by decide) (fun c => absurd c (by decide)) (fun _ => ?_)
  refine lv_aload_n hx hb dX4_forgetPcrs_15 rfl (lv_at hl 2 rfl) ?_
  refine tc_gT_pcrs hx hb hts inB_X4 hown hK hP (hts _ mb_146) dX4_forgetPcrs_16 ?_
  refine lv_iload_n hx hb dX4_forgetPcrs_19 rfl (lv_at hl 1 rfl) ?_
  refine tc_a_pcrs hx hb hK hP (by omega) dX4_forgetPcrs_20 ?_
  refine lv_iload_n hx hb dX4_forgetPcrs_21 rfl (lv_at hl 0 rfl) ?_
  refine lv_lconst (v := 0) hx hb dX4_forgetPcrs_22 (by decide) ?_
  refine tc_t_pcr hx hb hK hP hD hS (by omega) (by omega) dX4_forgetPcrs_23 (fun H locs hP hD hS => ?_)
  refine lv_iinc (v := (nI 4)) (lv' := [(2, .int (nI 4)), (1, .int (nI 1)), (0, .ref (ad 0))]) hx hb dX4_forgetPcrs_24 hl (k := 0) rfl (by decide) (by decide) rfl (fun ls hl => ?_)
  refine lv_goto (tgt := 9) hx hb dX4_forgetPcrs_27 (by decide) ?_
  refine lv_iload_n hx hb dX4_forgetPcrs_9 rfl (lv_at hl 0 rfl) ?_
  refine lv_bipush (v := (nI 8)) hx hb dX4_forgetPcrs_10 (by decide) ?_
  refine lv_icmp_ge (tgt := 30) hx hb dX4_forgetPcrs_12 (by decide) (fun c => absurd c (by decide)) (fun _ => ?_)
  refine lv_aload_n hx hb dX4_forgetPcrs_15 rfl (lv_at hl 2 rfl) ?_
  refine tc_gT_pcrs hx hb hts inB_X4 hown hK hP (hts _ mb_146) dX4_forgetPcrs_16 ?_
  refine lv_iload_n hx hb dX4_forgetPcrs_19 rfl (lv_at hl 1 rfl) ?_
  refine tc_a_pcrs hx hb hK hP (by omega) dX4_forgetPcrs_20 ?_
  refine lv_iload_n hx hb dX4_forgetPcrs_21 rfl (lv_at hl 0 rfl) ?_
  refine lv_lconst (v := 0) hx hb dX4_forgetPcrs_22 (by decide) ?_
  refine tc_t_pcr hx hb hK hP hD hS (by omega) (by omega) dX4_forgetPcrs_23 (fun H locs hP hD hS => ?_)
  refine lv_iinc (v := (nI 5)) (lv' := [(2, .int (nI 5)), (1, .int (nI 1)), (0, .ref (ad 0))]) hx hb dX4_forgetPcrs_24 hl (k := 0) rfl (by decide) (by decide) rfl (fun ls hl => ?_)
  refine lv_goto (tgt := 9) hx hb dX4_forgetPcrs_27 (by decide) ?_
  refine lv_iload_n hx hb dX4_forgetPcrs_9 rfl (lv_at hl 0 rfl) ?_
  refine lv_bipush (v := (nI 8)) hx hb dX4_forgetPcrs_10 (by decide) ?_
  refine lv_icmp_ge (tgt := 30) hx hb dX4_forgetPcrs_12 (by decide) (fun c => absurd c (by decide)) (fun _ => ?_)
  refine lv_aload_n hx hb dX4_forgetPcrs_15 rfl (lv_at hl 2 rfl) ?_
  refine tc_gT_pcrs hx hb hts inB_X4 hown hK hP (hts _ mb_146) dX4_forgetPcrs_16 ?_
  refine lv_iload_n hx hb dX4_forgetPcrs_19 rfl (lv_at hl 1 rfl) ?_
  refine tc_a_pcrs hx hb hK hP (by omega) dX4_forgetPcrs_20 ?_
  refine lv_iload_n hx hb dX4_forgetPcrs_21 rfl (lv_at hl 0 rfl) ?_
  refine lv_lconst (v := 0) hx hb dX4_forgetPcrs_22 (by decide) ?_
  refine tc_t_pcr hx hb hK hP hD hS (by omega) (by omega) dX4_forgetPcrs_23 (fun H locs hP hD hS => ?_)
  refine lv_iinc (v := (nI 6)) (lv' := [(2, .int (nI 6)), (1, .int (nI 1)), (0, .ref (ad 0))]) hx hb dX4_forgetPcrs_24 hl (k := 0) rfl (by decide) (by decide) rfl (fun ls hl => ?_)
  refine lv_goto (tgt := 9) hx hb dX4_forgetPcrs_27 (by decide) ?_
  refine lv_iload_n hx hb dX4_forgetPcrs_9 rfl (lv_at hl 0 rfl) ?_
  refine lv_bipush (v := (nI 8)) hx hb dX4_forgetPcrs_10 (by decide) ?_
  refine lv_icmp_ge (tgt := 30) hx hb dX4_forgetPcrs_12 (by decide) (fun c => absurd c (by decide)) (fun _ => ?_)
  refine lv_aload_n hx hb dX4_forgetPcrs_15 rfl (lv_at hl 2 rfl) ?_
  refine tc_gT_pcrs hx hb hts inB_X4 hown hK hP (hts _ mb_146) dX4_forgetPcrs_16 ?_
  refine lv_iload_n hx hb dX4_forgetPcrs_19 rfl (lv_at hl 1 rfl) ?_
  refine tc_a_pcrs hx hb hK hP (by omega) dX4_forgetPcrs_20 ?_
  refine lv_iload_n hx hb dX4_forgetPcrs_21 rfl (lv_at hl 0 rfl) ?_
  refine lv_lconst (v := 0) hx hb dX4_forgetPcrs_22 (by decide) ?_
  refine tc_t_pcr hx hb hK hP hD hS (by omega) (by omega) dX4_forgetPcrs_23 (fun H locs hP hD hS => ?_)
  refine lv_iinc (v := (nI 7)) (lv' := [(2, .int (nI 7)), (1, .int (nI 1)), (0, .ref (ad 0))]) hx hb dX4_forgetPcrs_24 hl (k := 0) rfl (by decide) (by decide) rfl (fun ls hl => ?_)
  refine lv_goto (tgt := 9) hx hb dX4_forgetPcrs_27 (by decide) ?_
  refine lv_iload_n hx hb dX4_forgetPcrs_9 rfl (lv_at hl 0 rfl) ?_
  refine lv_bipush (v := (nI 8)) hx hb dX4_forgetPcrs_10 (by decide) ?_
  refine lv_icmp_ge (tgt := 30) hx hb dX4_forgetPcrs_12 (by decide) (fun c => absurd c (by decide)) (fun _ => ?_)
  refine lv_aload_n hx hb dX4_forgetPcrs_15 rfl (lv_at hl 2 rfl) ?_
  refine tc_gT_pcrs hx hb hts inB_X4 hown hK hP (hts _ mb_146) dX4_forgetPcrs_16 ?_
  refine lv_iload_n hx hb dX4_forgetPcrs_19 rfl (lv_at hl 1 rfl) ?_
  refine tc_a_pcrs hx hb hK hP (by omega) dX4_forgetPcrs_20 ?_
  refine lv_iload_n hx hb dX4_forgetPcrs_21 rfl (lv_at hl 0 rfl) ?_
  refine lv_lconst (v := 0) hx hb dX4_forgetPcrs_22 (by decide) ?_
  refine tc_t_pcr hx hb hK hP hD hS (by omega) (by omega) dX4_forgetPcrs_23 (fun H locs hP hD hS => ?_)
  refine lv_iinc (v := (nI 8)) (lv' := [(2, .int (nI 8)), (1, .int (nI 1)), (0, .ref (ad 0))]) hx hb dX4_forgetPcrs_24 hl (k := 0) rfl (by decide) (by decide) rfl (fun ls hl => ?_)
  refine lv_goto (tgt := 9) hx hb dX4_forgetPcrs_27 (by decide) ?_
  refine lv_iload_n hx hb dX4_forgetPcrs_9 rfl (lv_at hl 0 rfl) ?_
  refine lv_bipush (v := (nI 8)) hx hb dX4_forgetPcrs_10 (by decide) ?_
  refine lv_icmp_ge (tgt := 30) hx hb dX4_forgetPcrs_12 (by decide) (fun _ => ?_) (fun c => absurd (by decide) c)
  refine lv_iinc (v := (nI 2)) (lv' := [(1, .int (nI 2)), (2, .int (nI 8)), (0, .ref (ad 0))]) hx hb dX4_forgetPcrs_30 hl (k := 1) rfl (by decide) (by decide) rfl (fun ls hl => ?_)
  refine lv_goto (tgt := 2) hx hb dX4_forgetPcrs_33 (by decide) ?_
  refine lv_iload_n hx hb dX4_forgetPcrs_2 rfl (lv_at hl 0 rfl) ?_
  refine lv_iconst (v := (nI 2)) hx hb dX4_forgetPcrs_3 (by decide) ?_
  refine lv_icmp_ge (tgt := 36) hx hb dX4_forgetPcrs_4 (by decide) (fun _ => ?_) (fun c => absurd (by decide) c)
  refine lv_aload_n hx hb dX4_forgetPcrs_36 rfl (lv_at hl 2 rfl) ?_
  refine lv_iconst (v := (nI 0)) hx hb dX4_forgetPcrs_37 (by decide) ?_
  refine tc_pT_pcrCount hx hb hts inB_X4 hown hK hP hD hS (hts _ mb_151) dX4_forgetPcrs_38 (fun H locs hP hD hS => ?_)
  exact kq_vret hx hb hr hlk hP hD hS dX4_forgetPcrs_41
set_option maxHeartbeats 4000000 in
set_option maxRecDepth 100000 in
theorem c_powerComes (u : tm_S) (n : Int32) : kc_M l dC dI gs ad cc yX4_powerComes wsX4_powerComes { frames := 1, cells := 0, slots := 0, locals := 25 } [.ref (ad 0), .int n] u (tm_D (tm_L (tm_I (tm_I (tm_L (tm_I (tm_I (tm_L (tm_I (tm_I (tm_L (tm_I (tm_I (tm_I (tm_I (tm_I (tm_L (tm_L (tm_L (tm_L (tm_L (tm_L (tm_L (tm_L (tm_L (tm_L (tm_L (tm_L (tm_L (tm_L (tm_L (tm_L (tm_I (tm_I u 10 0 n) 11 0 (nI 0)) 1 (8 * 0 + 0) 0) 1 (8 * 0 + 1) 0) 1 (8 * 0 + 2) 0) 1 (8 * 0 + 3) 0) 1 (8 * 0 + 4) 0) 1 (8 * 0 + 5) 0) 1 (8 * 0 + 6) 0) 1 (8 * 0 + 7) 0) 1 (8 * 1 + 0) 0) 1 (8 * 1 + 1) 0) 1 (8 * 1 + 2) 0) 1 (8 * 1 + 3) 0) 1 (8 * 1 + 4) 0) 1 (8 * 1 + 5) 0) 1 (8 * 1 + 6) 0) 1 (8 * 1 + 7) 0) 9 0 (nI 0)) 0 0 (nI 0)) 0 1 (nI 0)) 0 2 (nI 0)) 0 3 (nI 0)) 6 0 0) 4 0 (nI 0)) 5 0 (nI 0)) 6 1 0) 4 1 (nI 0)) 5 1 (nI 0)) 6 2 0) 4 2 (nI 0)) 5 2 (nI 0)) 0 2 (tm_h (u.1 0 2) 5)) 0 (u.2.2 1)) none := by
  refine kq_ofW (cc := cX4_powerComes) (maxL := 3) (ret := none) (R0 := RX4) (by decide) rfl rfl (Nat.le_of_ble_eq_true rfl) ?_
  intro p e s m below meth c A ls hx hb hr hlk hml hown hts hP hK hD hA hG hS hl
  have hl : lv_has ls 3 [(0, .ref (ad 0)), (1, .int n)] := hl
  refine lv_aload_n hx hb dX4_powerComes_0 rfl (lv_at hl 0 rfl) ?_
  refine lv_iload_n hx hb dX4_powerComes_1 rfl (lv_at hl 1 rfl) ?_
  refine tc_pT_powerLeft hx hb hts inB_X4 hown hK hP hD hS (hts _ mb_153) dX4_powerComes_2 (fun H locs hP hD hS => ?_)
  refine lv_aload_n hx hb dX4_powerComes_5 rfl (lv_at hl 0 rfl) ?_
  refine lv_iconst (v := (nI 0)) hx hb dX4_powerComes_6 (by decide) ?_
  refine tc_pT_lost hx hb hts inB_X4 hown hK hP hD hS (by first | rfl | decide) (by first | rfl | decide) (hts _ mb_154) dX4_powerComes_7 (fun H locs hP hD hS => ?_)
  refine lv_aload_n hx hb dX4_powerComes_10 rfl (lv_at hl 0 rfl) ?_
  refine kq_cV (st1 := []) ⟨hx, hb, hml, hown, hts⟩ (c_forgetPcrs (tm_I (tm_I u 10 0 n) 11 0 (nI 0))) (cwV 0 hts gX4_283_X4_forgetPcrs rfl rfl rfl (by decide +kernel) ⟨Nat.le_of_ble_eq_true rfl, Nat.le_of_ble_eq_true rfl⟩) tm_Gok hK hP hD hA hG hS (va_recv hK hP (ci := 4) (q0 := 0) rfl (tm_at (i := 0) (by omega) rfl)) rfl hl.1 rfl rfl (Nat.le_of_ble_eq_true rfl) dX4_powerComes_11 ⟨Nat.le_of_ble_eq_true rfl, Nat.le_of_ble_eq_true rfl⟩ (fun H locs hP hD hS => ?_)
  refine lv_aload_n hx hb dX4_powerComes_14 rfl (lv_at hl 0 rfl) ?_
  refine kq_cV (st1 := []) ⟨hx, hb, hml, hown, hts⟩ (c_freeHandles (tm_I (tm_L (tm_L (tm_L (tm_L (tm_L (tm_L (tm_L (tm_L (tm_L (tm_L (tm_L (tm_L (tm_L (tm_L (tm_L (tm_L (tm_I (tm_I u 10 0 n) 11 0 (nI 0)) 1 (8 * 0 + 0) 0) 1 (8 * 0 + 1) 0) 1 (8 * 0 + 2) 0) 1 (8 * 0 + 3) 0) 1 (8 * 0 + 4) 0) 1 (8 * 0 + 5) 0) 1 (8 * 0 + 6) 0) 1 (8 * 0 + 7) 0) 1 (8 * 1 + 0) 0) 1 (8 * 1 + 1) 0) 1 (8 * 1 + 2) 0) 1 (8 * 1 + 3) 0) 1 (8 * 1 + 4) 0) 1 (8 * 1 + 5) 0) 1 (8 * 1 + 6) 0) 1 (8 * 1 + 7) 0) 9 0 (nI 0))) (cwV 0 hts gX4_218_X4_freeHandles rfl rfl rfl (by decide +kernel) ⟨Nat.le_of_ble_eq_true rfl, Nat.le_of_ble_eq_true rfl⟩) tm_Gok hK hP hD hA hG hS (va_recv hK hP (ci := 4) (q0 := 0) rfl (tm_at (i := 0) (by omega) rfl)) rfl hl.1 rfl rfl (Nat.le_of_ble_eq_true rfl) dX4_powerComes_15 ⟨Nat.le_of_ble_eq_true rfl, Nat.le_of_ble_eq_true rfl⟩ (fun H locs hP hD hS => ?_)
  refine lv_iconst (v := (nI 0)) hx hb dX4_powerComes_18 (by decide) ?_
  refine lv_istore_n (lv' := [(2, .int (nI 0)), (0, .ref (ad 0)), (1, .int n)]) hx hb dX4_powerComes_19 rfl hl (by decide) rfl (fun ls hl => ?_)
  refine lv_iload_n hx hb dX4_powerComes_20 rfl (lv_at hl 0 rfl) ?_
  refine lv_iconst (v := (nI 3)) hx hb dX4_powerComes_21 (by decide) ?_
  refine lv_icmp_ge (tgt := 40) hx hb dX4_powerComes_22 (by decide) (fun c => absurd c (by decide)) (fun _ => ?_)
  refine lv_aload_n hx hb dX4_powerComes_25 rfl (lv_at hl 1 rfl) ?_
  refine tc_gT_sessions hx hb hts inB_X4 hown hK hP (hts _ mb_149) dX4_powerComes_26 ?_
  refine lv_iload_n hx hb dX4_powerComes_29 rfl (lv_at hl 0 rfl) ?_
  refine tc_a_sessions hx hb hK hP (by omega) dX4_powerComes_30 ?_
  refine kq_cV (st1 := []) ⟨hx, hb, hml, hown, hts⟩ (c_beginAnew (tm_I (tm_I (tm_I (tm_I (tm_I (tm_L (tm_L (tm_L (tm_L (tm_L (tm_L (tm_L (tm_L (tm_L (tm_L (tm_L (tm_L (tm_L (tm_L (tm_L (tm_L (tm_I (tm_I u 10 0 n) 11 0 (nI 0)) 1 (8 * 0 + 0) 0) 1 (8 * 0 + 1) 0) 1 (8 * 0 + 2) 0) 1 (8 * 0 + 3) 0) 1 (8 * 0 + 4) 0) 1 (8 * 0 + 5) 0) 1 (8 * 0 + 6) 0) 1 (8 * 0 + 7) 0) 1 (8 * 1 + 0) 0) 1 (8 * 1 + 1) 0) 1 (8 * 1 + 2) 0) 1 (8 * 1 + 3) 0) 1 (8 * 1 + 4) 0) 1 (8 * 1 + 5) 0) 1 (8 * 1 + 6) 0) 1 (8 * 1 + 7) 0) 9 0 (nI 0)) 0 0 (nI 0)) 0 1 (nI 0)) 0 2 (nI 0)) 0 3 (nI 0)) (k := 0) (by omega)) (cwV 0 hts gX4_134_X3_beginAnew rfl rfl rfl (by decide +kernel) ⟨Nat.le_of_ble_eq_true rfl, Nat.le_of_ble_eq_true rfl⟩) tm_Gok hK hP hD hA hG hS (va_recv hK hP (ci := 3) (q0 := 0 + 29) rfl (tm_at (i := 0 + 29) (by omega) (tc_Y (by omega)))) rfl hl.1 rfl rfl (Nat.le_of_ble_eq_true rfl) dX4_powerComes_31 ⟨Nat.le_of_ble_eq_true rfl, Nat.le_of_ble_eq_true rfl⟩ (fun H locs hP hD hS => ?_)
  refine lv_iinc (v := (nI 1)) (lv' := [(2, .int (nI 1)), (0, .ref (ad 0)), (1, .int n)]) hx hb dX4_powerComes_34 hl (k := 0) rfl (by decide) (by decide) rfl (fun ls hl => ?_)
  refine lv_goto (tgt := 20) hx hb dX4_powerComes_37 (by decide) ?_
  refine lv_iload_n hx hb dX4_powerComes_20 rfl (lv_at hl 0 rfl) ?_
  refine lv_iconst (v := (nI 3)) hx hb dX4_powerComes_21 (by decide) ?_
  refine lv_icmp_ge (tgt := 40) hx hb dX4_powerComes_22 (by decide) (fun c => absurd c (by decide)) (fun _ => ?_)
  refine lv_aload_n hx hb dX4_powerComes_25 rfl (lv_at hl 1 rfl) ?_
  refine tc_gT_sessions hx hb hts inB_X4 hown hK hP (hts _ mb_149) dX4_powerComes_26 ?_
  refine lv_iload_n hx hb dX4_powerComes_29 rfl (lv_at hl 0 rfl) ?_
  refine tc_a_sessions hx hb hK hP (by omega) dX4_powerComes_30 ?_
  refine kq_cV (st1 := []) ⟨hx, hb, hml, hown, hts⟩ (c_beginAnew (tm_I (tm_I (tm_L (tm_I (tm_I (tm_I (tm_I (tm_I (tm_L (tm_L (tm_L (tm_L (tm_L (tm_L (tm_L (tm_L (tm_L (tm_L (tm_L (tm_L (tm_L (tm_L (tm_L (tm_L (tm_I (tm_I u 10 0 n) 11 0 (nI 0)) 1 (8 * 0 + 0) 0) 1 (8 * 0 + 1) 0) 1 (8 * 0 + 2) 0) 1 (8 * 0 + 3) 0) 1 (8 * 0 + 4) 0) 1 (8 * 0 + 5) 0) 1 (8 * 0 + 6) 0) 1 (8 * 0 + 7) 0) 1 (8 * 1 + 0) 0) 1 (8 * 1 + 1) 0) 1 (8 * 1 + 2) 0) 1 (8 * 1 + 3) 0) 1 (8 * 1 + 4) 0) 1 (8 * 1 + 5) 0) 1 (8 * 1 + 6) 0) 1 (8 * 1 + 7) 0) 9 0 (nI 0)) 0 0 (nI 0)) 0 1 (nI 0)) 0 2 (nI 0)) 0 3 (nI 0)) 6 0 0) 4 0 (nI 0)) 5 0 (nI 0)) (k := 1) (by omega)) (cwV 0 hts gX4_134_X3_beginAnew rfl rfl rfl (by decide +kernel) ⟨Nat.le_of_ble_eq_true rfl, Nat.le_of_ble_eq_true rfl⟩) tm_Gok hK hP hD hA hG hS (va_recv hK hP (ci := 3) (q0 := 1 + 29) rfl (tm_at (i := 1 + 29) (by omega) (tc_Y (by omega)))) rfl hl.1 rfl rfl (Nat.le_of_ble_eq_true rfl) dX4_powerComes_31 ⟨Nat.le_of_ble_eq_true rfl, Nat.le_of_ble_eq_true rfl⟩ (fun H locs hP hD hS => ?_)
  refine lv_iinc (v := (nI 2)) (lv' := [(2, .int (nI 2)), (0, .ref (ad 0)), (1, .int n)]) hx hb dX4_powerComes_34 hl (k := 0) rfl (by decide) (by decide) rfl (fun ls hl => ?_)
  refine lv_goto (tgt := 20) hx hb dX4_powerComes_37 (by decide) ?_
  refine lv_iload_n hx hb dX4_powerComes_20 rfl (lv_at hl 0 rfl) ?_
  refine lv_iconst (v := (nI 3)) hx hb dX4_powerComes_21 (by decide) ?_
  refine lv_icmp_ge (tgt := 40) hx hb dX4_powerComes_22 (by decide) (fun c => absurd c (by decide)) (fun _ => ?_)
  refine lv_aload_n hx hb dX4_powerComes_25 rfl (lv_at hl 1 rfl) ?_
  refine tc_gT_sessions hx hb hts inB_X4 hown hK hP (hts _ mb_149) dX4_powerComes_26 ?_
  refine lv_iload_n hx hb dX4_powerComes_29 rfl (lv_at hl 0 rfl) ?_
  refine tc_a_sessions hx hb hK hP (by omega) dX4_powerComes_30 ?_
  refine kq_cV (st1 := []) ⟨hx, hb, hml, hown, hts⟩ (c_beginAnew (tm_I (tm_I (tm_L (tm_I (tm_I (tm_L (tm_I (tm_I (tm_I (tm_I (tm_I (tm_L (tm_L (tm_L (tm_L (tm_L (tm_L (tm_L (tm_L (tm_L (tm_L (tm_L (tm_L (tm_L (tm_L (tm_L (tm_L (tm_I (tm_I u 10 0 n) 11 0 (nI 0)) 1 (8 * 0 + 0) 0) 1 (8 * 0 + 1) 0) 1 (8 * 0 + 2) 0) 1 (8 * 0 + 3) 0) 1 (8 * 0 + 4) 0) 1 (8 * 0 + 5) 0) 1 (8 * 0 + 6) 0) 1 (8 * 0 + 7) 0) 1 (8 * 1 + 0) 0) 1 (8 * 1 + 1) 0) 1 (8 * 1 + 2) 0) 1 (8 * 1 + 3) 0) 1 (8 * 1 + 4) 0) 1 (8 * 1 + 5) 0) 1 (8 * 1 + 6) 0) 1 (8 * 1 + 7) 0) 9 0 (nI 0)) 0 0 (nI 0)) 0 1 (nI 0)) 0 2 (nI 0)) 0 3 (nI 0)) 6 0 0) 4 0 (nI 0)) 5 0 (nI 0)) 6 1 0) 4 1 (nI 0)) 5 1 (nI 0)) (k := 2) (by omega)) (cwV 0 hts gX4_134_X3_beginAnew rfl rfl rfl (by decide +kernel) ⟨Nat.le_of_ble_eq_true rfl, Nat.le_of_ble_eq_true rfl⟩) tm_Gok hK hP hD hA hG hS (va_recv hK hP (ci := 3) (q0 := 2 + 29) rfl (tm_at (i := 2 + 29) (by omega) (tc_Y (by omega)))) rfl hl.1 rfl rfl (Nat.le_of_ble_eq_true rfl) dX4_powerComes_31 ⟨Nat.le_of_ble_eq_true rfl, Nat.le_of_ble_eq_true rfl⟩ (fun H locs hP hD hS => ?_)
  refine lv_iinc (v := (nI 3)) (lv' := [(2, .int (nI 3)), (0, .ref (ad 0)), (1, .int n)]) hx hb dX4_powerComes_34 hl (k := 0) rfl (by decide) (by decide) rfl (fun ls hl => ?_)
  refine lv_goto (tgt := 20) hx hb dX4_powerComes_37 (by decide) ?_
  refine lv_iload_n hx hb dX4_powerComes_20 rfl (lv_at hl 0 rfl) ?_
  refine lv_iconst (v := (nI 3)) hx hb dX4_powerComes_21 (by decide) ?_
  refine lv_icmp_ge (tgt := 40) hx hb dX4_powerComes_22 (by decide) (fun _ => ?_) (fun c => absurd (by decide) c)
  refine lv_aload_n hx hb dX4_powerComes_40 rfl (lv_at hl 1 rfl) ?_
  refine tc_gT_seeds hx hb hts inB_X4 hown hK hP (hts _ mb_145) dX4_powerComes_41 ?_
  refine lv_iconst (v := (nI 2)) hx hb dX4_powerComes_44 (by decide) ?_
  refine lv_aload_n hx hb dX4_powerComes_45 rfl (lv_at hl 1 rfl) ?_
  refine tc_gT_seeds hx hb hts inB_X4 hown hK hP (hts _ mb_145) dX4_powerComes_46 ?_
  refine lv_iconst (v := (nI 2)) hx hb dX4_powerComes_49 (by decide) ?_
  refine tc_l_seed hx hb hK hP (by omega) dX4_powerComes_50 ?_
  refine kq_tl (y := (u.1 0 2)) (by simp [tm_L, tm_I, tm_D]) ?_
  refine lv_ldc2 hx hb hown (hts _ mb_144) dX4_powerComes_51 ?_
  refine kq_cS (st1 := [.long (tm_h (u.1 0 2) 5), .int (nI 2), .ref (ad 1)]) ⟨hx, hb, hml, hown, hts⟩ (c_hash (tm_I (tm_I (tm_L (tm_I (tm_I (tm_L (tm_I (tm_I (tm_L (tm_I (tm_I (tm_I (tm_I (tm_I (tm_L (tm_L (tm_L (tm_L (tm_L (tm_L (tm_L (tm_L (tm_L (tm_L (tm_L (tm_L (tm_L (tm_L (tm_L (tm_L (tm_I (tm_I u 10 0 n) 11 0 (nI 0)) 1 (8 * 0 + 0) 0) 1 (8 * 0 + 1) 0) 1 (8 * 0 + 2) 0) 1 (8 * 0 + 3) 0) 1 (8 * 0 + 4) 0) 1 (8 * 0 + 5) 0) 1 (8 * 0 + 6) 0) 1 (8 * 0 + 7) 0) 1 (8 * 1 + 0) 0) 1 (8 * 1 + 1) 0) 1 (8 * 1 + 2) 0) 1 (8 * 1 + 3) 0) 1 (8 * 1 + 4) 0) 1 (8 * 1 + 5) 0) 1 (8 * 1 + 6) 0) 1 (8 * 1 + 7) 0) 9 0 (nI 0)) 0 0 (nI 0)) 0 1 (nI 0)) 0 2 (nI 0)) 0 3 (nI 0)) 6 0 0) 4 0 (nI 0)) 5 0 (nI 0)) 6 1 0) 4 1 (nI 0)) 5 1 (nI 0)) 6 2 0) 4 2 (nI 0)) 5 2 (nI 0)) (u.1 0 2) 5) (va_cwS 2 hts gX4_42_X4_hash rfl rfl rfl (by decide +kernel) ⟨Nat.le_of_ble_eq_true rfl, Nat.le_of_ble_eq_true rfl⟩) tm_Gok hK hP hD hA hG hS rfl hl.1 rfl rfl (Nat.le_of_ble_eq_true rfl) dX4_powerComes_54 ⟨Nat.le_of_ble_eq_true rfl, Nat.le_of_ble_eq_true rfl⟩ (fun H locs hP hD hS => ?_)
  refine tc_t_seed hx hb hK hP hD hS (by omega) dX4_powerComes_57 (fun H locs hP hD hS => ?_)
  refine lv_aload_n hx hb dX4_powerComes_58 rfl (lv_at hl 1 rfl) ?_
  refine lv_aload_n hx hb dX4_powerComes_59 rfl (lv_at hl 1 rfl) ?_
  refine tc_gT_now hx hb hts inB_X4 hown hK hP (hts _ mb_158) dX4_powerComes_60 ?_
  refine kq_td (y := (u.2.2 1)) (by simp [tm_L, tm_I, tm_D]) ?_
  refine tc_pT_mark hx hb hts inB_X4 hown hK hP hD hS (hts _ mb_157) dX4_powerComes_63 (fun H locs hP hD hS => ?_)
  exact kq_vret hx hb hr hlk hP hD hS dX4_powerComes_66
set_option maxHeartbeats 4000000 in
set_option maxRecDepth 100000 in
theorem c_useParts_free (u : tm_S) (n : Int32) (h : u.2.1 10 0 = (-1)) : kc_M l dC dI gs ad cc yX4_useParts wsX4_useParts { frames := 6, cells := 0, slots := 0, locals := 82 } [.ref (ad 0), .int n] u u none := by
  refine kq_ofW (cc := cX4_useParts) (maxL := 2) (ret := none) (R0 := RX4) (by decide) rfl rfl (Nat.le_of_ble_eq_true rfl) ?_
  intro p e s m below meth c A ls hx hb hr hlk hml hown hts hP hK hD hA hG hS hl
  have hl : lv_has ls 2 [(0, .ref (ad 0)), (1, .int n)] := hl
  refine lv_aload_n hx hb dX4_useParts_0 rfl (lv_at hl 0 rfl) ?_
  refine tc_gT_powerLeft hx hb hts inB_X4 hown hK hP (hts _ mb_153) dX4_useParts_1 ?_
  refine lv_iconst (v := (-1)) hx hb dX4_useParts_4 (by decide) ?_
  refine lv_icmp_ne (tgt := 9) hx hb dX4_useParts_5 (by decide) (fun c => absurd h c) (fun _ => ?_)
  exact kq_vret hx hb hr hlk hP hD hS dX4_useParts_8
set_option maxHeartbeats 4000000 in
set_option maxRecDepth 100000 in
theorem c_useParts_ok (u : tm_S) (n : Int32) (h : ¬ u.2.1 10 0 = (-1)) (h2 : n ≤ u.2.1 10 0) : kc_M l dC dI gs ad cc yX4_useParts wsX4_useParts { frames := 6, cells := 0, slots := 0, locals := 82 } [.ref (ad 0), .int n] u (tm_I u 10 0 ((u.2.1 10 0) - n)) none := by
  refine kq_ofW (cc := cX4_useParts) (maxL := 2) (ret := none) (R0 := RX4) (by decide) rfl rfl (Nat.le_of_ble_eq_true rfl) ?_
  intro p e s m below meth c A ls hx hb hr hlk hml hown hts hP hK hD hA hG hS hl
  have hl : lv_has ls 2 [(0, .ref (ad 0)), (1, .int n)] := hl
  refine lv_aload_n hx hb dX4_useParts_0 rfl (lv_at hl 0 rfl) ?_
  refine tc_gT_powerLeft hx hb hts inB_X4 hown hK hP (hts _ mb_153) dX4_useParts_1 ?_
  refine lv_iconst (v := (-1)) hx hb dX4_useParts_4 (by decide) ?_
  refine lv_icmp_ne (tgt := 9) hx hb dX4_useParts_5 (by decide) (fun _ => ?_) (fun c => absurd c h)
  refine lv_aload_n hx hb dX4_useParts_9 rfl (lv_at hl 0 rfl) ?_
  refine tc_gT_powerLeft hx hb hts inB_X4 hown hK hP (hts _ mb_153) dX4_useParts_10 ?_
  refine lv_iload_n hx hb dX4_useParts_13 rfl (lv_at hl 1 rfl) ?_
  refine lv_icmp_ge (tgt := 48) hx hb dX4_useParts_14 (by decide) (fun _ => ?_) (fun c => absurd h2 c)
  refine lv_aload_n hx hb dX4_useParts_48 rfl (lv_at hl 0 rfl) ?_
  refine lv_aload_n hx hb dX4_useParts_49 rfl (lv_at hl 0 rfl) ?_
  refine tc_gT_powerLeft hx hb hts inB_X4 hown hK hP (hts _ mb_153) dX4_useParts_50 ?_
  refine lv_iload_n hx hb dX4_useParts_53 rfl (lv_at hl 1 rfl) ?_
  refine lv_isub hx hb dX4_useParts_54 ?_
  refine tc_pT_powerLeft hx hb hts inB_X4 hown hK hP hD hS (hts _ mb_153) dX4_useParts_55 (fun H locs hP hD hS => ?_)
  exact kq_vret hx hb hr hlk hP hD hS dX4_useParts_58
set_option maxHeartbeats 4000000 in
set_option maxRecDepth 100000 in
theorem c_useParts_no (hl9 : l.stackTraces = false) (u : tm_S) (n : Int32) (h : ¬ u.2.1 10 0 = (-1)) (h2 : ¬ n ≤ u.2.1 10 0) : kc_T l dC dI gs ad cc yX4_useParts wsX4_useParts { frames := 6, cells := 1, slots := 6, locals := 82 } [.ref (ad 0), .int n] u (tm_I (tm_I (tm_I u 10 0 (nI 0)) 11 0 (nI 1)) 12 0 ((u.2.1 12 0) + (nI 1))) "java/lang/IllegalStateException" := by
  refine kq_ofT (cc := cX4_useParts) (maxL := 2) (ret := none) (R0 := RX4) (by decide) rfl rfl (Nat.le_of_ble_eq_true rfl) ?_
  intro p e s m below meth c A ls hx hb hr hlk hml hown hts hP hK hD hA hG hS hl hEx
  have hl : lv_has ls 2 [(0, .ref (ad 0)), (1, .int n)] := hl
  refine lv_aload_n hx hb dX4_useParts_0 rfl (lv_at hl 0 rfl) ?_
  refine tc_gT_powerLeft hx hb hts inB_X4 hown hK hP (hts _ mb_153) dX4_useParts_1 ?_
  refine lv_iconst (v := (-1)) hx hb dX4_useParts_4 (by decide) ?_
  refine lv_icmp_ne (tgt := 9) hx hb dX4_useParts_5 (by decide) (fun _ => ?_) (fun c => absurd c h)
  refine lv_aload_n hx hb dX4_useParts_9 rfl (lv_at hl 0 rfl) ?_
  refine tc_gT_powerLeft hx hb hts inB_X4 hown hK hP (hts _ mb_153) dX4_useParts_10 ?_
  refine lv_iload_n hx hb dX4_useParts_13 rfl (lv_at hl 1 rfl) ?_
  refine lv_icmp_ge (tgt := 48) hx hb dX4_useParts_14 (by decide) (fun c => absurd c h2) (fun _ => ?_)
  refine lv_aload_n hx hb dX4_useParts_17 rfl (lv_at hl 0 rfl) ?_
  refine lv_iconst (v := (nI 0)) hx hb dX4_useParts_18 (by decide) ?_
  refine tc_pT_powerLeft hx hb hts inB_X4 hown hK hP hD hS (hts _ mb_153) dX4_useParts_19 (fun H locs hP hD hS => ?_)
  refine lv_aload_n hx hb dX4_useParts_22 rfl (lv_at hl 0 rfl) ?_
  refine lv_iconst (v := (nI 1)) hx hb dX4_useParts_23 (by decide) ?_
  refine tc_pT_lost hx hb hts inB_X4 hown hK hP hD hS (by first | rfl | decide) (by first | rfl | decide) (hts _ mb_154) dX4_useParts_24 (fun H locs hP hD hS => ?_)
  refine lv_aload_n hx hb dX4_useParts_27 rfl (lv_at hl 0 rfl) ?_
  refine lv_dup hx hb dX4_useParts_28 rfl ?_
  refine tc_gT_timesLost hx hb hts inB_X4 hown hK hP (hts _ mb_155) dX4_useParts_29 ?_
  refine kq_ti (y := (u.2.1 12 0)) (by simp [tm_L, tm_I, tm_D]) ?_
  refine lv_iconst (v := (nI 1)) hx hb dX4_useParts_32 (by decide) ?_
  refine lv_iadd hx hb dX4_useParts_33 ?_
  refine tc_pT_timesLost hx hb hts inB_X4 hown hK hP hD hS (hts _ mb_155) dX4_useParts_34 (fun H locs hP hD hS => ?_)
  exact tw_174 (w := true) (is := 291) hts hl9 hx hb hown (tm_Gs hG 291 "power was lost in the midst of the call" (by decide)) (hts _ mb_310) (hts _ mb_11) hG hS (by rw [hml]; exact hl.1) dX4_useParts_37 dX4_useParts_40 dX4_useParts_41 dX4_useParts_44 dX4_useParts_47 hEx (Nat.le_of_ble_eq_true rfl) (Nat.le_of_ble_eq_true rfl) (Nat.le_of_ble_eq_true rfl) (Nat.le_of_ble_eq_true rfl) hlk hP hD (Nat.le_of_ble_eq_true rfl) (Nat.le_of_ble_eq_true rfl)
set_option maxHeartbeats 4000000 in
set_option maxRecDepth 100000 in
theorem c_nextCounted (u : tm_S) : kc_M l dC dI gs ad cc yX4_nextCounted wsX4_nextCounted { frames := 0, cells := 0, slots := 0, locals := 0 } [.ref (ad 0)] u (tm_L u 9 0 ((u.1 9 0) + 1)) (some (.long ((u.1 9 0) + 1))) := by
  refine kq_ofW (cc := cX4_nextCounted) (maxL := 1) (ret := (some .long)) (R0 := RX4) (by decide) rfl rfl (Nat.le_of_ble_eq_true rfl) ?_
  intro p e s m below meth c A ls hx hb hr hlk hml hown hts hP hK hD hA hG hS hl
  have hl : lv_has ls 1 [(0, .ref (ad 0))] := hl
  refine lv_aload_n hx hb dX4_nextCounted_0 rfl (lv_at hl 0 rfl) ?_
  refine lv_dup hx hb dX4_nextCounted_1 rfl ?_
  refine tc_gT_greatestCounted hx hb hts inB_X4 hown hK hP (hts _ mb_152) dX4_nextCounted_2 ?_
  refine lv_lconst (v := 1) hx hb dX4_nextCounted_5 (by decide) ?_
  refine lv_ladd hx hb dX4_nextCounted_6 ?_
  refine tc_pT_greatestCounted hx hb hts inB_X4 hown hK hP hD hS (hts _ mb_152) dX4_nextCounted_7 (fun H locs hP hD hS => ?_)
  refine lv_aload_n hx hb dX4_nextCounted_10 rfl (lv_at hl 0 rfl) ?_
  refine tc_gT_greatestCounted hx hb hts inB_X4 hown hK hP (hts _ mb_152) dX4_nextCounted_11 ?_
  refine kq_tl (y := ((u.1 9 0) + 1)) (by simp [tm_L, tm_I, tm_D]) ?_
  exact kq_lret hx hb hr hlk hP hD hS dX4_nextCounted_14
set_option maxHeartbeats 4000000 in
set_option maxRecDepth 100000 in
theorem c_allowByWord_0 (u : tm_S) {k : Nat} (hk : k < 4) (wd : Int32) (h : u.2.1 1 k = 0) : kc_M l dC dI gs ad cc yX4_allowByWord wsX4_allowByWord { frames := 6, cells := 0, slots := 0, locals := 82 } [.ref (ad 0), .ref (ad (k + 9)), .int wd] u u none := by
  refine kq_ofW (cc := cX4_allowByWord) (maxL := 3) (ret := none) (R0 := RX4) (by decide) rfl rfl (Nat.le_of_ble_eq_true rfl) ?_
  intro p e s m below meth c A ls hx hb hr hlk hml hown hts hP hK hD hA hG hS hl
  have hl : lv_has ls 3 [(0, .ref (ad 0)), (1, .ref (ad (k + 9))), (2, .int wd)] := hl
  refine lv_aload_n hx hb dX4_allowByWord_0 rfl (lv_at hl 1 rfl) ?_
  refine tc_gK_word hx hb hts inB_X2 hown hK hP (by omega) (hts _ mb_49) dX4_allowByWord_1 ?_
  refine lv_if_ne (tgt := 8) hx hb dX4_allowByWord_4 (by decide) (fun c => absurd h c) (fun _ => ?_)
  exact kq_vret hx hb hr hlk hP hD hS dX4_allowByWord_7
set_option maxHeartbeats 4000000 in
set_option maxRecDepth 100000 in
theorem c_allowByWord_lock (hl9 : l.stackTraces = false) (u : tm_S) {k : Nat} (hk : k < 4) (wd : Int32) (h : ¬ u.2.1 1 k = 0) (h2 : ¬ u.2.1 13 0 < nI 3) : kc_T l dC dI gs ad cc yX4_allowByWord wsX4_allowByWord { frames := 6, cells := 1, slots := 6, locals := 82 } [.ref (ad 0), .ref (ad (k + 9)), .int wd] u u "java/lang/IllegalStateException" := by
  refine kq_ofT (cc := cX4_allowByWord) (maxL := 3) (ret := none) (R0 := RX4) (by decide) rfl rfl (Nat.le_of_ble_eq_true rfl) ?_
  intro p e s m below meth c A ls hx hb hr hlk hml hown hts hP hK hD hA hG hS hl hEx
  have hl : lv_has ls 3 [(0, .ref (ad 0)), (1, .ref (ad (k + 9))), (2, .int wd)] := hl
  refine lv_aload_n hx hb dX4_allowByWord_0 rfl (lv_at hl 1 rfl) ?_
  refine tc_gK_word hx hb hts inB_X2 hown hK hP (by omega) (hts _ mb_49) dX4_allowByWord_1 ?_
  refine lv_if_ne (tgt := 8) hx hb dX4_allowByWord_4 (by decide) (fun _ => ?_) (fun c => absurd c h)
  refine lv_aload_n hx hb dX4_allowByWord_8 rfl (lv_at hl 0 rfl) ?_
  refine tc_gT_wrongGuesses hx hb hts inB_X4 hown hK hP (hts _ mb_156) dX4_allowByWord_9 ?_
  refine lv_iconst (v := (nI 3)) hx hb dX4_allowByWord_12 (by decide) ?_
  refine lv_icmp_lt (tgt := 27) hx hb dX4_allowByWord_13 (by decide) (fun c => absurd c h2) (fun _ => ?_)
  exact tw_174 (w := true) (is := 299) hts hl9 hx hb hown (tm_Gs hG 299 "words are locked" (by decide)) (hts _ mb_310) (hts _ mb_11) hG hS (by rw [hml]; exact hl.1) dX4_allowByWord_16 dX4_allowByWord_19 dX4_allowByWord_20 dX4_allowByWord_23 dX4_allowByWord_26 hEx (Nat.le_of_ble_eq_true rfl) (Nat.le_of_ble_eq_true rfl) (Nat.le_of_ble_eq_true rfl) (Nat.le_of_ble_eq_true rfl) hlk hP hD (Nat.le_of_ble_eq_true rfl) (Nat.le_of_ble_eq_true rfl)
set_option maxHeartbeats 4000000 in
set_option maxRecDepth 100000 in
theorem c_allowByWord_ok (u : tm_S) {k : Nat} (hk : k < 4) (wd : Int32) (h : ¬ u.2.1 1 k = 0) (h2 : u.2.1 13 0 < nI 3) (h3 : u.2.1 1 k = wd) : kc_M l dC dI gs ad cc yX4_allowByWord wsX4_allowByWord { frames := 6, cells := 0, slots := 0, locals := 82 } [.ref (ad 0), .ref (ad (k + 9)), .int wd] u u none := by
  refine kq_ofW (cc := cX4_allowByWord) (maxL := 3) (ret := none) (R0 := RX4) (by decide) rfl rfl (Nat.le_of_ble_eq_true rfl) ?_
  intro p e s m below meth c A ls hx hb hr hlk hml hown hts hP hK hD hA hG hS hl
  have hl : lv_has ls 3 [(0, .ref (ad 0)), (1, .ref (ad (k + 9))), (2, .int wd)] := hl
  refine lv_aload_n hx hb dX4_allowByWord_0 rfl (lv_at hl 1 rfl) ?_
  refine tc_gK_word hx hb hts inB_X2 hown hK hP (by omega) (hts _ mb_49) dX4_allowByWord_1 ?_
  refine lv_if_ne (tgt := 8) hx hb dX4_allowByWord_4 (by decide) (fun _ => ?_) (fun c => absurd c h)
  refine lv_aload_n hx hb dX4_allowByWord_8 rfl (lv_at hl 0 rfl) ?_
  refine tc_gT_wrongGuesses hx hb hts inB_X4 hown hK hP (hts _ mb_156) dX4_allowByWord_9 ?_
  refine lv_iconst (v := (nI 3)) hx hb dX4_allowByWord_12 (by decide) ?_
  refine lv_icmp_lt (tgt := 27) hx hb dX4_allowByWord_13 (by decide) (fun _ => ?_) (fun c => absurd h2 c)
  refine lv_aload_n hx hb dX4_allowByWord_27 rfl (lv_at hl 1 rfl) ?_
  refine tc_gK_word hx hb hts inB_X2 hown hK hP (by omega) (hts _ mb_49) dX4_allowByWord_28 ?_
  refine lv_iload_n hx hb dX4_allowByWord_31 rfl (lv_at hl 2 rfl) ?_
  refine lv_icmp_eq (tgt := 64) hx hb dX4_allowByWord_32 (by decide) (fun _ => ?_) (fun c => absurd h3 c)
  exact kq_vret hx hb hr hlk hP hD hS dX4_allowByWord_64
set_option maxHeartbeats 4000000 in
set_option maxRecDepth 100000 in
theorem c_allowByWord_no (hl9 : l.stackTraces = false) (u : tm_S) {k : Nat} (hk : k < 4) (wd : Int32) (h : ¬ u.2.1 1 k = 0) (h2 : u.2.1 13 0 < nI 3) (h3 : ¬ u.2.1 1 k = wd) : kc_T l dC dI gs ad cc yX4_allowByWord wsX4_allowByWord { frames := 6, cells := 1, slots := 6, locals := 82 } [.ref (ad 0), .ref (ad (k + 9)), .int wd] u (tm_D (tm_I u 13 0 ((u.2.1 13 0) + (nI 1))) 0 (u.2.2 1)) "java/lang/UnsupportedOperationException" := by
  refine kq_ofT (cc := cX4_allowByWord) (maxL := 3) (ret := none) (R0 := RX4) (by decide) rfl rfl (Nat.le_of_ble_eq_true rfl) ?_
  intro p e s m below meth c A ls hx hb hr hlk hml hown hts hP hK hD hA hG hS hl hEx
  have hl : lv_has ls 3 [(0, .ref (ad 0)), (1, .ref (ad (k + 9))), (2, .int wd)] := hl
  refine lv_aload_n hx hb dX4_allowByWord_0 rfl (lv_at hl 1 rfl) ?_
  refine tc_gK_word hx hb hts inB_X2 hown hK hP (by omega) (hts _ mb_49) dX4_allowByWord_1 ?_
  refine lv_if_ne (tgt := 8) hx hb dX4_allowByWord_4 (by decide) (fun _ => ?_) (fun c => absurd c h)
  refine lv_aload_n hx hb dX4_allowByWord_8 rfl (lv_at hl 0 rfl) ?_
  refine tc_gT_wrongGuesses hx hb hts inB_X4 hown hK hP (hts _ mb_156) dX4_allowByWord_9 ?_
  refine lv_iconst (v := (nI 3)) hx hb dX4_allowByWord_12 (by decide) ?_
  refine lv_icmp_lt (tgt := 27) hx hb dX4_allowByWord_13 (by decide) (fun _ => ?_) (fun c => absurd h2 c)
  refine lv_aload_n hx hb dX4_allowByWord_27 rfl (lv_at hl 1 rfl) ?_
  refine tc_gK_word hx hb hts inB_X2 hown hK hP (by omega) (hts _ mb_49) dX4_allowByWord_28 ?_
  refine lv_iload_n hx hb dX4_allowByWord_31 rfl (lv_at hl 2 rfl) ?_
  refine lv_icmp_eq (tgt := 64) hx hb dX4_allowByWord_32 (by decide) (fun c => absurd c h3) (fun _ => ?_)
  refine lv_aload_n hx hb dX4_allowByWord_35 rfl (lv_at hl 0 rfl) ?_
  refine lv_dup hx hb dX4_allowByWord_36 rfl ?_
  refine tc_gT_wrongGuesses hx hb hts inB_X4 hown hK hP (hts _ mb_156) dX4_allowByWord_37 ?_
  refine lv_iconst (v := (nI 1)) hx hb dX4_allowByWord_40 (by decide) ?_
  refine lv_iadd hx hb dX4_allowByWord_41 ?_
  refine tc_pT_wrongGuesses hx hb hts inB_X4 hown hK hP hD hS (hts _ mb_156) dX4_allowByWord_42 (fun H locs hP hD hS => ?_)
  refine lv_aload_n hx hb dX4_allowByWord_45 rfl (lv_at hl 0 rfl) ?_
  refine lv_aload_n hx hb dX4_allowByWord_46 rfl (lv_at hl 0 rfl) ?_
  refine tc_gT_now hx hb hts inB_X4 hown hK hP (hts _ mb_158) dX4_allowByWord_47 ?_
  refine kq_td (y := (u.2.2 1)) (by simp [tm_L, tm_I, tm_D]) ?_
  refine tc_pT_mark hx hb hts inB_X4 hown hK hP hD hS (hts _ mb_157) dX4_allowByWord_50 (fun H locs hP hD hS => ?_)
  exact tw_156 (w := true) (is := 301) hts hl9 hx hb hown (tm_Gs hG 301 "the word is wrong" (by decide)) (hts _ mb_374) (hts _ mb_13) hG hS (by rw [hml]; exact hl.1) dX4_allowByWord_53 dX4_allowByWord_56 dX4_allowByWord_57 dX4_allowByWord_60 dX4_allowByWord_63 hEx (Nat.le_of_ble_eq_true rfl) (Nat.le_of_ble_eq_true rfl) (Nat.le_of_ble_eq_true rfl) (Nat.le_of_ble_eq_true rfl) hlk hP hD (Nat.le_of_ble_eq_true rfl) (Nat.le_of_ble_eq_true rfl)
set_option maxHeartbeats 4000000 in
set_option maxRecDepth 100000 in
theorem c_allowBySession_n1 (hl9 : l.stackTraces = false) (u : tm_S) {k : Nat} (hk : k < 3) (po : Int64) (h : po = 0) : kc_T l dC dI gs ad cc yX4_allowBySession wsX4_allowBySession { frames := 6, cells := 1, slots := 6, locals := 82 } [.ref (ad 0), .long po, .ref (ad (k + 29))] u u "java/lang/UnsupportedOperationException" := by
  refine kq_ofT (cc := cX4_allowBySession) (maxL := 4) (ret := none) (R0 := RX4) (by decide) rfl rfl (Nat.le_of_ble_eq_true rfl) ?_
  intro p e s m below meth c A ls hx hb hr hlk hml hown hts hP hK hD hA hG hS hl hEx
  have hl : lv_has ls 4 [(0, .ref (ad 0)), (1, .long po), (3, .ref (ad (k + 29)))] := hl
  refine lv_lload_n hx hb dX4_allowBySession_0 rfl (lv_at hl 1 rfl) ?_
  refine lv_lconst (v := 0) hx hb dX4_allowBySession_1 (by decide) ?_
  refine W.lcmp hx hb dX4_allowBySession_2 ?_
  refine lv_if_eq (tgt := 15) hx hb dX4_allowBySession_3 (by decide) (fun _ => ?_) (fun c => absurd (tm_cmp0.mpr h) c)
  exact tw_156 (w := true) (is := 303) hts hl9 hx hb hown (tm_Gs hG 303 "the session does not satisfy the policy" (by decide)) (hts _ mb_374) (hts _ mb_13) hG hS (by rw [hml]; exact hl.1) dX4_allowBySession_15 dX4_allowBySession_18 dX4_allowBySession_19 dX4_allowBySession_22 dX4_allowBySession_25 hEx (Nat.le_of_ble_eq_true rfl) (Nat.le_of_ble_eq_true rfl) (Nat.le_of_ble_eq_true rfl) (Nat.le_of_ble_eq_true rfl) hlk hP hD (Nat.le_of_ble_eq_true rfl) (Nat.le_of_ble_eq_true rfl)
set_option maxHeartbeats 4000000 in
set_option maxRecDepth 100000 in
theorem c_allowBySession_n2 (hl9 : l.stackTraces = false) (u : tm_S) {k : Nat} (hk : k < 3) (po : Int64) (h : ¬ po = 0) (h2 : ¬ u.1 6 k = po) : kc_T l dC dI gs ad cc yX4_allowBySession wsX4_allowBySession { frames := 6, cells := 1, slots := 6, locals := 82 } [.ref (ad 0), .long po, .ref (ad (k + 29))] u u "java/lang/UnsupportedOperationException" := by
  refine kq_ofT (cc := cX4_allowBySession) (maxL := 4) (ret := none) (R0 := RX4) (by decide) rfl rfl (Nat.le_of_ble_eq_true rfl) ?_
  intro p e s m below meth c A ls hx hb hr hlk hml hown hts hP hK hD hA hG hS hl hEx
  have hl : lv_has ls 4 [(0, .ref (ad 0)), (1, .long po), (3, .ref (ad (k + 29)))] := hl
  refine lv_lload_n hx hb dX4_allowBySession_0 rfl (lv_at hl 1 rfl) ?_
  refine lv_lconst (v := 0) hx hb dX4_allowBySession_1 (by decide) ?_
  refine W.lcmp hx hb dX4_allowBySession_2 ?_
  refine lv_if_eq (tgt := 15) hx hb dX4_allowBySession_3 (by decide) (fun c => absurd c (fun q => h (tm_cmp0.mp q))) (fun _ => ?_)
  refine lv_aload_n hx hb dX4_allowBySession_6 rfl (lv_at hl 2 rfl) ?_
  refine tc_gY_digest hx hb hts inB_X3 hown hK hP (by omega) (hts _ mb_90) dX4_allowBySession_7 ?_
  refine lv_lload_n hx hb dX4_allowBySession_10 rfl (lv_at hl 1 rfl) ?_
  refine W.lcmp hx hb dX4_allowBySession_11 ?_
  refine lv_if_eq (tgt := 26) hx hb dX4_allowBySession_12 (by decide) (fun c => absurd c (fun q => h2 (tm_cmp0.mp q))) (fun _ => ?_)
  exact tw_156 (w := true) (is := 303) hts hl9 hx hb hown (tm_Gs hG 303 "the session does not satisfy the policy" (by decide)) (hts _ mb_374) (hts _ mb_13) hG hS (by rw [hml]; exact hl.1) dX4_allowBySession_15 dX4_allowBySession_18 dX4_allowBySession_19 dX4_allowBySession_22 dX4_allowBySession_25 hEx (Nat.le_of_ble_eq_true rfl) (Nat.le_of_ble_eq_true rfl) (Nat.le_of_ble_eq_true rfl) (Nat.le_of_ble_eq_true rfl) hlk hP hD (Nat.le_of_ble_eq_true rfl) (Nat.le_of_ble_eq_true rfl)
set_option maxHeartbeats 4000000 in
set_option maxRecDepth 100000 in
theorem c_allowBySession_ok0 (u : tm_S) {k : Nat} (hk : k < 3) (po : Int64) (h : ¬ po = 0) (h2 : u.1 6 k = po) (h3 : u.2.1 4 k = 0) : kc_M l dC dI gs ad cc yX4_allowBySession wsX4_allowBySession { frames := 6, cells := 0, slots := 0, locals := 82 } [.ref (ad 0), .long po, .ref (ad (k + 29))] u u none := by
  refine kq_ofW (cc := cX4_allowBySession) (maxL := 4) (ret := none) (R0 := RX4) (by decide) rfl rfl (Nat.le_of_ble_eq_true rfl) ?_
  intro p e s m below meth c A ls hx hb hr hlk hml hown hts hP hK hD hA hG hS hl
  have hl : lv_has ls 4 [(0, .ref (ad 0)), (1, .long po), (3, .ref (ad (k + 29)))] := hl
  refine lv_lload_n hx hb dX4_allowBySession_0 rfl (lv_at hl 1 rfl) ?_
  refine lv_lconst (v := 0) hx hb dX4_allowBySession_1 (by decide) ?_
  refine W.lcmp hx hb dX4_allowBySession_2 ?_
  refine lv_if_eq (tgt := 15) hx hb dX4_allowBySession_3 (by decide) (fun c => absurd c (fun q => h (tm_cmp0.mp q))) (fun _ => ?_)
  refine lv_aload_n hx hb dX4_allowBySession_6 rfl (lv_at hl 2 rfl) ?_
  refine tc_gY_digest hx hb hts inB_X3 hown hK hP (by omega) (hts _ mb_90) dX4_allowBySession_7 ?_
  refine lv_lload_n hx hb dX4_allowBySession_10 rfl (lv_at hl 1 rfl) ?_
  refine W.lcmp hx hb dX4_allowBySession_11 ?_
  refine lv_if_eq (tgt := 26) hx hb dX4_allowBySession_12 (by decide) (fun _ => ?_) (fun c => absurd (tm_cmp0.mpr h2) c)
  refine lv_aload_n hx hb dX4_allowBySession_26 rfl (lv_at hl 2 rfl) ?_
  refine tc_gY_looked hx hb hts inB_X3 hown hK hP (by omega) (hts _ mb_92) dX4_allowBySession_27 ?_
  refine lv_if_eq (tgt := 55) hx hb dX4_allowBySession_30 (by decide) (fun _ => ?_) (fun c => absurd h3 c)
  exact kq_vret hx hb hr hlk hP hD hS dX4_allowBySession_55
set_option maxHeartbeats 4000000 in
set_option maxRecDepth 100000 in
theorem c_allowBySession_ok1 (u : tm_S) {k : Nat} (hk : k < 3) (po : Int64) (h : ¬ po = 0) (h2 : u.1 6 k = po) (h3 : ¬ u.2.1 4 k = 0) (h4 : u.2.1 5 k = u.2.1 9 0) : kc_M l dC dI gs ad cc yX4_allowBySession wsX4_allowBySession { frames := 6, cells := 0, slots := 0, locals := 82 } [.ref (ad 0), .long po, .ref (ad (k + 29))] u u none := by
  refine kq_ofW (cc := cX4_allowBySession) (maxL := 4) (ret := none) (R0 := RX4) (by decide) rfl rfl (Nat.le_of_ble_eq_true rfl) ?_
  intro p e s m below meth c A ls hx hb hr hlk hml hown hts hP hK hD hA hG hS hl
  have hl : lv_has ls 4 [(0, .ref (ad 0)), (1, .long po), (3, .ref (ad (k + 29)))] := hl
  refine lv_lload_n hx hb dX4_allowBySession_0 rfl (lv_at hl 1 rfl) ?_
  refine lv_lconst (v := 0) hx hb dX4_allowBySession_1 (by decide) ?_
  refine W.lcmp hx hb dX4_allowBySession_2 ?_
  refine lv_if_eq (tgt := 15) hx hb dX4_allowBySession_3 (by decide) (fun c => absurd c (fun q => h (tm_cmp0.mp q))) (fun _ => ?_)
  refine lv_aload_n hx hb dX4_allowBySession_6 rfl (lv_at hl 2 rfl) ?_
  refine tc_gY_digest hx hb hts inB_X3 hown hK hP (by omega) (hts _ mb_90) dX4_allowBySession_7 ?_
  refine lv_lload_n hx hb dX4_allowBySession_10 rfl (lv_at hl 1 rfl) ?_
  refine W.lcmp hx hb dX4_allowBySession_11 ?_
  refine lv_if_eq (tgt := 26) hx hb dX4_allowBySession_12 (by decide) (fun _ => ?_) (fun c => absurd (tm_cmp0.mpr h2) c)
  refine lv_aload_n hx hb dX4_allowBySession_26 rfl (lv_at hl 2 rfl) ?_
  refine tc_gY_looked hx hb hts inB_X3 hown hK hP (by omega) (hts _ mb_92) dX4_allowBySession_27 ?_
  refine lv_if_eq (tgt := 55) hx hb dX4_allowBySession_30 (by decide) (fun c => absurd c h3) (fun _ => ?_)
  refine lv_aload_n hx hb dX4_allowBySession_33 rfl (lv_at hl 2 rfl) ?_
  refine tc_gY_countSeen hx hb hts inB_X3 hown hK hP (by omega) (hts _ mb_94) dX4_allowBySession_34 ?_
  refine lv_aload_n hx hb dX4_allowBySession_37 rfl (lv_at hl 0 rfl) ?_
  refine tc_gT_pcrCount hx hb hts inB_X4 hown hK hP (hts _ mb_151) dX4_allowBySession_38 ?_
  refine lv_icmp_eq (tgt := 55) hx hb dX4_allowBySession_41 (by decide) (fun _ => ?_) (fun c => absurd h4 c)
  exact kq_vret hx hb hr hlk hP hD hS dX4_allowBySession_55
set_option maxHeartbeats 4000000 in
set_option maxRecDepth 100000 in
theorem c_allowBySession_ch (hl9 : l.stackTraces = false) (u : tm_S) {k : Nat} (hk : k < 3) (po : Int64) (h : ¬ po = 0) (h2 : u.1 6 k = po) (h3 : ¬ u.2.1 4 k = 0) (h4 : ¬ u.2.1 5 k = u.2.1 9 0) : kc_T l dC dI gs ad cc yX4_allowBySession wsX4_allowBySession { frames := 6, cells := 1, slots := 6, locals := 82 } [.ref (ad 0), .long po, .ref (ad (k + 29))] u u "java/lang/IllegalStateException" := by
  refine kq_ofT (cc := cX4_allowBySession) (maxL := 4) (ret := none) (R0 := RX4) (by decide) rfl rfl (Nat.le_of_ble_eq_true rfl) ?_
  intro p e s m below meth c A ls hx hb hr hlk hml hown hts hP hK hD hA hG hS hl hEx
  have hl : lv_has ls 4 [(0, .ref (ad 0)), (1, .long po), (3, .ref (ad (k + 29)))] := hl
  refine lv_lload_n hx hb dX4_allowBySession_0 rfl (lv_at hl 1 rfl) ?_
  refine lv_lconst (v := 0) hx hb dX4_allowBySession_1 (by decide) ?_
  refine W.lcmp hx hb dX4_allowBySession_2 ?_
  refine lv_if_eq (tgt := 15) hx hb dX4_allowBySession_3 (by decide) (fun c => absurd c (fun q => h (tm_cmp0.mp q))) (fun _ => ?_)
  refine lv_aload_n hx hb dX4_allowBySession_6 rfl (lv_at hl 2 rfl) ?_
  refine tc_gY_digest hx hb hts inB_X3 hown hK hP (by omega) (hts _ mb_90) dX4_allowBySession_7 ?_
  refine lv_lload_n hx hb dX4_allowBySession_10 rfl (lv_at hl 1 rfl) ?_
  refine W.lcmp hx hb dX4_allowBySession_11 ?_
  refine lv_if_eq (tgt := 26) hx hb dX4_allowBySession_12 (by decide) (fun _ => ?_) (fun c => absurd (tm_cmp0.mpr h2) c)
  refine lv_aload_n hx hb dX4_allowBySession_26 rfl (lv_at hl 2 rfl) ?_
  refine tc_gY_looked hx hb hts inB_X3 hown hK hP (by omega) (hts _ mb_92) dX4_allowBySession_27 ?_
  refine lv_if_eq (tgt := 55) hx hb dX4_allowBySession_30 (by decide) (fun c => absurd c h3) (fun _ => ?_)
  refine lv_aload_n hx hb dX4_allowBySession_33 rfl (lv_at hl 2 rfl) ?_
  refine tc_gY_countSeen hx hb hts inB_X3 hown hK hP (by omega) (hts _ mb_94) dX4_allowBySession_34 ?_
  refine lv_aload_n hx hb dX4_allowBySession_37 rfl (lv_at hl 0 rfl) ?_
  refine tc_gT_pcrCount hx hb hts inB_X4 hown hK hP (hts _ mb_151) dX4_allowBySession_38 ?_
  refine lv_icmp_eq (tgt := 55) hx hb dX4_allowBySession_41 (by decide) (fun c => absurd c h4) (fun _ => ?_)
  exact tw_174 (w := true) (is := 305) hts hl9 hx hb hown (tm_Gs hG 305 "the registers have changed" (by decide)) (hts _ mb_310) (hts _ mb_11) hG hS (by rw [hml]; exact hl.1) dX4_allowBySession_44 dX4_allowBySession_47 dX4_allowBySession_48 dX4_allowBySession_51 dX4_allowBySession_54 hEx (Nat.le_of_ble_eq_true rfl) (Nat.le_of_ble_eq_true rfl) (Nat.le_of_ble_eq_true rfl) (Nat.le_of_ble_eq_true rfl) hlk hP hD (Nat.le_of_ble_eq_true rfl) (Nat.le_of_ble_eq_true rfl)
end S12
