section S11
variable {l : Launch} {dC : Nat → ClassId} {dI : Nat → Nat → Nat} {gs : Nat → Nat} {ad : Nat → Nat} {cc : Nat → ClassId}
set_option maxHeartbeats 4000000 in
set_option maxRecDepth 100000 in
theorem c_hold (u : tm_S) {k : Nat} (hk : k < 4) (a : Int64) (wd : Int32) (po se : Int64) (pa : Int32) (hpa : pa = nI 0 ∨ pa = nI 1) : kc_M l dC dI gs ad cc yX2_hold wsX2_hold { frames := 0, cells := 0, slots := 0, locals := 0 } [.ref (ad (k + 9)), .long a, .int wd, .long po, .long se, .int pa] u (tm_I (tm_L (tm_L (tm_I (tm_L (tm_I u 0 k (nI 1)) 2 k a) 1 k wd) 3 k po) 4 k se) 2 k pa) none := by
  refine kq_ofW (cc := cX2_hold) (maxL := 9) (ret := none) (R0 := RX2) (by decide) rfl rfl (Nat.le_of_ble_eq_true rfl) ?_
  intro p e s m below meth c A ls hx hb hr hlk hml hown hts hP hK hD hA hG hS hl
  have hl : lv_has ls 9 [(0, .ref (ad (k + 9))), (1, .long a), (3, .int wd), (4, .long po), (6, .long se), (8, .int pa)] := hl
  refine lv_aload_n hx hb dX2_hold_0 rfl (lv_at hl 0 rfl) ?_
  refine lv_iconst (v := (nI 1)) hx hb dX2_hold_1 (by decide) ?_
  refine tc_pK_held hx hb hts inB_X2 hown hK hP hD hS (by omega) (by first | rfl | decide) (by first | rfl | decide) (hts _ mb_44) dX2_hold_2 (fun H locs hP hD hS => ?_)
  refine lv_aload_n hx hb dX2_hold_5 rfl (lv_at hl 0 rfl) ?_
  refine lv_lload_n hx hb dX2_hold_6 rfl (lv_at hl 1 rfl) ?_
  refine tc_pK_value hx hb hts inB_X2 hown hK hP hD hS (by omega) (hts _ mb_46) dX2_hold_7 (fun H locs hP hD hS => ?_)
  refine lv_aload_n hx hb dX2_hold_10 rfl (lv_at hl 0 rfl) ?_
  refine lv_iload_n hx hb dX2_hold_11 rfl (lv_at hl 2 rfl) ?_
  refine tc_pK_word hx hb hts inB_X2 hown hK hP hD hS (by omega) (hts _ mb_48) dX2_hold_12 (fun H locs hP hD hS => ?_)
  refine lv_aload_n hx hb dX2_hold_15 rfl (lv_at hl 0 rfl) ?_
  refine lv_lload hx hb dX2_hold_16 (lv_at hl 3 rfl) ?_
  refine tc_pK_policy hx hb hts inB_X2 hown hK hP hD hS (by omega) (hts _ mb_50) dX2_hold_18 (fun H locs hP hD hS => ?_)
  refine lv_aload_n hx hb dX2_hold_21 rfl (lv_at hl 0 rfl) ?_
  refine lv_lload hx hb dX2_hold_22 (lv_at hl 4 rfl) ?_
  refine tc_pK_secret hx hb hts inB_X2 hown hK hP hD hS (by omega) (hts _ mb_52) dX2_hold_24 (fun H locs hP hD hS => ?_)
  refine lv_aload_n hx hb dX2_hold_27 rfl (lv_at hl 0 rfl) ?_
  refine lv_iload hx hb dX2_hold_28 (lv_at hl 5 rfl) ?_
  refine tc_pK_parent hx hb hts inB_X2 hown hK hP hD hS (by omega) (tm_bn hpa) (tm_bf hpa) (hts _ mb_54) dX2_hold_30 (fun H locs hP hD hS => ?_)
  exact kq_vret hx hb hr hlk hP hD hS dX2_hold_33
set_option maxHeartbeats 4000000 in
set_option maxRecDepth 100000 in
theorem c_name (u : tm_S) {k : Nat} (hk : k < 4) : kc_M l dC dI gs ad cc yX2_name wsX2_name { frames := 1, cells := 0, slots := 0, locals := 25 } [.ref (ad (k + 9))] u u (some (.long (tm_h (tm_h (u.1 2 k) ((u.2.1 1 k).toInt64)) (tm_h (u.1 3 k) (u.1 4 k))))) := by
  refine kq_ofW (cc := cX2_name) (maxL := 1) (ret := (some .long)) (R0 := RX2) (by decide) rfl rfl (Nat.le_of_ble_eq_true rfl) ?_
  intro p e s m below meth c A ls hx hb hr hlk hml hown hts hP hK hD hA hG hS hl
  have hl : lv_has ls 1 [(0, .ref (ad (k + 9)))] := hl
  refine lv_aload_n hx hb dX2_name_0 rfl (lv_at hl 0 rfl) ?_
  refine tc_gK_value hx hb hts inB_X2 hown hK hP (by omega) (hts _ mb_46) dX2_name_1 ?_
  refine lv_aload_n hx hb dX2_name_4 rfl (lv_at hl 0 rfl) ?_
  refine tc_gK_word hx hb hts inB_X2 hown hK hP (by omega) (hts _ mb_48) dX2_name_5 ?_
  refine lv_i2l (v := (u.2.1 1 k).toInt64) hx hb dX2_name_8 rfl ?_
  refine kq_cSN (st1 := [.long (tm_h (u.1 2 k) ((u.2.1 1 k).toInt64))]) ⟨hx, hb, hml, hown, hts⟩ (c_hash u (u.1 2 k) ((u.2.1 1 k).toInt64)) ⟨va_cnB (host := "TrustModule") 2 hts gX2_30_X4_hash rfl rfl rfl (tm_GnX2 hG) (hts _ mb_1) (by decide +kernel) ⟨Nat.le_of_ble_eq_true rfl, Nat.le_of_ble_eq_true rfl⟩, hts _ mb_34, trivial⟩ tm_Gok hK hP hD hA hG hS rfl hl.1 rfl rfl (Nat.le_of_ble_eq_true rfl) dX2_name_9 ⟨Nat.le_of_ble_eq_true rfl, Nat.le_of_ble_eq_true rfl⟩ (fun H locs hP hD hS => ?_)
  refine lv_aload_n hx hb dX2_name_12 rfl (lv_at hl 0 rfl) ?_
  refine tc_gK_policy hx hb hts inB_X2 hown hK hP (by omega) (hts _ mb_50) dX2_name_13 ?_
  refine lv_aload_n hx hb dX2_name_16 rfl (lv_at hl 0 rfl) ?_
  refine tc_gK_secret hx hb hts inB_X2 hown hK hP (by omega) (hts _ mb_52) dX2_name_17 ?_
  refine kq_cSN (st1 := [.long (tm_h (u.1 3 k) (u.1 4 k)), .long (tm_h (u.1 2 k) ((u.2.1 1 k).toInt64))]) ⟨hx, hb, hml, hown, hts⟩ (c_hash u (u.1 3 k) (u.1 4 k)) ⟨va_cnB (host := "TrustModule") 2 hts gX2_30_X4_hash rfl rfl rfl (tm_GnX2 hG) (hts _ mb_1) (by decide +kernel) ⟨Nat.le_of_ble_eq_true rfl, Nat.le_of_ble_eq_true rfl⟩, hts _ mb_34, trivial⟩ tm_Gok hK hP hD hA hG hS rfl hl.1 rfl rfl (Nat.le_of_ble_eq_true rfl) dX2_name_20 ⟨Nat.le_of_ble_eq_true rfl, Nat.le_of_ble_eq_true rfl⟩ (fun H locs hP hD hS => ?_)
  refine kq_cSN (st1 := [.long (tm_h (tm_h (u.1 2 k) ((u.2.1 1 k).toInt64)) (tm_h (u.1 3 k) (u.1 4 k)))]) ⟨hx, hb, hml, hown, hts⟩ (c_hash u (tm_h (u.1 2 k) ((u.2.1 1 k).toInt64)) (tm_h (u.1 3 k) (u.1 4 k))) ⟨va_cnB (host := "TrustModule") 2 hts gX2_30_X4_hash rfl rfl rfl (tm_GnX2 hG) (hts _ mb_1) (by decide +kernel) ⟨Nat.le_of_ble_eq_true rfl, Nat.le_of_ble_eq_true rfl⟩, hts _ mb_34, trivial⟩ tm_Gok hK hP hD hA hG hS rfl hl.1 rfl rfl (Nat.le_of_ble_eq_true rfl) dX2_name_23 ⟨Nat.le_of_ble_eq_true rfl, Nat.le_of_ble_eq_true rfl⟩ (fun H locs hP hD hS => ?_)
  exact kq_lret hx hb hr hlk hP hD hS dX2_name_26
set_option maxHeartbeats 4000000 in
set_option maxRecDepth 100000 in
theorem c_sealUnder (u : tm_S) {k : Nat} (hk : k < 8) (pv : Int64) : kc_M l dC dI gs ad cc yX0_sealUnder wsX0_sealUnder { frames := 1, cells := 0, slots := 0, locals := 25 } [.ref (ad (k + 13)), .long pv] u u (some (.long (tm_h (tm_h pv 3) (tm_h (tm_h (u.1 5 (4 * k + 0)) (u.1 5 (4 * k + 1))) (u.1 5 (4 * k + 2)))))) := by
  refine kq_ofW (cc := cX0_sealUnder) (maxL := 3) (ret := (some .long)) (R0 := RX0) (by decide) rfl rfl (Nat.le_of_ble_eq_true rfl) ?_
  intro p e s m below meth c A ls hx hb hr hlk hml hown hts hP hK hD hA hG hS hl
  have hl : lv_has ls 3 [(0, .ref (ad (k + 13))), (1, .long pv)] := hl
  refine lv_lload_n hx hb dX0_sealUnder_0 rfl (lv_at hl 1 rfl) ?_
  refine lv_ldc2 hx hb hown (hts _ mb_400) dX0_sealUnder_1 ?_
  refine kq_cSN (st1 := [.long (tm_h pv 3)]) ⟨hx, hb, hml, hown, hts⟩ (c_hash u pv 3) ⟨va_cnB (host := "TrustModule") 2 hts gX0_19_X4_hash rfl rfl rfl (tm_GnX0 hG) (hts _ mb_1) (by decide +kernel) ⟨Nat.le_of_ble_eq_true rfl, Nat.le_of_ble_eq_true rfl⟩, hts _ mb_34, trivial⟩ tm_Gok hK hP hD hA hG hS rfl hl.1 rfl rfl (Nat.le_of_ble_eq_true rfl) dX0_sealUnder_4 ⟨Nat.le_of_ble_eq_true rfl, Nat.le_of_ble_eq_true rfl⟩ (fun H locs hP hD hS => ?_)
  refine lv_aload_n hx hb dX0_sealUnder_7 rfl (lv_at hl 0 rfl) ?_
  refine tc_gB_longs hx hb hts inB_X0 hown hK hP (by omega) (hts _ mb_77) dX0_sealUnder_8 ?_
  refine lv_iconst (v := (nI 0)) hx hb dX0_sealUnder_11 (by decide) ?_
  refine tc_l_blob hx hb hK hP (by omega) (by omega) dX0_sealUnder_12 ?_
  refine lv_aload_n hx hb dX0_sealUnder_13 rfl (lv_at hl 0 rfl) ?_
  refine tc_gB_longs hx hb hts inB_X0 hown hK hP (by omega) (hts _ mb_77) dX0_sealUnder_14 ?_
  refine lv_iconst (v := (nI 1)) hx hb dX0_sealUnder_17 (by decide) ?_
  refine tc_l_blob hx hb hK hP (by omega) (by omega) dX0_sealUnder_18 ?_
  refine kq_cSN (st1 := [.long (tm_h (u.1 5 (4 * k + 0)) (u.1 5 (4 * k + 1))), .long (tm_h pv 3)]) ⟨hx, hb, hml, hown, hts⟩ (c_hash u (u.1 5 (4 * k + 0)) (u.1 5 (4 * k + 1))) ⟨va_cnB (host := "TrustModule") 2 hts gX0_19_X4_hash rfl rfl rfl (tm_GnX0 hG) (hts _ mb_1) (by decide +kernel) ⟨Nat.le_of_ble_eq_true rfl, Nat.le_of_ble_eq_true rfl⟩, hts _ mb_34, trivial⟩ tm_Gok hK hP hD hA hG hS rfl hl.1 rfl rfl (Nat.le_of_ble_eq_true rfl) dX0_sealUnder_19 ⟨Nat.le_of_ble_eq_true rfl, Nat.le_of_ble_eq_true rfl⟩ (fun H locs hP hD hS => ?_)
  refine lv_aload_n hx hb dX0_sealUnder_22 rfl (lv_at hl 0 rfl) ?_
  refine tc_gB_longs hx hb hts inB_X0 hown hK hP (by omega) (hts _ mb_77) dX0_sealUnder_23 ?_
  refine lv_iconst (v := (nI 2)) hx hb dX0_sealUnder_26 (by decide) ?_
  refine tc_l_blob hx hb hK hP (by omega) (by omega) dX0_sealUnder_27 ?_
  refine kq_cSN (st1 := [.long (tm_h (tm_h (u.1 5 (4 * k + 0)) (u.1 5 (4 * k + 1))) (u.1 5 (4 * k + 2))), .long (tm_h pv 3)]) ⟨hx, hb, hml, hown, hts⟩ (c_hash u (tm_h (u.1 5 (4 * k + 0)) (u.1 5 (4 * k + 1))) (u.1 5 (4 * k + 2))) ⟨va_cnB (host := "TrustModule") 2 hts gX0_19_X4_hash rfl rfl rfl (tm_GnX0 hG) (hts _ mb_1) (by decide +kernel) ⟨Nat.le_of_ble_eq_true rfl, Nat.le_of_ble_eq_true rfl⟩, hts _ mb_34, trivial⟩ tm_Gok hK hP hD hA hG hS rfl hl.1 rfl rfl (Nat.le_of_ble_eq_true rfl) dX0_sealUnder_28 ⟨Nat.le_of_ble_eq_true rfl, Nat.le_of_ble_eq_true rfl⟩ (fun H locs hP hD hS => ?_)
  refine kq_cSN (st1 := [.long (tm_h (tm_h pv 3) (tm_h (tm_h (u.1 5 (4 * k + 0)) (u.1 5 (4 * k + 1))) (u.1 5 (4 * k + 2))))]) ⟨hx, hb, hml, hown, hts⟩ (c_hash u (tm_h pv 3) (tm_h (tm_h (u.1 5 (4 * k + 0)) (u.1 5 (4 * k + 1))) (u.1 5 (4 * k + 2)))) ⟨va_cnB (host := "TrustModule") 2 hts gX0_19_X4_hash rfl rfl rfl (tm_GnX0 hG) (hts _ mb_1) (by decide +kernel) ⟨Nat.le_of_ble_eq_true rfl, Nat.le_of_ble_eq_true rfl⟩, hts _ mb_34, trivial⟩ tm_Gok hK hP hD hA hG hS rfl hl.1 rfl rfl (Nat.le_of_ble_eq_true rfl) dX0_sealUnder_31 ⟨Nat.le_of_ble_eq_true rfl, Nat.le_of_ble_eq_true rfl⟩ (fun H locs hP hD hS => ?_)
  exact kq_lret hx hb hr hlk hP hD hS dX0_sealUnder_34
set_option maxHeartbeats 4000000 in
set_option maxRecDepth 100000 in
theorem c_secretUnder (u : tm_S) {k : Nat} (hk : k < 8) (pv : Int64) : kc_M l dC dI gs ad cc yX0_secretUnder wsX0_secretUnder { frames := 1, cells := 0, slots := 0, locals := 25 } [.ref (ad (k + 13)), .long pv] u u (some (.long ((u.1 5 (4 * k + 0)) ^^^ (tm_h pv 1)))) := by
  refine kq_ofW (cc := cX0_secretUnder) (maxL := 3) (ret := (some .long)) (R0 := RX0) (by decide) rfl rfl (Nat.le_of_ble_eq_true rfl) ?_
  intro p e s m below meth c A ls hx hb hr hlk hml hown hts hP hK hD hA hG hS hl
  have hl : lv_has ls 3 [(0, .ref (ad (k + 13))), (1, .long pv)] := hl
  refine lv_aload_n hx hb dX0_secretUnder_0 rfl (lv_at hl 0 rfl) ?_
  refine tc_gB_longs hx hb hts inB_X0 hown hK hP (by omega) (hts _ mb_77) dX0_secretUnder_1 ?_
  refine lv_iconst (v := (nI 0)) hx hb dX0_secretUnder_4 (by decide) ?_
  refine tc_l_blob hx hb hK hP (by omega) (by omega) dX0_secretUnder_5 ?_
  refine lv_lload_n hx hb dX0_secretUnder_6 rfl (lv_at hl 1 rfl) ?_
  refine lv_lconst (v := 1) hx hb dX0_secretUnder_7 (by decide) ?_
  refine kq_cSN (st1 := [.long (tm_h pv 1), .long (u.1 5 (4 * k + 0))]) ⟨hx, hb, hml, hown, hts⟩ (c_hash u pv 1) ⟨va_cnB (host := "TrustModule") 2 hts gX0_19_X4_hash rfl rfl rfl (tm_GnX0 hG) (hts _ mb_1) (by decide +kernel) ⟨Nat.le_of_ble_eq_true rfl, Nat.le_of_ble_eq_true rfl⟩, hts _ mb_34, trivial⟩ tm_Gok hK hP hD hA hG hS rfl hl.1 rfl rfl (Nat.le_of_ble_eq_true rfl) dX0_secretUnder_8 ⟨Nat.le_of_ble_eq_true rfl, Nat.le_of_ble_eq_true rfl⟩ (fun H locs hP hD hS => ?_)
  refine lv_lxor hx hb dX0_secretUnder_11 ?_
  exact kq_lret hx hb hr hlk hP hD hS dX0_secretUnder_12
set_option maxHeartbeats 4000000 in
set_option maxRecDepth 100000 in
theorem c_wordUnder (u : tm_S) {k : Nat} (hk : k < 8) (pv : Int64) : kc_M l dC dI gs ad cc yX0_wordUnder wsX0_wordUnder { frames := 1, cells := 0, slots := 0, locals := 25 } [.ref (ad (k + 13)), .long pv] u u (some (.int (((u.1 5 (4 * k + 1)) ^^^ (tm_h pv 2)).toInt32))) := by
  refine kq_ofW (cc := cX0_wordUnder) (maxL := 3) (ret := (some .int)) (R0 := RX0) (by decide) rfl rfl (Nat.le_of_ble_eq_true rfl) ?_
  intro p e s m below meth c A ls hx hb hr hlk hml hown hts hP hK hD hA hG hS hl
  have hl : lv_has ls 3 [(0, .ref (ad (k + 13))), (1, .long pv)] := hl
  refine lv_aload_n hx hb dX0_wordUnder_0 rfl (lv_at hl 0 rfl) ?_
  refine tc_gB_longs hx hb hts inB_X0 hown hK hP (by omega) (hts _ mb_77) dX0_wordUnder_1 ?_
  refine lv_iconst (v := (nI 1)) hx hb dX0_wordUnder_4 (by decide) ?_
  refine tc_l_blob hx hb hK hP (by omega) (by omega) dX0_wordUnder_5 ?_
  refine lv_lload_n hx hb dX0_wordUnder_6 rfl (lv_at hl 1 rfl) ?_
  refine lv_ldc2 hx hb hown (hts _ mb_395) dX0_wordUnder_7 ?_
  refine kq_cSN (st1 := [.long (tm_h pv 2), .long (u.1 5 (4 * k + 1))]) ⟨hx, hb, hml, hown, hts⟩ (c_hash u pv 2) ⟨va_cnB (host := "TrustModule") 2 hts gX0_19_X4_hash rfl rfl rfl (tm_GnX0 hG) (hts _ mb_1) (by decide +kernel) ⟨Nat.le_of_ble_eq_true rfl, Nat.le_of_ble_eq_true rfl⟩, hts _ mb_34, trivial⟩ tm_Gok hK hP hD hA hG hS rfl hl.1 rfl rfl (Nat.le_of_ble_eq_true rfl) dX0_wordUnder_10 ⟨Nat.le_of_ble_eq_true rfl, Nat.le_of_ble_eq_true rfl⟩ (fun H locs hP hD hS => ?_)
  refine lv_lxor hx hb dX0_wordUnder_13 ?_
  refine lv_l2i (v := ((u.1 5 (4 * k + 1)) ^^^ (tm_h pv 2)).toInt32) hx hb dX0_wordUnder_14 rfl ?_
  exact kq_iret hx hb hr hlk hP hD hS dX0_wordUnder_15
set_option maxHeartbeats 4000000 in
set_option maxRecDepth 100000 in
theorem c_wrap (u : tm_S) {k : Nat} (hk : k < 8) (pv se : Int64) (wd : Int32) (po : Int64) : kc_M l dC dI gs ad cc yX0_wrap wsX0_wrap { frames := 2, cells := 0, slots := 0, locals := 47 } [.ref (ad (k + 13)), .long pv, .long se, .int wd, .long po] u (tm_L (tm_L (tm_L (tm_L (tm_I u 3 k (nI 1)) 5 (4 * k + 0) (se ^^^ (tm_h pv 1))) 5 (4 * k + 1) ((wd.toInt64) ^^^ (tm_h pv 2))) 5 (4 * k + 2) po) 5 (4 * k + 3) (tm_h (tm_h pv 3) (tm_h (tm_h ((tm_L (tm_L (tm_L (tm_I u 3 k (nI 1)) 5 (4 * k + 0) (se ^^^ (tm_h pv 1))) 5 (4 * k + 1) ((wd.toInt64) ^^^ (tm_h pv 2))) 5 (4 * k + 2) po).1 5 (4 * k + 0)) ((tm_L (tm_L (tm_L (tm_I u 3 k (nI 1)) 5 (4 * k + 0) (se ^^^ (tm_h pv 1))) 5 (4 * k + 1) ((wd.toInt64) ^^^ (tm_h pv 2))) 5 (4 * k + 2) po).1 5 (4 * k + 1))) ((tm_L (tm_L (tm_L (tm_I u 3 k (nI 1)) 5 (4 * k + 0) (se ^^^ (tm_h pv 1))) 5 (4 * k + 1) ((wd.toInt64) ^^^ (tm_h pv 2))) 5 (4 * k + 2) po).1 5 (4 * k + 2))))) none := by
  refine kq_ofW (cc := cX0_wrap) (maxL := 8) (ret := none) (R0 := RX0) (by decide) rfl rfl (Nat.le_of_ble_eq_true rfl) ?_
  intro p e s m below meth c A ls hx hb hr hlk hml hown hts hP hK hD hA hG hS hl
  have hl : lv_has ls 8 [(0, .ref (ad (k + 13))), (1, .long pv), (3, .long se), (5, .int wd), (6, .long po)] := hl
  refine lv_aload_n hx hb dX0_wrap_0 rfl (lv_at hl 0 rfl) ?_
  refine lv_iconst (v := (nI 1)) hx hb dX0_wrap_1 (by decide) ?_
  refine tc_pB_made hx hb hts inB_X0 hown hK hP hD hS (by omega) (by first | rfl | decide) (by first | rfl | decide) (hts _ mb_75) dX0_wrap_2 (fun H locs hP hD hS => ?_)
  refine lv_aload_n hx hb dX0_wrap_5 rfl (lv_at hl 0 rfl) ?_
  refine tc_gB_longs hx hb hts inB_X0 hown hK hP (by omega) (hts _ mb_77) dX0_wrap_6 ?_
  refine lv_iconst (v := (nI 0)) hx hb dX0_wrap_9 (by decide) ?_
  refine lv_lload_n hx hb dX0_wrap_10 rfl (lv_at hl 2 rfl) ?_
  refine lv_lload_n hx hb dX0_wrap_11 rfl (lv_at hl 1 rfl) ?_
  refine lv_lconst (v := 1) hx hb dX0_wrap_12 (by decide) ?_
  refine kq_cSN (st1 := [.long (tm_h pv 1), .long se, .int (nI 0), .ref (ad (k + 21))]) ⟨hx, hb, hml, hown, hts⟩ (c_hash (tm_I u 3 k (nI 1)) pv 1) ⟨va_cnB (host := "TrustModule") 2 hts gX0_19_X4_hash rfl rfl rfl (tm_GnX0 hG) (hts _ mb_1) (by decide +kernel) ⟨Nat.le_of_ble_eq_true rfl, Nat.le_of_ble_eq_true rfl⟩, hts _ mb_34, trivial⟩ tm_Gok hK hP hD hA hG hS rfl hl.1 rfl rfl (Nat.le_of_ble_eq_true rfl) dX0_wrap_13 ⟨Nat.le_of_ble_eq_true rfl, Nat.le_of_ble_eq_true rfl⟩ (fun H locs hP hD hS => ?_)
  refine lv_lxor hx hb dX0_wrap_16 ?_
  refine tc_t_blob hx hb hK hP hD hS (by omega) (by omega) dX0_wrap_17 (fun H locs hP hD hS => ?_)
  refine lv_aload_n hx hb dX0_wrap_18 rfl (lv_at hl 0 rfl) ?_
  refine tc_gB_longs hx hb hts inB_X0 hown hK hP (by omega) (hts _ mb_77) dX0_wrap_19 ?_
  refine lv_iconst (v := (nI 1)) hx hb dX0_wrap_22 (by decide) ?_
  refine lv_iload hx hb dX0_wrap_23 (lv_at hl 3 rfl) ?_
  refine lv_i2l (v := wd.toInt64) hx hb dX0_wrap_25 rfl ?_
  refine lv_lload_n hx hb dX0_wrap_26 rfl (lv_at hl 1 rfl) ?_
  refine lv_ldc2 hx hb hown (hts _ mb_395) dX0_wrap_27 ?_
  refine kq_cSN (st1 := [.long (tm_h pv 2), .long (wd.toInt64), .int (nI 1), .ref (ad (k + 21))]) ⟨hx, hb, hml, hown, hts⟩ (c_hash (tm_L (tm_I u 3 k (nI 1)) 5 (4 * k + 0) (se ^^^ (tm_h pv 1))) pv 2) ⟨va_cnB (host := "TrustModule") 2 hts gX0_19_X4_hash rfl rfl rfl (tm_GnX0 hG) (hts _ mb_1) (by decide +kernel) ⟨Nat.le_of_ble_eq_true rfl, Nat.le_of_ble_eq_true rfl⟩, hts _ mb_34, trivial⟩ tm_Gok hK hP hD hA hG hS rfl hl.1 rfl rfl (Nat.le_of_ble_eq_true rfl) dX0_wrap_30 ⟨Nat.le_of_ble_eq_true rfl, Nat.le_of_ble_eq_true rfl⟩ (fun H locs hP hD hS => ?_)
  refine lv_lxor hx hb dX0_wrap_33 ?_
  refine tc_t_blob hx hb hK hP hD hS (by omega) (by omega) dX0_wrap_34 (fun H locs hP hD hS => ?_)
  refine lv_aload_n hx hb dX0_wrap_35 rfl (lv_at hl 0 rfl) ?_
  refine tc_gB_longs hx hb hts inB_X0 hown hK hP (by omega) (hts _ mb_77) dX0_wrap_36 ?_
  refine lv_iconst (v := (nI 2)) hx hb dX0_wrap_39 (by decide) ?_
  refine lv_lload hx hb dX0_wrap_40 (lv_at hl 4 rfl) ?_
  refine tc_t_blob hx hb hK hP hD hS (by omega) (by omega) dX0_wrap_42 (fun H locs hP hD hS => ?_)
  refine lv_aload_n hx hb dX0_wrap_43 rfl (lv_at hl 0 rfl) ?_
  refine tc_gB_longs hx hb hts inB_X0 hown hK hP (by omega) (hts _ mb_77) dX0_wrap_44 ?_
  refine lv_iconst (v := (nI 3)) hx hb dX0_wrap_47 (by decide) ?_
  refine lv_aload_n hx hb dX0_wrap_48 rfl (lv_at hl 0 rfl) ?_
  refine lv_lload_n hx hb dX0_wrap_49 rfl (lv_at hl 1 rfl) ?_
  refine kq_cV (st1 := [.long (tm_h (tm_h pv 3) (tm_h (tm_h ((tm_L (tm_L (tm_L (tm_I u 3 k (nI 1)) 5 (4 * k + 0) (se ^^^ (tm_h pv 1))) 5 (4 * k + 1) ((wd.toInt64) ^^^ (tm_h pv 2))) 5 (4 * k + 2) po).1 5 (4 * k + 0)) ((tm_L (tm_L (tm_L (tm_I u 3 k (nI 1)) 5 (4 * k + 0) (se ^^^ (tm_h pv 1))) 5 (4 * k + 1) ((wd.toInt64) ^^^ (tm_h pv 2))) 5 (4 * k + 2) po).1 5 (4 * k + 1))) ((tm_L (tm_L (tm_L (tm_I u 3 k (nI 1)) 5 (4 * k + 0) (se ^^^ (tm_h pv 1))) 5 (4 * k + 1) ((wd.toInt64) ^^^ (tm_h pv 2))) 5 (4 * k + 2) po).1 5 (4 * k + 2)))), .int (nI 3), .ref (ad (k + 21))]) ⟨hx, hb, hml, hown, hts⟩ (c_sealUnder (tm_L (tm_L (tm_L (tm_I u 3 k (nI 1)) 5 (4 * k + 0) (se ^^^ (tm_h pv 1))) 5 (4 * k + 1) ((wd.toInt64) ^^^ (tm_h pv 2))) 5 (4 * k + 2) po) (k := k) (by omega) pv) (cwV 1 hts gX0_25_X0_sealUnder rfl rfl rfl (by decide +kernel) ⟨Nat.le_of_ble_eq_true rfl, Nat.le_of_ble_eq_true rfl⟩) tm_Gok hK hP hD hA hG hS (va_recv hK hP (ci := 0) (q0 := k + 13) rfl (tm_at (i := k + 13) (by omega) (tc_B (by omega)))) rfl hl.1 rfl rfl (Nat.le_of_ble_eq_true rfl) dX0_wrap_50 ⟨Nat.le_of_ble_eq_true rfl, Nat.le_of_ble_eq_true rfl⟩ (fun H locs hP hD hS => ?_)
  refine tc_t_blob hx hb hK hP hD hS (by omega) (by omega) dX0_wrap_53 (fun H locs hP hD hS => ?_)
  exact kq_vret hx hb hr hlk hP hD hS dX0_wrap_54
set_option maxHeartbeats 4000000 in
set_option maxRecDepth 100000 in
theorem c_beginAnew (u : tm_S) {k : Nat} (hk : k < 3) : kc_M l dC dI gs ad cc yX3_beginAnew wsX3_beginAnew { frames := 0, cells := 0, slots := 0, locals := 0 } [.ref (ad (k + 29))] u (tm_I (tm_I (tm_L u 6 k 0) 4 k (nI 0)) 5 k (nI 0)) none := by
  refine kq_ofW (cc := cX3_beginAnew) (maxL := 1) (ret := none) (R0 := RX3) (by decide) rfl rfl (Nat.le_of_ble_eq_true rfl) ?_
  intro p e s m below meth c A ls hx hb hr hlk hml hown hts hP hK hD hA hG hS hl
  have hl : lv_has ls 1 [(0, .ref (ad (k + 29)))] := hl
  refine lv_aload_n hx hb dX3_beginAnew_0 rfl (lv_at hl 0 rfl) ?_
  refine lv_lconst (v := 0) hx hb dX3_beginAnew_1 (by decide) ?_
  refine tc_pY_digest hx hb hts inB_X3 hown hK hP hD hS (by omega) (hts _ mb_89) dX3_beginAnew_2 (fun H locs hP hD hS => ?_)
  refine lv_aload_n hx hb dX3_beginAnew_5 rfl (lv_at hl 0 rfl) ?_
  refine lv_iconst (v := (nI 0)) hx hb dX3_beginAnew_6 (by decide) ?_
  refine tc_pY_looked hx hb hts inB_X3 hown hK hP hD hS (by omega) (by first | rfl | decide) (by first | rfl | decide) (hts _ mb_91) dX3_beginAnew_7 (fun H locs hP hD hS => ?_)
  refine lv_aload_n hx hb dX3_beginAnew_10 rfl (lv_at hl 0 rfl) ?_
  refine lv_iconst (v := (nI 0)) hx hb dX3_beginAnew_11 (by decide) ?_
  refine tc_pY_countSeen hx hb hts inB_X3 hown hK hP hD hS (by omega) (hts _ mb_93) dX3_beginAnew_12 (fun H locs hP hD hS => ?_)
  exact kq_vret hx hb hr hlk hP hD hS dX3_beginAnew_15
set_option maxHeartbeats 4000000 in
set_option maxRecDepth 100000 in
theorem c_begin (u : tm_S) {k : Nat} (hk : k < 4) (co : Int32) (po : Int64) (hco : co = nI 0 ∨ co = nI 1) : kc_M l dC dI gs ad cc yX1_begin wsX1_begin { frames := 0, cells := 0, slots := 0, locals := 0 } [.ref (ad (k + 32)), .int co, .long po] u (tm_L (tm_I (tm_L (tm_I (tm_I u 6 k (nI 1)) 7 k co) 7 k po) 8 k (nI 0)) 8 k 0) none := by
  refine kq_ofW (cc := cX1_begin) (maxL := 4) (ret := none) (R0 := RX1) (by decide) rfl rfl (Nat.le_of_ble_eq_true rfl) ?_
  intro p e s m below meth c A ls hx hb hr hlk hml hown hts hP hK hD hA hG hS hl
  have hl : lv_has ls 4 [(0, .ref (ad (k + 32))), (1, .int co), (2, .long po)] := hl
  refine lv_aload_n hx hb dX1_begin_0 rfl (lv_at hl 0 rfl) ?_
  refine lv_iconst (v := (nI 1)) hx hb dX1_begin_1 (by decide) ?_
  refine tc_pX_defined hx hb hts inB_X1 hown hK hP hD hS (by omega) (by first | rfl | decide) (by first | rfl | decide) (hts _ mb_107) dX1_begin_2 (fun H locs hP hD hS => ?_)
  refine lv_aload_n hx hb dX1_begin_5 rfl (lv_at hl 0 rfl) ?_
  refine lv_iload_n hx hb dX1_begin_6 rfl (lv_at hl 1 rfl) ?_
  refine tc_pX_counter hx hb hts inB_X1 hown hK hP hD hS (by omega) (tm_bn hco) (tm_bf hco) (hts _ mb_109) dX1_begin_7 (fun H locs hP hD hS => ?_)
  refine lv_aload_n hx hb dX1_begin_10 rfl (lv_at hl 0 rfl) ?_
  refine lv_lload_n hx hb dX1_begin_11 rfl (lv_at hl 2 rfl) ?_
  refine tc_pX_policy hx hb hts inB_X1 hown hK hP hD hS (by omega) (hts _ mb_111) dX1_begin_12 (fun H locs hP hD hS => ?_)
  refine lv_aload_n hx hb dX1_begin_15 rfl (lv_at hl 0 rfl) ?_
  refine lv_iconst (v := (nI 0)) hx hb dX1_begin_16 (by decide) ?_
  refine tc_pX_written hx hb hts inB_X1 hown hK hP hD hS (by omega) (by first | rfl | decide) (by first | rfl | decide) (hts _ mb_113) dX1_begin_17 (fun H locs hP hD hS => ?_)
  refine lv_aload_n hx hb dX1_begin_20 rfl (lv_at hl 0 rfl) ?_
  refine lv_lconst (v := 0) hx hb dX1_begin_21 (by decide) ?_
  refine tc_pX_value hx hb hts inB_X1 hown hK hP hD hS (by omega) (hts _ mb_115) dX1_begin_22 (fun H locs hP hD hS => ?_)
  exact kq_vret hx hb hr hlk hP hD hS dX1_begin_25
end S11
