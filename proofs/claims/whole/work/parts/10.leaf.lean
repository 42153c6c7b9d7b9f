section S10
variable {l : Launch} {dC : Nat → ClassId} {dI : Nat → Nat → Nat} {gs : Nat → Nat} {ad : Nat → Nat} {cc : Nat → ClassId}
set_option maxHeartbeats 4000000 in
set_option maxRecDepth 100000 in
theorem c_hash0 (u : tm_S) (a b : Int64) : kc_M l dC dI gs ad cc yX4_hash wsX4_hash { frames := 0, cells := 0, slots := 0, locals := 0 } [.long a, .long b] u u (some (.long ((((((a * 1000003) + b) * (-7046029254386353131)) ^^^ (((((a * 1000003) + b) * (-7046029254386353131)).toUInt64 >>> ((nI 29).toInt64.toUInt64 &&& Int64.toUInt64 63)).toInt64)) * 31) ^^^ (((((((a * 1000003) + b) * (-7046029254386353131)) ^^^ (((((a * 1000003) + b) * (-7046029254386353131)).toUInt64 >>> ((nI 29).toInt64.toUInt64 &&& Int64.toUInt64 63)).toInt64)) * 31).toUInt64 >>> ((nI 32).toInt64.toUInt64 &&& Int64.toUInt64 63)).toInt64)))) := by
  refine kq_ofW (cc := cX4_hash) (maxL := 6) (ret := (some .long)) (R0 := RX4) (by decide) rfl rfl (Nat.le_of_ble_eq_true rfl) ?_
  intro p e s m below meth c A ls hx hb hr hlk hml hown hts hP hK hD hA hG hS hl
  have hl : lv_has ls 6 [(0, .long a), (2, .long b)] := hl
  refine lv_lload_n hx hb dX4_hash_0 rfl (lv_at hl 0 rfl) ?_
  refine lv_ldc2 hx hb hown (hts _ mb_36) dX4_hash_1 ?_
  refine lv_lmul hx hb dX4_hash_4 ?_
  refine lv_lload_n hx hb dX4_hash_5 rfl (lv_at hl 1 rfl) ?_
  refine lv_ladd hx hb dX4_hash_6 ?_
  refine lv_ldc2 hx hb hown (hts _ mb_37) dX4_hash_7 ?_
  refine lv_lmul hx hb dX4_hash_10 ?_
  refine lv_lstore (lv' := [(4, .long (((a * 1000003) + b) * (-7046029254386353131))), (0, .long a), (2, .long b)]) hx hb dX4_hash_11 hl (by decide) rfl (fun ls hl => ?_)
  refine lv_lload hx hb dX4_hash_13 (lv_at hl 0 rfl) ?_
  refine lv_lload hx hb dX4_hash_15 (lv_at hl 0 rfl) ?_
  refine lv_bipush (v := (nI 29)) hx hb dX4_hash_17 (by decide) ?_
  refine lv_lushr (v := ((((a * 1000003) + b) * (-7046029254386353131)).toUInt64 >>> ((nI 29).toInt64.toUInt64 &&& Int64.toUInt64 63)).toInt64) hx hb dX4_hash_19 rfl ?_
  refine lv_lxor hx hb dX4_hash_20 ?_
  refine lv_ldc2 hx hb hown (hts _ mb_38) dX4_hash_21 ?_
  refine lv_lmul hx hb dX4_hash_24 ?_
  refine lv_lstore (lv' := [(4, .long (((((a * 1000003) + b) * (-7046029254386353131)) ^^^ (((((a * 1000003) + b) * (-7046029254386353131)).toUInt64 >>> ((nI 29).toInt64.toUInt64 &&& Int64.toUInt64 63)).toInt64)) * 31)), (0, .long a), (2, .long b)]) hx hb dX4_hash_25 hl (by decide) rfl (fun ls hl => ?_)
  refine lv_lload hx hb dX4_hash_27 (lv_at hl 0 rfl) ?_
  refine lv_lload hx hb dX4_hash_29 (lv_at hl 0 rfl) ?_
  refine lv_bipush (v := (nI 32)) hx hb dX4_hash_31 (by decide) ?_
  refine lv_lushr (v := ((((((a * 1000003) + b) * (-7046029254386353131)) ^^^ (((((a * 1000003) + b) * (-7046029254386353131)).toUInt64 >>> ((nI 29).toInt64.toUInt64 &&& Int64.toUInt64 63)).toInt64)) * 31).toUInt64 >>> ((nI 32).toInt64.toUInt64 &&& Int64.toUInt64 63)).toInt64) hx hb dX4_hash_33 rfl ?_
  refine lv_lxor hx hb dX4_hash_34 ?_
  exact kq_lret hx hb hr hlk hP hD hS dX4_hash_35
theorem c_hash (u : tm_S) (a b : Int64) : kc_M l dC dI gs ad cc yX4_hash wsX4_hash { frames := 0, cells := 0, slots := 0, locals := 0 } [.long a, .long b] u u (some (.long (tm_h a b))) := c_hash0 u a b
set_option maxHeartbeats 4000000 in
set_option maxRecDepth 100000 in
theorem c_refuseOutside_ok (u : tm_S) (x lo hi : Int32) (h1 : ¬ x < lo) (h2 : x ≤ hi) : kc_M l dC dI gs ad cc yX4_refuseOutside wsX4_refuseOutside { frames := 6, cells := 0, slots := 0, locals := 82 } [.int x, .int lo, .int hi] u u none := by
  refine kq_ofW (cc := cX4_refuseOutside) (maxL := 3) (ret := none) (R0 := RX4) (by decide) rfl rfl (Nat.le_of_ble_eq_true rfl) ?_
  intro p e s m below meth c A ls hx hb hr hlk hml hown hts hP hK hD hA hG hS hl
  have hl : lv_has ls 3 [(0, .int x), (1, .int lo), (2, .int hi)] := hl
  refine lv_iload_n hx hb dX4_refuseOutside_0 rfl (lv_at hl 0 rfl) ?_
  refine lv_iload_n hx hb dX4_refuseOutside_1 rfl (lv_at hl 1 rfl) ?_
  refine lv_icmp_lt (tgt := 10) hx hb dX4_refuseOutside_2 (by decide) (fun c => absurd c h1) (fun _ => ?_)
  refine lv_iload_n hx hb dX4_refuseOutside_5 rfl (lv_at hl 0 rfl) ?_
  refine lv_iload_n hx hb dX4_refuseOutside_6 rfl (lv_at hl 2 rfl) ?_
  refine lv_icmp_le (tgt := 20) hx hb dX4_refuseOutside_7 (by decide) (fun _ => ?_) (fun c => absurd h2 c)
  exact kq_vret hx hb hr hlk hP hD hS dX4_refuseOutside_20
set_option maxHeartbeats 4000000 in
set_option maxRecDepth 100000 in
theorem c_refuseOutside_n1 (hl9 : l.stackTraces = false) (u : tm_S) (x lo hi : Int32) (h1 : x < lo) : kc_T l dC dI gs ad cc yX4_refuseOutside wsX4_refuseOutside { frames := 6, cells := 1, slots := 6, locals := 82 } [.int x, .int lo, .int hi] u u "java/lang/IllegalArgumentException" := by
  refine kq_ofT (cc := cX4_refuseOutside) (maxL := 3) (ret := none) (R0 := RX4) (by decide) rfl rfl (Nat.le_of_ble_eq_true rfl) ?_
  intro p e s m below meth c A ls hx hb hr hlk hml hown hts hP hK hD hA hG hS hl hEx
  have hl : lv_has ls 3 [(0, .int x), (1, .int lo), (2, .int hi)] := hl
  refine lv_iload_n hx hb dX4_refuseOutside_0 rfl (lv_at hl 0 rfl) ?_
  refine lv_iload_n hx hb dX4_refuseOutside_1 rfl (lv_at hl 1 rfl) ?_
  refine lv_icmp_lt (tgt := 10) hx hb dX4_refuseOutside_2 (by decide) (fun _ => ?_) (fun c => absurd h1 c)
  exact tw_256 (w := false) (is := 254) hts hl9 hx hb hown (tm_Gs hG 254 "a number is out of range" (by decide)) (hts _ mb_225) (hts _ mb_10) hG hS (by rw [hml]; exact hl.1) dX4_refuseOutside_10 dX4_refuseOutside_13 dX4_refuseOutside_14 dX4_refuseOutside_16 dX4_refuseOutside_19 hEx (Nat.le_of_ble_eq_true rfl) (Nat.le_of_ble_eq_true rfl) (Nat.le_of_ble_eq_true rfl) (Nat.le_of_ble_eq_true rfl) hlk hP hD (Nat.le_of_ble_eq_true rfl) (Nat.le_of_ble_eq_true rfl)
set_option maxHeartbeats 4000000 in
set_option maxRecDepth 100000 in
theorem c_refuseOutside_n2 (hl9 : l.stackTraces = false) (u : tm_S) (x lo hi : Int32) (h1 : ¬ x < lo) (h2 : ¬ x ≤ hi) : kc_T l dC dI gs ad cc yX4_refuseOutside wsX4_refuseOutside { frames := 6, cells := 1, slots := 6, locals := 82 } [.int x, .int lo, .int hi] u u "java/lang/IllegalArgumentException" := by
  refine kq_ofT (cc := cX4_refuseOutside) (maxL := 3) (ret := none) (R0 := RX4) (by decide) rfl rfl (Nat.le_of_ble_eq_true rfl) ?_
  intro p e s m below meth c A ls hx hb hr hlk hml hown hts hP hK hD hA hG hS hl hEx
  have hl : lv_has ls 3 [(0, .int x), (1, .int lo), (2, .int hi)] := hl
  refine lv_iload_n hx hb dX4_refuseOutside_0 rfl (lv_at hl 0 rfl) ?_
  refine lv_iload_n hx hb dX4_refuseOutside_1 rfl (lv_at hl 1 rfl) ?_
  refine lv_icmp_lt (tgt := 10) hx hb dX4_refuseOutside_2 (by decide) (fun c => absurd c h1) (fun _ => ?_)
  refine lv_iload_n hx hb dX4_refuseOutside_5 rfl (lv_at hl 0 rfl) ?_
  refine lv_iload_n hx hb dX4_refuseOutside_6 rfl (lv_at hl 2 rfl) ?_
  refine lv_icmp_le (tgt := 20) hx hb dX4_refuseOutside_7 (by decide) (fun c => absurd c h2) (fun _ => ?_)
  exact tw_256 (w := false) (is := 254) hts hl9 hx hb hown (tm_Gs hG 254 "a number is out of range" (by decide)) (hts _ mb_225) (hts _ mb_10) hG hS (by rw [hml]; exact hl.1) dX4_refuseOutside_10 dX4_refuseOutside_13 dX4_refuseOutside_14 dX4_refuseOutside_16 dX4_refuseOutside_19 hEx (Nat.le_of_ble_eq_true rfl) (Nat.le_of_ble_eq_true rfl) (Nat.le_of_ble_eq_true rfl) (Nat.le_of_ble_eq_true rfl) hlk hP hD (Nat.le_of_ble_eq_true rfl) (Nat.le_of_ble_eq_true rfl)
set_option maxHeartbeats 4000000 in
set_option maxRecDepth 100000 in
theorem c_refuseUnlessBelow_ok (u : tm_S) {j n : Nat} (hj : j < n) (hn : n < 2 ^ 31) : kc_M l dC dI gs ad cc yX4_refuseUnlessBelow wsX4_refuseUnlessBelow { frames := 7, cells := 0, slots := 0, locals := 104 } [.int (nI j), .int (nI n)] u u none := by
  refine kq_ofW (cc := cX4_refuseUnlessBelow) (maxL := 2) (ret := none) (R0 := RX4) (by decide) rfl rfl (Nat.le_of_ble_eq_true rfl) ?_
  intro p e s m below meth c A ls hx hb hr hlk hml hown hts hP hK hD hA hG hS hl
  have hl : lv_has ls 2 [(0, .int (nI j)), (1, .int (nI n))] := hl
  refine lv_iload_n hx hb dX4_refuseUnlessBelow_0 rfl (lv_at hl 0 rfl) ?_
  refine lv_iconst (v := (nI 0)) hx hb dX4_refuseUnlessBelow_1 (by decide) ?_
  refine lv_iload_n hx hb dX4_refuseUnlessBelow_2 rfl (lv_at hl 1 rfl) ?_
  refine lv_iconst (v := (nI 1)) hx hb dX4_refuseUnlessBelow_3 (by decide) ?_
  refine lv_isub hx hb dX4_refuseUnlessBelow_4 ?_
  refine kq_cS (st1 := []) ⟨hx, hb, hml, hown, hts⟩ (c_refuseOutside_ok u (nI j) (nI 0) ((nI n) - (nI 1)) (nI_nlt (Nat.zero_le j) (by omega)) (tm_le1 hj hn)) (va_cwS 3 hts gX4_58_X4_refuseOutside rfl rfl rfl (by decide +kernel) ⟨Nat.le_of_ble_eq_true rfl, Nat.le_of_ble_eq_true rfl⟩) tm_Gok hK hP hD hA hG hS rfl hl.1 rfl rfl (Nat.le_of_ble_eq_true rfl) dX4_refuseUnlessBelow_5 ⟨Nat.le_of_ble_eq_true rfl, Nat.le_of_ble_eq_true rfl⟩ (fun H locs hP hD hS => ?_)
  exact kq_vret hx hb hr hlk hP hD hS dX4_refuseUnlessBelow_8
set_option maxHeartbeats 4000000 in
set_option maxRecDepth 100000 in
theorem c_refuseUnlessBelow_n1 (hl9 : l.stackTraces = false) (u : tm_S) {x : Int32} {n : Nat} (h : x < 0) : kc_T l dC dI gs ad cc yX4_refuseUnlessBelow wsX4_refuseUnlessBelow { frames := 7, cells := 1, slots := 6, locals := 104 } [.int x, .int (nI n)] u u "java/lang/IllegalArgumentException" := by
  refine kq_ofT (cc := cX4_refuseUnlessBelow) (maxL := 2) (ret := none) (R0 := RX4) (by decide) rfl rfl (Nat.le_of_ble_eq_true rfl) ?_
  intro p e s m below meth c A ls hx hb hr hlk hml hown hts hP hK hD hA hG hS hl hEx
  have hl : lv_has ls 2 [(0, .int x), (1, .int (nI n))] := hl
  refine lv_iload_n hx hb dX4_refuseUnlessBelow_0 rfl (lv_at hl 0 rfl) ?_
  refine lv_iconst (v := (nI 0)) hx hb dX4_refuseUnlessBelow_1 (by decide) ?_
  refine lv_iload_n hx hb dX4_refuseUnlessBelow_2 rfl (lv_at hl 1 rfl) ?_
  refine lv_iconst (v := (nI 1)) hx hb dX4_refuseUnlessBelow_3 (by decide) ?_
  refine lv_isub hx hb dX4_refuseUnlessBelow_4 ?_
  exact kq_tS ⟨hx, hb, hml, hown, hts⟩ (c_refuseOutside_n1 hl9 u x (nI 0) ((nI n) - (nI 1)) h) (va_cwS 3 hts gX4_58_X4_refuseOutside rfl rfl rfl (by decide +kernel) ⟨Nat.le_of_ble_eq_true rfl, Nat.le_of_ble_eq_true rfl⟩) tm_Gok hK hP hD hA hG hS rfl hl.1 rfl (Nat.le_of_ble_eq_true rfl) dX4_refuseUnlessBelow_5 ⟨Nat.le_of_ble_eq_true rfl, Nat.le_of_ble_eq_true rfl⟩ hlk hEx (Nat.le_of_ble_eq_true rfl) (Nat.le_of_ble_eq_true rfl)
set_option maxHeartbeats 4000000 in
set_option maxRecDepth 100000 in
theorem c_refuseUnlessBelow_n2 (hl9 : l.stackTraces = false) (u : tm_S) {x : Int32} {n : Nat} (h : nI n ≤ x) (h0 : 0 < n) (hn : n < 2 ^ 31) : kc_T l dC dI gs ad cc yX4_refuseUnlessBelow wsX4_refuseUnlessBelow { frames := 7, cells := 1, slots := 6, locals := 104 } [.int x, .int (nI n)] u u "java/lang/IllegalArgumentException" := by
  refine kq_ofT (cc := cX4_refuseUnlessBelow) (maxL := 2) (ret := none) (R0 := RX4) (by decide) rfl rfl (Nat.le_of_ble_eq_true rfl) ?_
  intro p e s m below meth c A ls hx hb hr hlk hml hown hts hP hK hD hA hG hS hl hEx
  have hl : lv_has ls 2 [(0, .int x), (1, .int (nI n))] := hl
  refine lv_iload_n hx hb dX4_refuseUnlessBelow_0 rfl (lv_at hl 0 rfl) ?_
  refine lv_iconst (v := (nI 0)) hx hb dX4_refuseUnlessBelow_1 (by decide) ?_
  refine lv_iload_n hx hb dX4_refuseUnlessBelow_2 rfl (lv_at hl 1 rfl) ?_
  refine lv_iconst (v := (nI 1)) hx hb dX4_refuseUnlessBelow_3 (by decide) ?_
  refine lv_isub hx hb dX4_refuseUnlessBelow_4 ?_
  exact kq_tS ⟨hx, hb, hml, hown, hts⟩ (c_refuseOutside_n2 hl9 u x (nI 0) ((nI n) - (nI 1)) (tm_le2 h h0 hn) (tm_le3 h h0 hn)) (va_cwS 3 hts gX4_58_X4_refuseOutside rfl rfl rfl (by decide +kernel) ⟨Nat.le_of_ble_eq_true rfl, Nat.le_of_ble_eq_true rfl⟩) tm_Gok hK hP hD hA hG hS rfl hl.1 rfl (Nat.le_of_ble_eq_true rfl) dX4_refuseUnlessBelow_5 ⟨Nat.le_of_ble_eq_true rfl, Nat.le_of_ble_eq_true rfl⟩ hlk hEx (Nat.le_of_ble_eq_true rfl) (Nat.le_of_ble_eq_true rfl)
set_option maxHeartbeats 4000000 in
set_option maxRecDepth 100000 in
theorem c_refuseWhenLost_ok (u : tm_S) (h : u.2.1 11 0 = 0) : kc_M l dC dI gs ad cc yX4_refuseWhenLost wsX4_refuseWhenLost { frames := 6, cells := 0, slots := 0, locals := 82 } [.ref (ad 0)] u u none := by
  refine kq_ofW (cc := cX4_refuseWhenLost) (maxL := 1) (ret := none) (R0 := RX4) (by decide) rfl rfl (Nat.le_of_ble_eq_true rfl) ?_
  intro p e s m below meth c A ls hx hb hr hlk hml hown hts hP hK hD hA hG hS hl
  have hl : lv_has ls 1 [(0, .ref (ad 0))] := hl
  refine lv_aload_n hx hb dX4_refuseWhenLost_0 rfl (lv_at hl 0 rfl) ?_
  refine tc_gT_lost hx hb hts inB_X4 hown hK hP (hts _ mb_154) dX4_refuseWhenLost_1 ?_
  refine lv_if_eq (tgt := 18) hx hb dX4_refuseWhenLost_4 (by decide) (fun _ => ?_) (fun c => absurd h c)
  exact kq_vret hx hb hr hlk hP hD hS dX4_refuseWhenLost_18
set_option maxHeartbeats 4000000 in
set_option maxRecDepth 100000 in
theorem c_refuseWhenLost_no (hl9 : l.stackTraces = false) (u : tm_S) (h : ¬ u.2.1 11 0 = 0) : kc_T l dC dI gs ad cc yX4_refuseWhenLost wsX4_refuseWhenLost { frames := 6, cells := 1, slots := 6, locals := 82 } [.ref (ad 0)] u u "java/lang/IllegalStateException" := by
  refine kq_ofT (cc := cX4_refuseWhenLost) (maxL := 1) (ret := none) (R0 := RX4) (by decide) rfl rfl (Nat.le_of_ble_eq_true rfl) ?_
  intro p e s m below meth c A ls hx hb hr hlk hml hown hts hP hK hD hA hG hS hl hEx
  have hl : lv_has ls 1 [(0, .ref (ad 0))] := hl
  refine lv_aload_n hx hb dX4_refuseWhenLost_0 rfl (lv_at hl 0 rfl) ?_
  refine tc_gT_lost hx hb hts inB_X4 hown hK hP (hts _ mb_154) dX4_refuseWhenLost_1 ?_
  refine lv_if_eq (tgt := 18) hx hb dX4_refuseWhenLost_4 (by decide) (fun c => absurd c h) (fun _ => ?_)
  exact tw_174 (w := true) (is := 257) hts hl9 hx hb hown (tm_Gs hG 257 "power is lost" (by decide)) (hts _ mb_310) (hts _ mb_11) hG hS (by rw [hml]; exact hl.1) dX4_refuseWhenLost_7 dX4_refuseWhenLost_10 dX4_refuseWhenLost_11 dX4_refuseWhenLost_14 dX4_refuseWhenLost_17 hEx (Nat.le_of_ble_eq_true rfl) (Nat.le_of_ble_eq_true rfl) (Nat.le_of_ble_eq_true rfl) (Nat.le_of_ble_eq_true rfl) hlk hP hD (Nat.le_of_ble_eq_true rfl) (Nat.le_of_ble_eq_true rfl)
end S10
