section S20
variable {l : Launch} {dC : Nat → ClassId} {dI : Nat → Nat → Nat} {gs : Nat → Nat} {ad : Nat → Nat} {cc : Nat → ClassId}
set_option maxHeartbeats 4000000 in
set_option maxRecDepth 100000 in
theorem r_mix0 (u : tm_S) (a b : Int64) : kr_M l dC dI ad cc yX5_mix wsX5_mix { frames := 0, cells := 0, slots := 0, locals := 0 } [.ref (ad 0), .long a, .long b] u u (some (.long ((((((a * 1000003) + b) * (-7046029254386353131)) ^^^ (((((a * 1000003) + b) * (-7046029254386353131)).toUInt64 >>> ((nI 29).toInt64.toUInt64 &&& Int64.toUInt64 63)).toInt64)) * 31) ^^^ (((((((a * 1000003) + b) * (-7046029254386353131)) ^^^ (((((a * 1000003) + b) * (-7046029254386353131)).toUInt64 >>> ((nI 29).toInt64.toUInt64 &&& Int64.toUInt64 63)).toInt64)) * 31).toUInt64 >>> ((nI 32).toInt64.toUInt64 &&& Int64.toUInt64 63)).toInt64)))) := by
  refine kq_ofW (cc := cX5_mix) (maxL := 7) (ret := (some .long)) (R0 := RX5) (by decide) rfl rfl (Nat.le_of_ble_eq_true rfl) ?_
  intro p e s m below meth c A ls hx hb hr hlk hml hown hts hP hK hD hA hG hS hl
  have hl : lv_has ls 7 [(0, .ref (ad 0)), (1, .long a), (3, .long b)] := hl
  refine lv_lload_n hx hb dX5_mix_0 rfl (lv_at hl 1 rfl) ?_
  refine lv_ldc2 hx hb hown (hts _ mb_618) dX5_mix_1 ?_
  refine lv_lmul hx hb dX5_mix_4 ?_
  refine lv_lload_n hx hb dX5_mix_5 rfl (lv_at hl 2 rfl) ?_
  refine lv_ladd hx hb dX5_mix_6 ?_
  refine lv_ldc2 hx hb hown (hts _ mb_619) dX5_mix_7 ?_
  refine lv_lmul hx hb dX5_mix_10 ?_
  refine lv_lstore (lv' := [(5, .long (((a * 1000003) + b) * (-7046029254386353131))), (0, .ref (ad 0)), (1, .long a), (3, .long b)]) hx hb dX5_mix_11 hl (by decide) rfl (fun ls hl => ?_)
  refine lv_lload hx hb dX5_mix_13 (lv_at hl 0 rfl) ?_
  refine lv_lload hx hb dX5_mix_15 (lv_at hl 0 rfl) ?_
  refine lv_bipush (v := (nI 29)) hx hb dX5_mix_17 (by decide) ?_
  refine lv_lushr (v := ((((a * 1000003) + b) * (-7046029254386353131)).toUInt64 >>> ((nI 29).toInt64.toUInt64 &&& Int64.toUInt64 63)).toInt64) hx hb dX5_mix_19 rfl ?_
  refine lv_lxor hx hb dX5_mix_20 ?_
  refine lv_ldc2 hx hb hown (hts _ mb_620) dX5_mix_21 ?_
  refine lv_lmul hx hb dX5_mix_24 ?_
  refine lv_lstore (lv' := [(5, .long (((((a * 1000003) + b) * (-7046029254386353131)) ^^^ (((((a * 1000003) + b) * (-7046029254386353131)).toUInt64 >>> ((nI 29).toInt64.toUInt64 &&& Int64.toUInt64 63)).toInt64)) * 31)), (0, .ref (ad 0)), (1, .long a), (3, .long b)]) hx hb dX5_mix_25 hl (by decide) rfl (fun ls hl => ?_)
  refine lv_lload hx hb dX5_mix_27 (lv_at hl 0 rfl) ?_
  refine lv_lload hx hb dX5_mix_29 (lv_at hl 0 rfl) ?_
  refine lv_bipush (v := (nI 32)) hx hb dX5_mix_31 (by decide) ?_
  refine lv_lushr (v := ((((((a * 1000003) + b) * (-7046029254386353131)) ^^^ (((((a * 1000003) + b) * (-7046029254386353131)).toUInt64 >>> ((nI 29).toInt64.toUInt64 &&& Int64.toUInt64 63)).toInt64)) * 31).toUInt64 >>> ((nI 32).toInt64.toUInt64 &&& Int64.toUInt64 63)).toInt64) hx hb dX5_mix_33 rfl ?_
  refine lv_lxor hx hb dX5_mix_34 ?_
  exact kq_lret hx hb hr hlk hP hD hS dX5_mix_35
theorem r_mix (u : tm_S) (a b : Int64) : kr_M l dC dI ad cc yX5_mix wsX5_mix { frames := 0, cells := 0, slots := 0, locals := 0 } [.ref (ad 0), .long a, .long b] u u (some (.long (tm_h a b))) := r_mix0 u a b
set_option maxHeartbeats 4000000 in
set_option maxRecDepth 100000 in
theorem r_thrown (u : tm_S)  : kr_M l dC dI ad cc yX5_thrown wsX5_thrown { frames := 0, cells := 0, slots := 0, locals := 0 } [.ref (ad 0)] u u (some (.int (u.2.1 14 0))) := by
  refine kq_ofW (cc := cX5_thrown) (maxL := 1) (ret := (some .int)) (R0 := RX5) (by decide) rfl rfl (Nat.le_of_ble_eq_true rfl) ?_
  intro p e s m below meth c A ls hx hb hr hlk hml hown hts hP hK hD hA hG hS hl
  have hl : lv_has ls 1 [(0, .ref (ad 0))] := hl
  refine lv_aload_n hx hb dX5_thrown_0 rfl (lv_at hl 0 rfl) ?_
  refine tr_g_thrown hx hb hts inB_X5 hown hK hP (hts _ mb_652) dX5_thrown_1 ?_
  exact kq_iret hx hb hr hlk hP hD hS dX5_thrown_4
set_option maxHeartbeats 4000000 in
set_option maxRecDepth 100000 in
theorem r_anew (u : tm_S) {k : Nat} (hk : k < 3) : kr_M l dC dI ad cc yX5_anew wsX5_anew { frames := 0, cells := 0, slots := 0, locals := 0 } [.ref (ad 0), .int (nI k)] u (tm_I (tm_L u 6 k 0) 4 k (nI 0)) none := by
  refine kq_ofW (cc := cX5_anew) (maxL := 2) (ret := none) (R0 := RX5) (by decide) rfl rfl (Nat.le_of_ble_eq_true rfl) ?_
  intro p e s m below meth c A ls hx hb hr hlk hml hown hts hP hK hD hA hG hS hl
  have hl : lv_has ls 2 [(0, .ref (ad 0)), (1, .int (nI k))] := hl
  refine lv_aload_n hx hb dX5_anew_0 rfl (lv_at hl 0 rfl) ?_
  refine tr_g_digest hx hb hts inB_X5 hown hK hP (hts _ mb_632) dX5_anew_1 ?_
  refine lv_iload_n hx hb dX5_anew_4 rfl (lv_at hl 1 rfl) ?_
  refine lv_lconst (v := 0) hx hb dX5_anew_5 (by decide) ?_
  refine tr_t_digest hx hb hK hP hD hS (by omega) dX5_anew_6 (fun H locs hP hD hS => ?_)
  refine lv_aload_n hx hb dX5_anew_7 rfl (lv_at hl 0 rfl) ?_
  refine tr_g_looked hx hb hts inB_X5 hown hK hP (hts _ mb_644) dX5_anew_8 ?_
  refine lv_iload_n hx hb dX5_anew_11 rfl (lv_at hl 1 rfl) ?_
  refine lv_iconst (v := (nI 0)) hx hb dX5_anew_12 (by decide) ?_
  refine tr_t_looked hx hb hK hP hD hS (by omega) (by first | rfl | decide) dX5_anew_13 (fun H locs hP hD hS => ?_)
  exact kq_vret hx hb hr hlk hP hD hS dX5_anew_14
set_option maxHeartbeats 4000000 in
set_option maxRecDepth 100000 in
theorem r_come (u : tm_S)  : kr_M l dC dI ad cc yX5_come wsX5_come { frames := 1, cells := 0, slots := 0, locals := 26 } [.ref (ad 0)] u (tm_I (tm_L (tm_I (tm_L (tm_I (tm_L (tm_I (tm_I (tm_I (tm_I (tm_L (tm_L (tm_L (tm_L (tm_L (tm_L (tm_L (tm_L (tm_L (tm_L (tm_L (tm_L (tm_L (tm_L (tm_L (tm_L (tm_L (tm_D (tm_I (tm_I u 11 0 (nI 0)) 9 0 (nI 0)) 0 (u.2.2 1)) 0 2 (tm_h (u.1 0 2) 5)) 1 0 0) 1 1 0) 1 2 0) 1 3 0) 1 4 0) 1 5 0) 1 6 0) 1 7 0) 1 8 0) 1 9 0) 1 10 0) 1 11 0) 1 12 0) 1 13 0) 1 14 0) 1 15 0) 0 0 (nI 0)) 0 1 (nI 0)) 0 2 (nI 0)) 0 3 (nI 0)) 6 0 0) 4 0 (nI 0)) 6 1 0) 4 1 (nI 0)) 6 2 0) 4 2 (nI 0)) none := by
  refine kq_ofW (cc := cX5_come) (maxL := 2) (ret := none) (R0 := RX5) (by decide) rfl rfl (Nat.le_of_ble_eq_true rfl) ?_
  intro p e s m below meth c A ls hx hb hr hlk hml hown hts hP hK hD hA hG hS hl
  have hl : lv_has ls 2 [(0, .ref (ad 0))] := hl
  refine lv_aload_n hx hb dX5_come_0 rfl (lv_at hl 0 rfl) ?_
  refine lv_iconst (v := (nI 0)) hx hb dX5_come_1 (by decide) ?_
  refine tr_p_lost hx hb hts inB_X5 hown hK hP hD hS (by first | rfl | decide) (by first | rfl | decide) (hts _ mb_653) dX5_come_2 (fun H locs hP hD hS => ?_)
  refine lv_aload_n hx hb dX5_come_5 rfl (lv_at hl 0 rfl) ?_
  refine lv_iconst (v := (nI 0)) hx hb dX5_come_6 (by decide) ?_
  refine tr_p_pcrCount hx hb hts inB_X5 hown hK hP hD hS (hts _ mb_648) dX5_come_7 (fun H locs hP hD hS => ?_)
  refine lv_aload_n hx hb dX5_come_10 rfl (lv_at hl 0 rfl) ?_
  refine lv_aload_n hx hb dX5_come_11 rfl (lv_at hl 0 rfl) ?_
  refine tr_g_clock hx hb hts inB_X5 hown hK hP (hts _ mb_655) dX5_come_12 ?_
  refine kq_td (y := (u.2.2 1)) (by simp [tm_L, tm_I, tm_D]) ?_
  refine tr_p_mark hx hb hts inB_X5 hown hK hP hD hS (hts _ mb_656) dX5_come_15 (fun H locs hP hD hS => ?_)
  refine lv_aload_n hx hb dX5_come_18 rfl (lv_at hl 0 rfl) ?_
  refine tr_g_seed hx hb hts inB_X5 hown hK hP (hts _ mb_630) dX5_come_19 ?_
  refine lv_iconst (v := (nI 2)) hx hb dX5_come_22 (by decide) ?_
  refine lv_aload_n hx hb dX5_come_23 rfl (lv_at hl 0 rfl) ?_
  refine lv_aload_n hx hb dX5_come_24 rfl (lv_at hl 0 rfl) ?_
  refine tr_g_seed hx hb hts inB_X5 hown hK hP (hts _ mb_630) dX5_come_25 ?_
  refine lv_iconst (v := (nI 2)) hx hb dX5_come_28 (by decide) ?_
  refine tr_l_seed hx hb hK hP (by omega) dX5_come_29 ?_
  refine kq_tl (y := (u.1 0 2)) (by simp [tm_L, tm_I, tm_D]) ?_
  refine lv_ldc2 hx hb hown (hts _ mb_625) dX5_come_30 ?_
  refine kq_cV (st1 := [.long (tm_h (u.1 0 2) 5), .int (nI 2), .ref (ad 1)]) ⟨hx, hb, hml, hown, hts⟩ (r_mix (tm_D (tm_I (tm_I u 11 0 (nI 0)) 9 0 (nI 0)) 0 (u.2.2 1)) (u.1 0 2) 5) (cwV 2 hts gX5_74_X5_mix rfl rfl rfl (by decide +kernel) ⟨Nat.le_of_ble_eq_true rfl, Nat.le_of_ble_eq_true rfl⟩) kq_okT hK hP hD hA hG hS (va_recv hK hP (ci := 5) (q0 := 0) rfl (tm_at (i := 0) (by omega) rfl)) rfl hl.1 rfl rfl (Nat.le_of_ble_eq_true rfl) dX5_come_33 ⟨Nat.le_of_ble_eq_true rfl, Nat.le_of_ble_eq_true rfl⟩ (fun H locs hP hD hS => ?_)
  refine tr_t_seed hx hb hK hP hD hS (by omega) dX5_come_36 (fun H locs hP hD hS => ?_)
  refine lv_iconst (v := (nI 0)) hx hb dX5_come_37 (by decide) ?_
  refine lv_istore_n (lv' := [(1, .int (nI 0)), (0, .ref (ad 0))]) hx hb dX5_come_38 rfl hl (by decide) rfl (fun ls hl => ?_)
  refine lv_iload_n hx hb dX5_come_39 rfl (lv_at hl 0 rfl) ?_
  refine lv_bipush (v := (nI 16)) hx hb dX5_come_40 (by decide) ?_
  refine lv_icmp_ge (tgt := 58) hx hb dX5_come_42 (by decide) (fun c => absurd c (by decide)) (fun _ => ?_)
  refine lv_aload_n hx hb dX5_come_45 rfl (lv_at hl 1 rfl) ?_
  refine tr_g_pcr hx hb hts inB_X5 hown hK hP (hts _ mb_631) dX5_come_46 ?_
  refine lv_iload_n hx hb dX5_come_49 rfl (lv_at hl 0 rfl) ?_
  refine lv_lconst (v := 0) hx hb dX5_come_50 (by decide) ?_
  refine tr_t_pcr hx hb hK hP hD hS (by omega) dX5_come_51 (fun H locs hP hD hS => ?_)
  refine lv_iinc (v := (nI 1)) (lv' := [(1, .int (nI 1)), (0, .ref (ad 0))]) hx hb dX5_come_52 hl (k := 0) rfl (by decide) (by decide) rfl (fun ls hl => ?_)
  refine lv_goto (tgt := 39) hx hb dX5_come_55 (by decide) ?_
  refine lv_iload_n hx hb dX5_come_39 rfl (lv_at hl 0 rfl) ?_
  refine lv_bipush (v := (nI 16)) hx hb dX5_come_40 (by decide) ?_
  refine lv_icmp_ge (tgt := 58) hx hb dX5_come_42 (by decide) (fun c => absurd c (by decide)) (fun _ => ?_)
  refine lv_aload_n hx hb dX5_come_45 rfl (lv_at hl 1 rfl) ?_
  refine tr_g_pcr hx hb hts inB_X5 hown hK hP (hts _ mb_631) dX5_come_46 ?_
  refine lv_iload_n hx hb dX5_come_49 rfl (lv_at hl 0 rfl) ?_
  refine lv_lconst (v := 0) hx hb dX5_come_50 (by decide) ?_
  refine tr_t_pcr hx hb hK hP hD hS (by omega) dX5_come_51 (fun H locs hP hD hS => ?_)
  refine lv_iinc (v := (nI 2)) (lv' := [(1, .int (nI 2)), (0, .ref (ad 0))]) hx hb dX5_come_52 hl (k := 0) rfl (by decide) (by decide) rfl (fun ls hl => ?_)
  refine lv_goto (tgt := 39) hx hb dX5_come_55 (by decide) ?_
  refine lv_iload_n hx hb dX5_come_39 rfl (lv_at hl 0 rfl) ?_
  refine lv_bipush (v := (nI 16)) hx hb dX5_come_40 (by decide) ?_
  refine lv_icmp_ge (tgt := 58) hx hb dX5_come_42 (by decide) (fun c => absurd c (by decide)) (fun _ => ?_)
  refine lv_aload_n hx hb dX5_come_45 rfl (lv_at hl 1 rfl) ?_
  refine tr_g_pcr hx hb hts inB_X5 hown hK hP (hts _ mb_631) dX5_come_46 ?_
  refine lv_iload_n hx hb dX5_come_49 rfl (lv_at hl 0 rfl) ?_
  refine lv_lconst (v := 0) hx hb dX5_come_50 (by decide) ?_
  refine tr_t_pcr hx hb hK hP hD hS (by omega) dX5_come_51 (fun H locs hP hD hS => ?_)
  refine lv_iinc (v := (nI 3)) (lv' := [(1, .int (nI 3)), (0, .ref (ad 0))]) hx hb dX5_come_52 hl (k := 0) rfl (by decide) (by decide) rfl (fun ls hl => ?_)
  refine lv_goto (tgt := 39) hx hb dX5_come_55 (by decide) ?_
  refine lv_iload_n hx hb dX5_come_39 rfl (lv_at hl 0 rfl) ?_
  refine lv_bipush (v := (nI 16)) hx hb dX5_come_40 (by decide) ?_
  refine lv_icmp_ge (tgt := 58) hx hb dX5_come_42 (by decide) (fun c => absurd c (by decide)) (fun _ => ?_)
  refine lv_aload_n hx hb dX5_come_45 rfl (lv_at hl 1 rfl) ?_
  refine tr_g_pcr hx hb hts inB_X5 hown hK hP (hts _ mb_631) dX5_come_46 ?_
  refine lv_iload_n hx hb dX5_come_49 rfl (lv_at hl 0 rfl) ?_
  refine lv_lconst (v := 0) hx hb dX5_come_50 (by decide) ?_
  refine tr_t_pcr hx hb hK hP hD hS (by omega) dX5_come_51 (fun H locs hP hD hS => ?_)
  refine lv_iinc (v := (nI 4)) (lv' := [(1, .int (nI 4)), (0, .ref (ad 0))]) hx hb dX5_come_52 hl (k := 0) rfl (by decide) (by decide) rfl (fun ls hl => ?_)
  refine lv_goto (tgt := 39) hx hb dX5_come_55 (by decide) ?_
  refine lv_iload_n hx hb dX5_come_39 rfl (lv_at hl 0 rfl) ?_
  refine lv_bipush (v := (nI 16)) hx hb dX5_come_40 (by decide) ?_
  refine lv_icmp_ge (tgt := 58) hx hb dX5_come_42 (by decide) (fun c => absurd c (by decide)) (fun _ => ?_)
  refine lv_aload_n hx hb dX5_come_45 rfl (lv_at hl 1 rfl) ?_
  refine tr_g_pcr hx hb hts inB_X5 hown hK hP (hts _ mb_631) dX5_come_46 ?_
  refine lv_iload_n hx hb dX5_come_49 rfl (lv_at hl 0 rfl) ?_
  refine lv_lconst (v := 0) hx hb dX5_come_50 (by decide) ?_
  refine tr_t_pcr hx hb hK hP hD hS (by omega) dX5_come_51 (fun H locs hP hD hS => ?_)
  refine lv_iinc (v := (nI 5)) (lv' := [(1, .int (nI 5)), (0, .ref (ad 0))]) hx hb dX5_come_52 hl (k := 0) rfl (by decide) (by decide) rfl (fun ls hl => ?_)
  refine lv_goto (tgt := 39) hx hb dX5_come_55 (by decide) ?_
  refine lv_iload_n hx hb dX5_come_39 rfl (lv_at hl 0 rfl) ?_
  refine lv_bipush (v := (nI 16)) hx hb dX5_come_40 (by decide) ?_
  refine lv_icmp_ge (tgt := 58) hx hb dX5_come_42 (by decide) (fun c => absurd c (by decide)) (fun _ => ?_)
  refine lv_aload_n hx hb dX5_come_45 rfl (lv_at hl 1 rfl) ?_
  refine tr_g_pcr hx hb hts inB_X5 hown hK hP (hts _ mb_631) dX5_come_46 ?_
  refine lv_iload_n hx hb dX5_come_49 rfl (lv_at hl 0 rfl) ?_
  refine lv_lconst (v := 0) hx hb dX5_come_50 (by decide) ?_
  refine tr_t_pcr hx hb hK hP hD hS (by omega) dX5_come_51 (fun H locs hP hD hS => ?_)
  refine lv_iinc (v := (nI 6)) (lv' := [(1, .int (nI 6)), (0, .ref (ad 0))]) hx hb dX5_come_52 hl (k := 0) rfl (by decide) (by decide) rfl (fun ls hl => ?_)
  refine lv_goto (tgt := 39) hx hb dX5_come_55 (by decide) ?_
  refine lv_iload_n hx hb dX5_come_39 rfl (lv_at hl 0 rfl) ?_
  refine lv_bipush (v := (nI 16)) hx hb dX5_come_40 (by decide) ?_
  refine lv_icmp_ge (tgt := 58) hx hb dX5_come_42 (by decide) (fun c => absurd c (by decide)) (fun _ => ?_)
  refine lv_aload_n hx hb dX5_come_45 rfl (lv_at hl 1 rfl) ?_
  refine tr_g_pcr hx hb hts inB_X5 hown hK hP (hts _ mb_631) dX5_come_46 ?_
  refine lv_iload_n hx hb dX5_come_49 rfl (lv_at hl 0 rfl) ?_
  refine lv_lconst (v := 0) hx hb dX5_come_50 (by decide) ?_
  refine tr_t_pcr hx hb hK hP hD hS (by omega) dX5_come_51 (fun H locs hP hD hS => ?_)
  refine lv_iinc (v := (nI 7)) (lv' := [(1, .int (nI 7)), (0, .ref (ad 0))]) hx hb dX5_come_52 hl (k := 0) rfl (by decide) (by decide) rfl (fun ls hl => ?_)
  refine lv_goto (tgt := 39) hx hb dX5_come_55 (by decide) ?_
  refine lv_iload_n hx hb dX5_come_39 rfl (lv_at hl 0 rfl) ?_
  refine lv_bipush (v := (nI 16)) hx hb dX5_come_40 (by decide) ?_
  refine lv_icmp_ge (tgt := 58) hx hb dX5_come_42 (by decide) (fun c => absurd c (by decide)) (fun _ => ?_)
  refine lv_aload_n hx hb dX5_come_45 rfl (lv_at hl 1 rfl) ?_
  refine tr_g_pcr hx hb hts inB_X5 hown hK hP (hts _ mb_631) dX5_come_46 ?_
  refine lv_iload_n hx hb dX5_come_49 rfl (lv_at hl 0 rfl) ?_
  refine lv_lconst (v := 0) hx hb dX5_come_50 (by decide) ?_
  refine tr_t_pcr hx hb hK hP hD hS (by omega) dX5_come_51 (fun H locs hP hD hS => ?_)
  refine lv_iinc (v := (nI 8)) (lv' := [(1, .int (nI 8)), (0, .ref (ad 0))]) hx hb dX5_come_52 hl (k := 0) rfl (by decide) (by decide) rfl (fun ls hl => ?_)
  refine lv_goto (tgt := 39) hx hb dX5_come_55 (by decide) ?_
  refine lv_iload_n hx hb dX5_come_39 rfl (lv_at hl 0 rfl) ?_
  refine lv_bipush (v := (nI 16)) hx hb dX5_come_40 (by decide) ?_
  refine lv_icmp_ge (tgt := 58) hx hb dX5_come_42 (by decide) (fun c => absurd c (by decide)) (fun _ => ?_)
  refine lv_aload_n hx hb dX5_come_45 rfl (lv_at hl 1 rfl) ?_
  refine tr_g_pcr hx hb hts inB_X5 hown hK hP (hts _ mb_631) dX5_come_46 ?_
  refine lv_iload_n hx hb dX5_come_49 rfl (lv_at hl 0 rfl) ?_
  refine lv_lconst (v := 0) hx hb dX5_come_50 (by decide) ?_
  refine tr_t_pcr hx hb hK hP hD hS (by omega) dX5_come_51 (fun H locs hP hD hS => ?_)
  refine lv_iinc (v := (nI 9)) (lv' := [(1, .int (nI 9)), (0, .ref (ad 0))]) hx hb dX5_come_52 hl (k := 0) rfl (by decide) (by decide) rfl (fun ls hl => ?_)
  refine lv_goto (tgt := 39) hx hb dX5_come_55 (by decide) ?_
  refine lv_iload_n hx hb dX5_come_39 rfl (lv_at hl 0 rfl) ?_
  refine lv_bipush (v := (nI 16)) hx hb dX5_come_40 (by decide) ?_
  refine lv_icmp_ge (tgt := 58) hx hb dX5_come_42 (by decide) (fun c => absurd c (by decide)) (fun _ => ?_)
  refine lv_aload_n hx hb dX5_come_45 rfl (lv_at hl 1 rfl) ?_
  refine tr_g_pcr hx hb hts inB_X5 hown hK hP (hts _ mb_631) dX5_come_46 ?_
  refine lv_iload_n hx hb dX5_come_49 rfl (lv_at hl 0 rfl) ?_
  refine lv_lconst (v := 0) hx hb dX5_come_50 (by decide) ?_
  refine tr_t_pcr hx hb hK hP hD hS (by omega) dX5_come_51 (fun H locs hP hD hS => ?_)
  refine lv_iinc (v := (nI 10)) (lv' := [(1, .int (nI 10)), (0, .ref (ad 0))]) hx hb dX5_come_52 hl (k := 0) rfl (by decide) (by decide) rfl (fun ls hl => ?_)
  refine lv_goto (tgt := 39) hx hb dX5_come_55 (by decide) ?_
  refine lv_iload_n hx hb dX5_come_39 rfl (lv_at hl 0 rfl) ?_
  refine lv_bipush (v := (nI 16)) hx hb dX5_come_40 (by decide) ?_
  refine lv_icmp_ge (tgt := 58) hx hb dX5_come_42 (by decide) (fun c => absurd c (by decide)) (fun _ => ?_)
  refine lv_aload_n hx hb dX5_come_45 rfl (lv_at hl 1 rfl) ?_
  refine tr_g_pcr hx hb hts inB_X5 hown hK hP (hts _ mb_631) dX5_come_46 ?_
  refine lv_iload_n hx hb dX5_come_49 rfl (lv_at hl 0 rfl) ?_
  refine lv_lconst (v := 0) hx hb dX5_come_50 (by decide) ?_
  refine tr_t_pcr hx hb hK hP hD hS (by omega) dX5_come_51 (fun H locs hP hD hS => ?_)
  refine lv_iinc (v := (nI 11)) (lv' := [(1, .int (nI 11)), (0, .ref (ad 0))]) hx hb dX5_come_52 hl (k := 0) rfl (by decide) (by decide) rfl (fun ls hl => ?_)
  refine lv_goto (tgt := 39) hx hb dX5_come_55 (by decide) ?_
  refine lv_iload_n hx hb dX5_come_39 rfl (lv_at hl 0 rfl) ?_
  refine lv_bipush (v := (nI 16)) hx hb dX5_come_40 (by decide) ?_
  refine lv_icmp_ge (tgt := 58) hx hb dX5_come_42 (by decide) (fun c => absurd c (by decide)) (fun _ => ?_)
  refine lv_aload_n hx hb dX5_come_45 rfl (lv_at hl 1 rfl) ?_
  refine tr_g_pcr hx hb hts inB_X5 hown hK hP (hts _ mb_631) dX5_come_46 ?_
  refine lv_iload_n hx hb dX5_come_49 rfl (lv_at hl 0 rfl) ?_
  refine lv_lconst (v := 0) hx hb dX5_come_50 (by decide) ?_
  refine tr_t_pcr hx hb hK hP hD hS (by omega) dX5_come_51 (fun H locs hP hD hS => ?_)
  refine lv_iinc (v := (nI 12)) (lv' := [(1, .int (nI 12)), (0, .ref (ad 0))]) hx hb dX5_come_52 hl (k := 0) rfl (by decide) (by decide) rfl (fun ls hl => ?_)
  refine lv_goto (tgt := 39) hx hb dX5_come_55 (by decide) ?_
  refine lv_iload_n hx hb dX5_come_39 rfl (lv_at hl 0 rfl) ?_
  refine lv_bipush (v := (nI 16)) hx hb dX5_come_40 (by decide) ?_
  refine lv_icmp_ge (tgt := 58) hx hb dX5_come_42 (by decide) (fun c => absurd c (by decide)) (fun _ => ?_)
  refine lv_aload_n hx hb dX5_come_45 rfl (lv_at hl 1 rfl) ?_
  refine tr_g_pcr hx hb hts inB_X5 hown hK hP (hts _ mb_631) dX5_come_46 ?_
  refine lv_iload_n hx hb dX5_come_49 rfl (lv_at hl 0 rfl) ?_
  refine lv_lconst (v := 0) hx hb dX5_come_50 (by decide) ?_
  refine tr_t_pcr hx hb hK hP hD hS (by omega) dX5_come_51 (fun H locs hP hD hS => ?_)
  refine lv_iinc (v := (nI 13)) (lv' := [(1, .int (nI 13)), (0, .ref (ad 0))]) hx hb dX5_come_52 hl (k := 0) rfl (by decide) (by decide) rfl (fun ls hl => ?_)
  refine lv_goto (tgt := 39) hx hb dX5_come_55 (by decide) ?_
  refine lv_iload_n hx hb dX5_come_39 rfl (lv_at hl 0 rfl) ?_
  refine lv_bipush (v := (nI 16)) hx hb dX5_come_40 (by decide) ?_
  refine lv_icmp_ge (tgt := 58) hx hb dX5_come_42 (by decide) (fun c => absurd c (by decide)) (fun _ => ?_)
  refine lv_aload_n hx hb dX5_come_45 rfl (lv_at hl 1 rfl) ?_
  refine tr_g_pcr hx hb hts inB_X5 hown hK hP (hts _ mb_631) dX5_come_46 ?_
  refine lv_iload_n hx hb dX5_come_49 rfl (lv_at hl 0 rfl) ?_
  refine lv_lconst (v := 0) hx hb dX5_come_50 (by decide) ?_
  refine tr_t_pcr hx hb hK hP hD hS (by omega) dX5_come_51 (fun H locs hP hD hS => ?_)
  refine lv_iinc (v := (nI 14)) (lv' := [(1, .int (nI 14)), (0, .ref (ad 0))]) hx hb dX5_come_52 hl (k := 0) rfl (by decide) (by decide) rfl (fun ls hl => ?_)
  refine lv_goto (tgt := 39) hx hb dX5_come_55 (by decide) ?_
  refine lv_iload_n hx hb dX5_come_39 rfl (lv_at hl 0 rfl) ?_
  refine lv_bipush (v := (nI 16)) hx hb dX5_come_40 (by decide) ?_
  refine lv_icmp_ge (tgt := 58) hx hb dX5_come_42 (by decide) (fun c => absurd c (by decide)) (fun _ => ?_)
  refine lv_aload_n hx hb dX5_come_45 rfl (lv_at hl 1 rfl) ?_
  refine tr_g_pcr hx hb hts inB_X5 hown hK hP (hts _ mb_631) dX5_come_46 ?_
  refine lv_iload_n hx hb dX5_come_49 rfl (lv_at hl 0 rfl) ?_
  refine lv_lconst (v := 0) hx hb dX5_come_50 (by decide) ?_
  refine tr_t_pcr hx hb hK hP hD hS (by omega) dX5_come_51 (fun H locs hP hD hS => ?_)
  refine lv_iinc (v := (nI 15)) (lv' := [(1, .int (nI 15)), (0, .ref (ad 0))]) hx hb dX5_come_52 hl (k := 0) rfl (by decide) (by decide) rfl (fun ls hl => ?_)
  refine lv_goto (tgt := 39) hx hb dX5_come_55 (by decide) ?_
  refine lv_iload_n hx hb dX5_come_39 rfl (lv_at hl 0 rfl) ?_
  refine lv_bipush (v := (nI 16)) hx hb dX5_come_40 (by decide) ?_
  refine lv_icmp_ge (tgt := 58) hx hb dX5_come_42 (by decide) (fun c => absurd c (by decide)) (fun _ => ?_)
  refine lv_aload_n hx hb dX5_come_45 rfl (lv_at hl 1 rfl) ?_
  refine tr_g_pcr hx hb hts inB_X5 hown hK hP (hts _ mb_631) dX5_come_46 ?_
  refine lv_iload_n hx hb dX5_come_49 rfl (lv_at hl 0 rfl) ?_
  refine lv_lconst (v := 0) hx hb dX5_come_50 (by decide) ?_
  refine tr_t_pcr hx hb hK hP hD hS (by omega) dX5_come_51 (fun H locs hP hD hS => ?_)
  refine lv_iinc (v := (nI 16)) (lv' := [(1, .int (nI 16)), (0, .ref (ad 0))]) hx hb dX5_come_52 hl (k := 0) rfl (by decide) (by decide) rfl (fun ls hl => ?_)
  refine lv_goto (tgt := 39) hx hb dX5_come_55 (by decide) ?_
  refine lv_iload_n hx hb dX5_come_39 rfl (lv_at hl 0 rfl) ?_
  refine lv_bipush (v := (nI 16)) hx hb dX5_come_40 (by decide) ?_
  refine lv_icmp_ge (tgt := 58) hx hb dX5_come_42 (by decide) (fun _ => ?_) (fun c => absurd (by decide) c)
  refine lv_iconst (v := (nI 0)) hx hb dX5_come_58 (by decide) ?_
  refine lv_istore_n (lv' := [(1, .int (nI 0)), (0, .ref (ad 0))]) hx hb dX5_come_59 rfl hl (by decide) rfl (fun ls hl => ?_)
  refine lv_iload_n hx hb dX5_come_60 rfl (lv_at hl 0 rfl) ?_
  refine lv_iconst (v := (nI 4)) hx hb dX5_come_61 (by decide) ?_
  refine lv_icmp_ge (tgt := 78) hx hb dX5_come_62 (by decide) (fun c => absurd c (by decide)) (fun _ => ?_)
  refine lv_aload_n hx hb dX5_come_65 rfl (lv_at hl 1 rfl) ?_
  refine tr_g_used hx hb hts inB_X5 hown hK hP (hts _ mb_641) dX5_come_66 ?_
  refine lv_iload_n hx hb dX5_come_69 rfl (lv_at hl 0 rfl) ?_
  refine lv_iconst (v := (nI 0)) hx hb dX5_come_70 (by decide) ?_
  refine tr_t_used hx hb hK hP hD hS (by omega) (by first | rfl | decide) dX5_come_71 (fun H locs hP hD hS => ?_)
  refine lv_iinc (v := (nI 1)) (lv' := [(1, .int (nI 1)), (0, .ref (ad 0))]) hx hb dX5_come_72 hl (k := 0) rfl (by decide) (by decide) rfl (fun ls hl => ?_)
  refine lv_goto (tgt := 60) hx hb dX5_come_75 (by decide) ?_
  refine lv_iload_n hx hb dX5_come_60 rfl (lv_at hl 0 rfl) ?_
  refine lv_iconst (v := (nI 4)) hx hb dX5_come_61 (by decide) ?_
  refine lv_icmp_ge (tgt := 78) hx hb dX5_come_62 (by decide) (fun c => absurd c (by decide)) (fun _ => ?_)
  refine lv_aload_n hx hb dX5_come_65 rfl (lv_at hl 1 rfl) ?_
  refine tr_g_used hx hb hts inB_X5 hown hK hP (hts _ mb_641) dX5_come_66 ?_
  refine lv_iload_n hx hb dX5_come_69 rfl (lv_at hl 0 rfl) ?_
  refine lv_iconst (v := (nI 0)) hx hb dX5_come_70 (by decide) ?_
  refine tr_t_used hx hb hK hP hD hS (by omega) (by first | rfl | decide) dX5_come_71 (fun H locs hP hD hS => ?_)
  refine lv_iinc (v := (nI 2)) (lv' := [(1, .int (nI 2)), (0, .ref (ad 0))]) hx hb dX5_come_72 hl (k := 0) rfl (by decide) (by decide) rfl (fun ls hl => ?_)
  refine lv_goto (tgt := 60) hx hb dX5_come_75 (by decide) ?_
  refine lv_iload_n hx hb dX5_come_60 rfl (lv_at hl 0 rfl) ?_
  refine lv_iconst (v := (nI 4)) hx hb dX5_come_61 (by decide) ?_
  refine lv_icmp_ge (tgt := 78) hx hb dX5_come_62 (by decide) (fun c => absurd c (by decide)) (fun _ => ?_)
  refine lv_aload_n hx hb dX5_come_65 rfl (lv_at hl 1 rfl) ?_
  refine tr_g_used hx hb hts inB_X5 hown hK hP (hts _ mb_641) dX5_come_66 ?_
  refine lv_iload_n hx hb dX5_come_69 rfl (lv_at hl 0 rfl) ?_
  refine lv_iconst (v := (nI 0)) hx hb dX5_come_70 (by decide) ?_
  refine tr_t_used hx hb hK hP hD hS (by omega) (by first | rfl | decide) dX5_come_71 (fun H locs hP hD hS => ?_)
  refine lv_iinc (v := (nI 3)) (lv' := [(1, .int (nI 3)), (0, .ref (ad 0))]) hx hb dX5_come_72 hl (k := 0) rfl (by decide) (by decide) rfl (fun ls hl => ?_)
  refine lv_goto (tgt := 60) hx hb dX5_come_75 (by decide) ?_
  refine lv_iload_n hx hb dX5_come_60 rfl (lv_at hl 0 rfl) ?_
  refine lv_iconst (v := (nI 4)) hx hb dX5_come_61 (by decide) ?_
  refine lv_icmp_ge (tgt := 78) hx hb dX5_come_62 (by decide) (fun c => absurd c (by decide)) (fun _ => ?_)
  refine lv_aload_n hx hb dX5_come_65 rfl (lv_at hl 1 rfl) ?_
  refine tr_g_used hx hb hts inB_X5 hown hK hP (hts _ mb_641) dX5_come_66 ?_
  refine lv_iload_n hx hb dX5_come_69 rfl (lv_at hl 0 rfl) ?_
  refine lv_iconst (v := (nI 0)) hx hb dX5_come_70 (by decide) ?_
  refine tr_t_used hx hb hK hP hD hS (by omega) (by first | rfl | decide) dX5_come_71 (fun H locs hP hD hS => ?_)
  refine lv_iinc (v := (nI 4)) (lv' := [(1, .int (nI 4)), (0, .ref (ad 0))]) hx hb dX5_come_72 hl (k := 0) rfl (by decide) (by decide) rfl (fun ls hl => ?_)
  refine lv_goto (tgt := 60) hx hb dX5_come_75 (by decide) ?_
  refine lv_iload_n hx hb dX5_come_60 rfl (lv_at hl 0 rfl) ?_
  refine lv_iconst (v := (nI 4)) hx hb dX5_come_61 (by decide) ?_
  refine lv_icmp_ge (tgt := 78) hx hb dX5_come_62 (by decide) (fun _ => ?_) (fun c => absurd (by decide) c)
  refine lv_iconst (v := (nI 0)) hx hb dX5_come_78 (by decide) ?_
  refine lv_istore_n (lv' := [(1, .int (nI 0)), (0, .ref (ad 0))]) hx hb dX5_come_79 rfl hl (by decide) rfl (fun ls hl => ?_)
  refine lv_iload_n hx hb dX5_come_80 rfl (lv_at hl 0 rfl) ?_
  refine lv_iconst (v := (nI 3)) hx hb dX5_come_81 (by decide) ?_
  refine lv_icmp_ge (tgt := 96) hx hb dX5_come_82 (by decide) (fun c => absurd c (by decide)) (fun _ => ?_)
  refine lv_aload_n hx hb dX5_come_85 rfl (lv_at hl 1 rfl) ?_
  refine lv_iload_n hx hb dX5_come_86 rfl (lv_at hl 0 rfl) ?_
  refine kq_cV (st1 := []) ⟨hx, hb, hml, hown, hts⟩ (r_anew (tm_I (tm_I (tm_I (tm_I (tm_L (tm_L (tm_L (tm_L (tm_L (tm_L (tm_L (tm_L (tm_L (tm_L (tm_L (tm_L (tm_L (tm_L (tm_L (tm_L (tm_L (tm_D (tm_I (tm_I u 11 0 (nI 0)) 9 0 (nI 0)) 0 (u.2.2 1)) 0 2 (tm_h (u.1 0 2) 5)) 1 0 0) 1 1 0) 1 2 0) 1 3 0) 1 4 0) 1 5 0) 1 6 0) 1 7 0) 1 8 0) 1 9 0) 1 10 0) 1 11 0) 1 12 0) 1 13 0) 1 14 0) 1 15 0) 0 0 (nI 0)) 0 1 (nI 0)) 0 2 (nI 0)) 0 3 (nI 0)) (k := 0) (by omega)) (cwV 1 hts gX5_105_X5_anew rfl rfl rfl (by decide +kernel) ⟨Nat.le_of_ble_eq_true rfl, Nat.le_of_ble_eq_true rfl⟩) kq_okT hK hP hD hA hG hS (va_recv hK hP (ci := 5) (q0 := 0) rfl (tm_at (i := 0) (by omega) rfl)) rfl hl.1 rfl rfl (Nat.le_of_ble_eq_true rfl) dX5_come_87 ⟨Nat.le_of_ble_eq_true rfl, Nat.le_of_ble_eq_true rfl⟩ (fun H locs hP hD hS => ?_)
  refine lv_iinc (v := (nI 1)) (lv' := [(1, .int (nI 1)), (0, .ref (ad 0))]) hx hb dX5_come_90 hl (k := 0) rfl (by decide) (by decide) rfl (fun ls hl => ?_)
  refine lv_goto (tgt := 80) hx hb dX5_come_93 (by decide) ?_
  refine lv_iload_n hx hb dX5_come_80 rfl (lv_at hl 0 rfl) ?_
  refine lv_iconst (v := (nI 3)) hx hb dX5_come_81 (by decide) ?_
  refine lv_icmp_ge (tgt := 96) hx hb dX5_come_82 (by decide) (fun c => absurd c (by decide)) (fun _ => ?_)
  refine lv_aload_n hx hb dX5_come_85 rfl (lv_at hl 1 rfl) ?_
  refine lv_iload_n hx hb dX5_come_86 rfl (lv_at hl 0 rfl) ?_
  refine kq_cV (st1 := []) ⟨hx, hb, hml, hown, hts⟩ (r_anew (tm_I (tm_L (tm_I (tm_I (tm_I (tm_I (tm_L (tm_L (tm_L (tm_L (tm_L (tm_L (tm_L (tm_L (tm_L (tm_L (tm_L (tm_L (tm_L (tm_L (tm_L (tm_L (tm_L (tm_D (tm_I (tm_I u 11 0 (nI 0)) 9 0 (nI 0)) 0 (u.2.2 1)) 0 2 (tm_h (u.1 0 2) 5)) 1 0 0) 1 1 0) 1 2 0) 1 3 0) 1 4 0) 1 5 0) 1 6 0) 1 7 0) 1 8 0) 1 9 0) 1 10 0) 1 11 0) 1 12 0) 1 13 0) 1 14 0) 1 15 0) 0 0 (nI 0)) 0 1 (nI 0)) 0 2 (nI 0)) 0 3 (nI 0)) 6 0 0) 4 0 (nI 0)) (k := 1) (by omega)) (cwV 1 hts gX5_105_X5_anew rfl rfl rfl (by decide +kernel) ⟨Nat.le_of_ble_eq_true rfl, Nat.le_of_ble_eq_true rfl⟩) kq_okT hK hP hD hA hG hS (va_recv hK hP (ci := 5) (q0 := 0) rfl (tm_at (i := 0) (by omega) rfl)) rfl hl.1 rfl rfl (Nat.le_of_ble_eq_true rfl) dX5_come_87 ⟨Nat.le_of_ble_eq_true rfl, Nat.le_of_ble_eq_true rfl⟩ (fun H locs hP hD hS => ?_)
  refine lv_iinc (v := (nI 2)) (lv' := [(1, .int (nI 2)), (0, .ref (ad 0))]) hx hb dX5_come_90 hl (k := 0) rfl (by decide) (by decide) rfl (fun ls hl => ?_)
  refine lv_goto (tgt := 80) hx hb dX5_come_93 (by decide) ?_
  refine lv_iload_n hx hb dX5_come_80 rfl (lv_at hl 0 rfl) ?_
  refine lv_iconst (v := (nI 3)) hx hb dX5_come_81 (by decide) ?_
  refine lv_icmp_ge (tgt := 96) hx hb dX5_come_82 (by decide) (fun c => absurd c (by decide)) (fun _ => ?_)
  refine lv_aload_n hx hb dX5_come_85 rfl (lv_at hl 1 rfl) ?_
  refine lv_iload_n hx hb dX5_come_86 rfl (lv_at hl 0 rfl) ?_
  refine kq_cV (st1 := []) ⟨hx, hb, hml, hown, hts⟩ (r_anew (tm_I (tm_L (tm_I (tm_L (tm_I (tm_I (tm_I (tm_I (tm_L (tm_L (tm_L (tm_L (tm_L (tm_L (tm_L (tm_L (tm_L (tm_L (tm_L (tm_L (tm_L (tm_L (tm_L (tm_L (tm_L (tm_D (tm_I (tm_I u 11 0 (nI 0)) 9 0 (nI 0)) 0 (u.2.2 1)) 0 2 (tm_h (u.1 0 2) 5)) 1 0 0) 1 1 0) 1 2 0) 1 3 0) 1 4 0) 1 5 0) 1 6 0) 1 7 0) 1 8 0) 1 9 0) 1 10 0) 1 11 0) 1 12 0) 1 13 0) 1 14 0) 1 15 0) 0 0 (nI 0)) 0 1 (nI 0)) 0 2 (nI 0)) 0 3 (nI 0)) 6 0 0) 4 0 (nI 0)) 6 1 0) 4 1 (nI 0)) (k := 2) (by omega)) (cwV 1 hts gX5_105_X5_anew rfl rfl rfl (by decide +kernel) ⟨Nat.le_of_ble_eq_true rfl, Nat.le_of_ble_eq_true rfl⟩) kq_okT hK hP hD hA hG hS (va_recv hK hP (ci := 5) (q0 := 0) rfl (tm_at (i := 0) (by omega) rfl)) rfl hl.1 rfl rfl (Nat.le_of_ble_eq_true rfl) dX5_come_87 ⟨Nat.le_of_ble_eq_true rfl, Nat.le_of_ble_eq_true rfl⟩ (fun H locs hP hD hS => ?_)
  refine lv_iinc (v := (nI 3)) (lv' := [(1, .int (nI 3)), (0, .ref (ad 0))]) hx hb dX5_come_90 hl (k := 0) rfl (by decide) (by decide) rfl (fun ls hl => ?_)
  refine lv_goto (tgt := 80) hx hb dX5_come_93 (by decide) ?_
  refine lv_iload_n hx hb dX5_come_80 rfl (lv_at hl 0 rfl) ?_
  refine lv_iconst (v := (nI 3)) hx hb dX5_come_81 (by decide) ?_
  refine lv_icmp_ge (tgt := 96) hx hb dX5_come_82 (by decide) (fun _ => ?_) (fun c => absurd (by decide) c)
  exact kq_vret hx hb hr hlk hP hD hS dX5_come_96
set_option maxHeartbeats 4000000 in
set_option maxRecDepth 100000 in
theorem r_out_in (u : tm_S) {j n : Nat} (hj : j ≤ n) (hn : n < 2 ^ 31) : kr_M l dC dI ad cc yX5_out wsX5_out { frames := 0, cells := 0, slots := 0, locals := 0 } [.ref (ad 0), .int (nI j), .int (nI n)] u u (some (.int (nI 0))) := by
  refine kq_ofW (cc := cX5_out) (maxL := 3) (ret := (some .boolean)) (R0 := RX5) (by decide) rfl rfl (Nat.le_of_ble_eq_true rfl) ?_
  intro p e s m below meth c A ls hx hb hr hlk hml hown hts hP hK hD hA hG hS hl
  have hl : lv_has ls 3 [(0, .ref (ad 0)), (1, .int (nI j)), (2, .int (nI n))] := hl
  refine lv_iload_n hx hb dX5_out_0 rfl (lv_at hl 1 rfl) ?_
  refine lv_if_lt (tgt := 9) hx hb dX5_out_1 (by decide) (fun c => absurd c (nI_nlt (Nat.zero_le j) (by omega))) (fun _ => ?_)
  refine lv_iload_n hx hb dX5_out_4 rfl (lv_at hl 1 rfl) ?_
  refine lv_iload_n hx hb dX5_out_5 rfl (lv_at hl 2 rfl) ?_
  refine lv_icmp_le (tgt := 13) hx hb dX5_out_6 (by decide) (fun _ => ?_) (fun c => absurd (nI_le hj hn) c)
  refine lv_iconst (v := (nI 0)) hx hb dX5_out_13 (by decide) ?_
  exact kq_zret hx hb hr (by first | rfl | decide) hlk hP hD hS dX5_out_14
set_option maxHeartbeats 4000000 in
set_option maxRecDepth 100000 in
theorem r_out_n1 (u : tm_S) {x n : Int32} (h : x < 0) : kr_M l dC dI ad cc yX5_out wsX5_out { frames := 0, cells := 0, slots := 0, locals := 0 } [.ref (ad 0), .int x, .int n] u u (some (.int (nI 1))) := by
  refine kq_ofW (cc := cX5_out) (maxL := 3) (ret := (some .boolean)) (R0 := RX5) (by decide) rfl rfl (Nat.le_of_ble_eq_true rfl) ?_
  intro p e s m below meth c A ls hx hb hr hlk hml hown hts hP hK hD hA hG hS hl
  have hl : lv_has ls 3 [(0, .ref (ad 0)), (1, .int x), (2, .int n)] := hl
  refine lv_iload_n hx hb dX5_out_0 rfl (lv_at hl 1 rfl) ?_
  refine lv_if_lt (tgt := 9) hx hb dX5_out_1 (by decide) (fun _ => ?_) (fun c => absurd h c)
  refine lv_iconst (v := (nI 1)) hx hb dX5_out_9 (by decide) ?_
  refine lv_goto (tgt := 14) hx hb dX5_out_10 (by decide) ?_
  exact kq_zret hx hb hr (by first | rfl | decide) hlk hP hD hS dX5_out_14
set_option maxHeartbeats 4000000 in
set_option maxRecDepth 100000 in
theorem r_out_n2 (u : tm_S) {x n : Int32} (h : ¬ x < 0) (h2 : ¬ x ≤ n) : kr_M l dC dI ad cc yX5_out wsX5_out { frames := 0, cells := 0, slots := 0, locals := 0 } [.ref (ad 0), .int x, .int n] u u (some (.int (nI 1))) := by
  refine kq_ofW (cc := cX5_out) (maxL := 3) (ret := (some .boolean)) (R0 := RX5) (by decide) rfl rfl (Nat.le_of_ble_eq_true rfl) ?_
  intro p e s m below meth c A ls hx hb hr hlk hml hown hts hP hK hD hA hG hS hl
  have hl : lv_has ls 3 [(0, .ref (ad 0)), (1, .int x), (2, .int n)] := hl
  refine lv_iload_n hx hb dX5_out_0 rfl (lv_at hl 1 rfl) ?_
  refine lv_if_lt (tgt := 9) hx hb dX5_out_1 (by decide) (fun c => absurd c h) (fun _ => ?_)
  refine lv_iload_n hx hb dX5_out_4 rfl (lv_at hl 1 rfl) ?_
  refine lv_iload_n hx hb dX5_out_5 rfl (lv_at hl 2 rfl) ?_
  refine lv_icmp_le (tgt := 13) hx hb dX5_out_6 (by decide) (fun c => absurd c h2) (fun _ => ?_)
  refine lv_iconst (v := (nI 1)) hx hb dX5_out_9 (by decide) ?_
  refine lv_goto (tgt := 14) hx hb dX5_out_10 (by decide) ?_
  exact kq_zret hx hb hr (by first | rfl | decide) hlk hP hD hS dX5_out_14
theorem r_out_no (u : tm_S) {x n : Int32} (h : x < 0 ∨ ¬ x ≤ n) : kr_M l dC dI ad cc yX5_out wsX5_out { frames := 0, cells := 0, slots := 0, locals := 0 } [.ref (ad 0), .int x, .int n] u u (some (.int (nI 1))) := by
  by_cases h1 : x < 0
  · exact r_out_n1 u h1
  · rcases h with h | h
    · exact absurd h h1
    · exact r_out_n2 u h1 h
set_option maxHeartbeats 4000000 in
set_option maxRecDepth 100000 in
theorem r_begin_bad (u : tm_S)  : kr_M l dC dI ad cc yX5_begin wsX5_begin { frames := 0, cells := 0, slots := 0, locals := 0 } [.ref (ad 0), .int (nI 1)] u (tm_I u 14 0 (nI 1)) (some (.int (nI 0))) := by
  refine kq_ofW (cc := cX5_begin) (maxL := 2) (ret := (some .boolean)) (R0 := RX5) (by decide) rfl rfl (Nat.le_of_ble_eq_true rfl) ?_
  intro p e s m below meth c A ls hx hb hr hlk hml hown hts hP hK hD hA hG hS hl
  have hl : lv_has ls 2 [(0, .ref (ad 0)), (1, .int (nI 1))] := hl
  refine lv_aload_n hx hb dX5_begin_0 rfl (lv_at hl 0 rfl) ?_
  refine lv_iload_n hx hb dX5_begin_1 rfl (lv_at hl 1 rfl) ?_
  refine lv_if_eq (tgt := 9) hx hb dX5_begin_2 (by decide) (fun c => absurd c (by decide)) (fun _ => ?_)
  refine lv_iconst (v := (nI 1)) hx hb dX5_begin_5 (by decide) ?_
  refine lv_goto (tgt := 21) hx hb dX5_begin_6 (by decide) ?_
  refine tr_p_thrown hx hb hts inB_X5 hown hK hP hD hS (hts _ mb_652) dX5_begin_21 (fun H locs hP hD hS => ?_)
  refine lv_aload_n hx hb dX5_begin_24 rfl (lv_at hl 0 rfl) ?_
  refine tr_g_thrown hx hb hts inB_X5 hown hK hP (hts _ mb_652) dX5_begin_25 ?_
  refine kq_ti (y := (nI 1)) (by simp [tm_L, tm_I, tm_D]) ?_
  refine lv_if_ne (tgt := 35) hx hb dX5_begin_28 (by decide) (fun _ => ?_) (fun c => absurd c (by decide))
  refine lv_iconst (v := (nI 0)) hx hb dX5_begin_35 (by decide) ?_
  exact kq_zret hx hb hr (by first | rfl | decide) hlk hP hD hS dX5_begin_36
set_option maxHeartbeats 4000000 in
set_option maxRecDepth 100000 in
theorem r_begin_lost (u : tm_S) (h : ¬ u.2.1 11 0 = 0) : kr_M l dC dI ad cc yX5_begin wsX5_begin { frames := 0, cells := 0, slots := 0, locals := 0 } [.ref (ad 0), .int (nI 0)] u (tm_I u 14 0 (nI 2)) (some (.int (nI 0))) := by
  refine kq_ofW (cc := cX5_begin) (maxL := 2) (ret := (some .boolean)) (R0 := RX5) (by decide) rfl rfl (Nat.le_of_ble_eq_true rfl) ?_
  intro p e s m below meth c A ls hx hb hr hlk hml hown hts hP hK hD hA hG hS hl
  have hl : lv_has ls 2 [(0, .ref (ad 0)), (1, .int (nI 0))] := hl
  refine lv_aload_n hx hb dX5_begin_0 rfl (lv_at hl 0 rfl) ?_
  refine lv_iload_n hx hb dX5_begin_1 rfl (lv_at hl 1 rfl) ?_
  refine lv_if_eq (tgt := 9) hx hb dX5_begin_2 (by decide) (fun _ => ?_) (fun c => absurd (by decide) c)
  refine lv_aload_n hx hb dX5_begin_9 rfl (lv_at hl 0 rfl) ?_
  refine tr_g_lost hx hb hts inB_X5 hown hK hP (hts _ mb_653) dX5_begin_10 ?_
  refine lv_if_eq (tgt := 20) hx hb dX5_begin_13 (by decide) (fun c => absurd c h) (fun _ => ?_)
  refine lv_iconst (v := (nI 2)) hx hb dX5_begin_16 (by decide) ?_
  refine lv_goto (tgt := 21) hx hb dX5_begin_17 (by decide) ?_
  refine tr_p_thrown hx hb hts inB_X5 hown hK hP hD hS (hts _ mb_652) dX5_begin_21 (fun H locs hP hD hS => ?_)
  refine lv_aload_n hx hb dX5_begin_24 rfl (lv_at hl 0 rfl) ?_
  refine tr_g_thrown hx hb hts inB_X5 hown hK hP (hts _ mb_652) dX5_begin_25 ?_
  refine kq_ti (y := (nI 2)) (by simp [tm_L, tm_I, tm_D]) ?_
  refine lv_if_ne (tgt := 35) hx hb dX5_begin_28 (by decide) (fun _ => ?_) (fun c => absurd c (by decide))
  refine lv_iconst (v := (nI 0)) hx hb dX5_begin_35 (by decide) ?_
  exact kq_zret hx hb hr (by first | rfl | decide) hlk hP hD hS dX5_begin_36
set_option maxHeartbeats 4000000 in
set_option maxRecDepth 100000 in
theorem r_begin_ok (u : tm_S) (h : u.2.1 11 0 = 0) : kr_M l dC dI ad cc yX5_begin wsX5_begin { frames := 0, cells := 0, slots := 0, locals := 0 } [.ref (ad 0), .int (nI 0)] u (tm_I u 14 0 (nI 0)) (some (.int (nI 1))) := by
  refine kq_ofW (cc := cX5_begin) (maxL := 2) (ret := (some .boolean)) (R0 := RX5) (by decide) rfl rfl (Nat.le_of_ble_eq_true rfl) ?_
  intro p e s m below meth c A ls hx hb hr hlk hml hown hts hP hK hD hA hG hS hl
  have hl : lv_has ls 2 [(0, .ref (ad 0)), (1, .int (nI 0))] := hl
  refine lv_aload_n hx hb dX5_begin_0 rfl (lv_at hl 0 rfl) ?_
  refine lv_iload_n hx hb dX5_begin_1 rfl (lv_at hl 1 rfl) ?_
  refine lv_if_eq (tgt := 9) hx hb dX5_begin_2 (by decide) (fun _ => ?_) (fun c => absurd (by decide) c)
  refine lv_aload_n hx hb dX5_begin_9 rfl (lv_at hl 0 rfl) ?_
  refine tr_g_lost hx hb hts inB_X5 hown hK hP (hts _ mb_653) dX5_begin_10 ?_
  refine lv_if_eq (tgt := 20) hx hb dX5_begin_13 (by decide) (fun _ => ?_) (fun c => absurd h c)
  refine lv_iconst (v := (nI 0)) hx hb dX5_begin_20 (by decide) ?_
  refine tr_p_thrown hx hb hts inB_X5 hown hK hP hD hS (hts _ mb_652) dX5_begin_21 (fun H locs hP hD hS => ?_)
  refine lv_aload_n hx hb dX5_begin_24 rfl (lv_at hl 0 rfl) ?_
  refine tr_g_thrown hx hb hts inB_X5 hown hK hP (hts _ mb_652) dX5_begin_25 ?_
  refine kq_ti (y := (nI 0)) (by simp [tm_L, tm_I, tm_D]) ?_
  refine lv_if_ne (tgt := 35) hx hb dX5_begin_28 (by decide) (fun c => absurd (by decide) c) (fun _ => ?_)
  refine lv_iconst (v := (nI 1)) hx hb dX5_begin_31 (by decide) ?_
  refine lv_goto (tgt := 36) hx hb dX5_begin_32 (by decide) ?_
  exact kq_zret hx hb hr (by first | rfl | decide) hlk hP hD hS dX5_begin_36
set_option maxHeartbeats 4000000 in
set_option maxRecDepth 100000 in
theorem r_name (u : tm_S) {k : Nat} (hk : k < 4) : kr_M l dC dI ad cc yX5_name wsX5_name { frames := 1, cells := 0, slots := 0, locals := 26 } [.ref (ad 0), .int (nI k)] u u (some (.long (tm_h (tm_h (u.1 2 k) ((u.2.1 1 k).toInt64)) (tm_h (u.1 3 k) (u.1 4 k))))) := by
  refine kq_ofW (cc := cX5_name) (maxL := 2) (ret := (some .long)) (R0 := RX5) (by decide) rfl rfl (Nat.le_of_ble_eq_true rfl) ?_
  intro p e s m below meth c A ls hx hb hr hlk hml hown hts hP hK hD hA hG hS hl
  have hl : lv_has ls 2 [(0, .ref (ad 0)), (1, .int (nI k))] := hl
  refine lv_aload_n hx hb dX5_name_0 rfl (lv_at hl 0 rfl) ?_
  refine lv_aload_n hx hb dX5_name_1 rfl (lv_at hl 0 rfl) ?_
  refine lv_aload_n hx hb dX5_name_2 rfl (lv_at hl 0 rfl) ?_
  refine tr_g_keyValue hx hb hts inB_X5 hown hK hP (hts _ mb_636) dX5_name_3 ?_
  refine lv_iload_n hx hb dX5_name_6 rfl (lv_at hl 1 rfl) ?_
  refine tr_l_keyValue hx hb hK hP (by omega) dX5_name_7 ?_
  refine lv_aload_n hx hb dX5_name_8 rfl (lv_at hl 0 rfl) ?_
  refine tr_g_word hx hb hts inB_X5 hown hK hP (hts _ mb_639) dX5_name_9 ?_
  refine lv_iload_n hx hb dX5_name_12 rfl (lv_at hl 1 rfl) ?_
  refine tr_l_word hx hb hK hP (by omega) dX5_name_13 ?_
  refine lv_i2l (v := (u.2.1 1 k).toInt64) hx hb dX5_name_14 rfl ?_
  refine kq_cV (st1 := [.long (tm_h (u.1 2 k) ((u.2.1 1 k).toInt64)), .ref (ad 0)]) ⟨hx, hb, hml, hown, hts⟩ (r_mix u (u.1 2 k) ((u.2.1 1 k).toInt64)) (cwV 2 hts gX5_74_X5_mix rfl rfl rfl (by decide +kernel) ⟨Nat.le_of_ble_eq_true rfl, Nat.le_of_ble_eq_true rfl⟩) kq_okT hK hP hD hA hG hS (va_recv hK hP (ci := 5) (q0 := 0) rfl (tm_at (i := 0) (by omega) rfl)) rfl hl.1 rfl rfl (Nat.le_of_ble_eq_true rfl) dX5_name_15 ⟨Nat.le_of_ble_eq_true rfl, Nat.le_of_ble_eq_true rfl⟩ (fun H locs hP hD hS => ?_)
  refine lv_aload_n hx hb dX5_name_18 rfl (lv_at hl 0 rfl) ?_
  refine lv_aload_n hx hb dX5_name_19 rfl (lv_at hl 0 rfl) ?_
  refine tr_g_policy hx hb hts inB_X5 hown hK hP (hts _ mb_637) dX5_name_20 ?_
  refine lv_iload_n hx hb dX5_name_23 rfl (lv_at hl 1 rfl) ?_
  refine tr_l_policy hx hb hK hP (by omega) dX5_name_24 ?_
  refine lv_aload_n hx hb dX5_name_25 rfl (lv_at hl 0 rfl) ?_
  refine tr_g_secret hx hb hts inB_X5 hown hK hP (hts _ mb_638) dX5_name_26 ?_
  refine lv_iload_n hx hb dX5_name_29 rfl (lv_at hl 1 rfl) ?_
  refine tr_l_secret hx hb hK hP (by omega) dX5_name_30 ?_
  refine kq_cV (st1 := [.long (tm_h (u.1 3 k) (u.1 4 k)), .long (tm_h (u.1 2 k) ((u.2.1 1 k).toInt64)), .ref (ad 0)]) ⟨hx, hb, hml, hown, hts⟩ (r_mix u (u.1 3 k) (u.1 4 k)) (cwV 2 hts gX5_74_X5_mix rfl rfl rfl (by decide +kernel) ⟨Nat.le_of_ble_eq_true rfl, Nat.le_of_ble_eq_true rfl⟩) kq_okT hK hP hD hA hG hS (va_recv hK hP (ci := 5) (q0 := 0) rfl (tm_at (i := 0) (by omega) rfl)) rfl hl.1 rfl rfl (Nat.le_of_ble_eq_true rfl) dX5_name_31 ⟨Nat.le_of_ble_eq_true rfl, Nat.le_of_ble_eq_true rfl⟩ (fun H locs hP hD hS => ?_)
  refine kq_cV (st1 := [.long (tm_h (tm_h (u.1 2 k) ((u.2.1 1 k).toInt64)) (tm_h (u.1 3 k) (u.1 4 k)))]) ⟨hx, hb, hml, hown, hts⟩ (r_mix u (tm_h (u.1 2 k) ((u.2.1 1 k).toInt64)) (tm_h (u.1 3 k) (u.1 4 k))) (cwV 2 hts gX5_74_X5_mix rfl rfl rfl (by decide +kernel) ⟨Nat.le_of_ble_eq_true rfl, Nat.le_of_ble_eq_true rfl⟩) kq_okT hK hP hD hA hG hS (va_recv hK hP (ci := 5) (q0 := 0) rfl (tm_at (i := 0) (by omega) rfl)) rfl hl.1 rfl rfl (Nat.le_of_ble_eq_true rfl) dX5_name_34 ⟨Nat.le_of_ble_eq_true rfl, Nat.le_of_ble_eq_true rfl⟩ (fun H locs hP hD hS => ?_)
  exact kq_lret hx hb hr hlk hP hD hS dX5_name_37
set_option maxHeartbeats 4000000 in
set_option maxRecDepth 100000 in
theorem r_seal (u : tm_S) {j k : Nat} (hj : j < 4) (hk : k < 8) : kr_M l dC dI ad cc yX5_seal wsX5_seal { frames := 1, cells := 0, slots := 0, locals := 26 } [.ref (ad 0), .int (nI j), .int (nI k)] u u (some (.long (tm_h (tm_h (u.1 2 j) 3) (tm_h (tm_h (u.1 5 (4 * k + 0)) (u.1 5 (4 * k + 1))) (u.1 5 (4 * k + 2)))))) := by
  refine kq_ofW (cc := cX5_seal) (maxL := 3) (ret := (some .long)) (R0 := RX5) (by decide) rfl rfl (Nat.le_of_ble_eq_true rfl) ?_
  intro p e s m below meth c A ls hx hb hr hlk hml hown hts hP hK hD hA hG hS hl
  have hl : lv_has ls 3 [(0, .ref (ad 0)), (1, .int (nI j)), (2, .int (nI k))] := hl
  refine lv_aload_n hx hb dX5_seal_0 rfl (lv_at hl 0 rfl) ?_
  refine lv_aload_n hx hb dX5_seal_1 rfl (lv_at hl 0 rfl) ?_
  refine lv_aload_n hx hb dX5_seal_2 rfl (lv_at hl 0 rfl) ?_
  refine tr_g_keyValue hx hb hts inB_X5 hown hK hP (hts _ mb_636) dX5_seal_3 ?_
  refine lv_iload_n hx hb dX5_seal_6 rfl (lv_at hl 1 rfl) ?_
  refine tr_l_keyValue hx hb hK hP (by omega) dX5_seal_7 ?_
  refine lv_ldc2 hx hb hown (hts _ mb_758) dX5_seal_8 ?_
  refine kq_cV (st1 := [.long (tm_h (u.1 2 j) 3), .ref (ad 0)]) ⟨hx, hb, hml, hown, hts⟩ (r_mix u (u.1 2 j) 3) (cwV 2 hts gX5_74_X5_mix rfl rfl rfl (by decide +kernel) ⟨Nat.le_of_ble_eq_true rfl, Nat.le_of_ble_eq_true rfl⟩) kq_okT hK hP hD hA hG hS (va_recv hK hP (ci := 5) (q0 := 0) rfl (tm_at (i := 0) (by omega) rfl)) rfl hl.1 rfl rfl (Nat.le_of_ble_eq_true rfl) dX5_seal_11 ⟨Nat.le_of_ble_eq_true rfl, Nat.le_of_ble_eq_true rfl⟩ (fun H locs hP hD hS => ?_)
  refine lv_aload_n hx hb dX5_seal_14 rfl (lv_at hl 0 rfl) ?_
  refine lv_aload_n hx hb dX5_seal_15 rfl (lv_at hl 0 rfl) ?_
  refine lv_aload_n hx hb dX5_seal_16 rfl (lv_at hl 0 rfl) ?_
  refine tr_g_blob hx hb hts inB_X5 hown hK hP (hts _ mb_633) dX5_seal_17 ?_
  refine lv_iload_n hx hb dX5_seal_20 rfl (lv_at hl 2 rfl) ?_
  refine lv_iconst (v := (nI 4)) hx hb dX5_seal_21 (by decide) ?_
  refine lv_imul hx hb dX5_seal_22 ?_
  refine kq_ti (y := (nI (4 * k))) (by rw [pk_mul, Nat.mul_comm]) ?_
  refine tr_l_blob hx hb hK hP (by omega) dX5_seal_23 ?_
  refine lv_aload_n hx hb dX5_seal_24 rfl (lv_at hl 0 rfl) ?_
  refine tr_g_blob hx hb hts inB_X5 hown hK hP (hts _ mb_633) dX5_seal_25 ?_
  refine lv_iload_n hx hb dX5_seal_28 rfl (lv_at hl 2 rfl) ?_
  refine lv_iconst (v := (nI 4)) hx hb dX5_seal_29 (by decide) ?_
  refine lv_imul hx hb dX5_seal_30 ?_
  refine kq_ti (y := (nI (4 * k))) (by rw [pk_mul, Nat.mul_comm]) ?_
  refine lv_iconst (v := (nI 1)) hx hb dX5_seal_31 (by decide) ?_
  refine lv_iadd hx hb dX5_seal_32 ?_
  refine kq_ti (y := (nI (4 * k + 1))) (nI_add (4 * k) 1) ?_
  refine tr_l_blob hx hb hK hP (by omega) dX5_seal_33 ?_
  refine kq_cV (st1 := [.long (tm_h (u.1 5 (4 * k + 0)) (u.1 5 (4 * k + 1))), .ref (ad 0), .long (tm_h (u.1 2 j) 3), .ref (ad 0)]) ⟨hx, hb, hml, hown, hts⟩ (r_mix u (u.1 5 (4 * k + 0)) (u.1 5 (4 * k + 1))) (cwV 2 hts gX5_74_X5_mix rfl rfl rfl (by decide +kernel) ⟨Nat.le_of_ble_eq_true rfl, Nat.le_of_ble_eq_true rfl⟩) kq_okT hK hP hD hA hG hS (va_recv hK hP (ci := 5) (q0 := 0) rfl (tm_at (i := 0) (by omega) rfl)) rfl hl.1 rfl rfl (Nat.le_of_ble_eq_true rfl) dX5_seal_34 ⟨Nat.le_of_ble_eq_true rfl, Nat.le_of_ble_eq_true rfl⟩ (fun H locs hP hD hS => ?_)
  refine lv_aload_n hx hb dX5_seal_37 rfl (lv_at hl 0 rfl) ?_
  refine tr_g_blob hx hb hts inB_X5 hown hK hP (hts _ mb_633) dX5_seal_38 ?_
  refine lv_iload_n hx hb dX5_seal_41 rfl (lv_at hl 2 rfl) ?_
  refine lv_iconst (v := (nI 4)) hx hb dX5_seal_42 (by decide) ?_
  refine lv_imul hx hb dX5_seal_43 ?_
  refine kq_ti (y := (nI (4 * k))) (by rw [pk_mul, Nat.mul_comm]) ?_
  refine lv_iconst (v := (nI 2)) hx hb dX5_seal_44 (by decide) ?_
  refine lv_iadd hx hb dX5_seal_45 ?_
  refine kq_ti (y := (nI (4 * k + 2))) (nI_add (4 * k) 2) ?_
  refine tr_l_blob hx hb hK hP (by omega) dX5_seal_46 ?_
  refine kq_cV (st1 := [.long (tm_h (tm_h (u.1 5 (4 * k + 0)) (u.1 5 (4 * k + 1))) (u.1 5 (4 * k + 2))), .long (tm_h (u.1 2 j) 3), .ref (ad 0)]) ⟨hx, hb, hml, hown, hts⟩ (r_mix u (tm_h (u.1 5 (4 * k + 0)) (u.1 5 (4 * k + 1))) (u.1 5 (4 * k + 2))) (cwV 2 hts gX5_74_X5_mix rfl rfl rfl (by decide +kernel) ⟨Nat.le_of_ble_eq_true rfl, Nat.le_of_ble_eq_true rfl⟩) kq_okT hK hP hD hA hG hS (va_recv hK hP (ci := 5) (q0 := 0) rfl (tm_at (i := 0) (by omega) rfl)) rfl hl.1 rfl rfl (Nat.le_of_ble_eq_true rfl) dX5_seal_47 ⟨Nat.le_of_ble_eq_true rfl, Nat.le_of_ble_eq_true rfl⟩ (fun H locs hP hD hS => ?_)
  refine kq_cV (st1 := [.long (tm_h (tm_h (u.1 2 j) 3) (tm_h (tm_h (u.1 5 (4 * k + 0)) (u.1 5 (4 * k + 1))) (u.1 5 (4 * k + 2))))]) ⟨hx, hb, hml, hown, hts⟩ (r_mix u (tm_h (u.1 2 j) 3) (tm_h (tm_h (u.1 5 (4 * k + 0)) (u.1 5 (4 * k + 1))) (u.1 5 (4 * k + 2)))) (cwV 2 hts gX5_74_X5_mix rfl rfl rfl (by decide +kernel) ⟨Nat.le_of_ble_eq_true rfl, Nat.le_of_ble_eq_true rfl⟩) kq_okT hK hP hD hA hG hS (va_recv hK hP (ci := 5) (q0 := 0) rfl (tm_at (i := 0) (by omega) rfl)) rfl hl.1 rfl rfl (Nat.le_of_ble_eq_true rfl) dX5_seal_50 ⟨Nat.le_of_ble_eq_true rfl, Nat.le_of_ble_eq_true rfl⟩ (fun H locs hP hD hS => ?_)
  exact kq_lret hx hb hr hlk hP hD hS dX5_seal_53
set_option maxHeartbeats 4000000 in
set_option maxRecDepth 100000 in
theorem r_room_0 (u : tm_S)  (h0 : u.2.1 0 0 = 0) : kr_M l dC dI ad cc yX5_room wsX5_room { frames := 0, cells := 0, slots := 0, locals := 0 } [.ref (ad 0)] u u (some (.int (nI 0))) := by
  refine kq_ofW (cc := cX5_room) (maxL := 2) (ret := (some .int)) (R0 := RX5) (by decide) rfl rfl (Nat.le_of_ble_eq_true rfl) ?_
  intro p e s m below meth c A ls hx hb hr hlk hml hown hts hP hK hD hA hG hS hl
  have hl : lv_has ls 2 [(0, .ref (ad 0))] := hl
  refine lv_iconst (v := (nI 0)) hx hb dX5_room_0 (by decide) ?_
  refine lv_istore_n (lv' := [(1, .int (nI 0)), (0, .ref (ad 0))]) hx hb dX5_room_1 rfl hl (by decide) rfl (fun ls hl => ?_)
  refine lv_iload_n hx hb dX5_room_2 rfl (lv_at hl 0 rfl) ?_
  refine lv_iconst (v := (nI 4)) hx hb dX5_room_3 (by decide) ?_
  refine lv_icmp_ge (tgt := 22) hx hb dX5_room_4 (by decide) (fun c => absurd c (by decide)) (fun _ => ?_)
  refine lv_aload_n hx hb dX5_room_7 rfl (lv_at hl 1 rfl) ?_
  refine tr_g_used hx hb hts inB_X5 hown hK hP (hts _ mb_641) dX5_room_8 ?_
  refine lv_iload_n hx hb dX5_room_11 rfl (lv_at hl 0 rfl) ?_
  refine tr_l_used hx hb hK hP (by omega) dX5_room_12 ?_
  refine lv_if_eq (tgt := 22) hx hb dX5_room_13 (by decide) (fun _ => ?_) (fun c => absurd h0 c)
  refine lv_iload_n hx hb dX5_room_22 rfl (lv_at hl 0 rfl) ?_
  refine lv_iconst (v := (nI 4)) hx hb dX5_room_23 (by decide) ?_
  refine lv_icmp_ne (tgt := 32) hx hb dX5_room_24 (by decide) (fun _ => ?_) (fun c => absurd c (by decide))
  refine lv_iload_n hx hb dX5_room_32 rfl (lv_at hl 0 rfl) ?_
  exact kq_iret hx hb hr hlk hP hD hS dX5_room_33
set_option maxHeartbeats 4000000 in
set_option maxRecDepth 100000 in
theorem r_room_1 (u : tm_S) (h0 : ¬ u.2.1 0 0 = 0) (h1 : u.2.1 0 1 = 0) : kr_M l dC dI ad cc yX5_room wsX5_room { frames := 0, cells := 0, slots := 0, locals := 0 } [.ref (ad 0)] u u (some (.int (nI 1))) := by
  refine kq_ofW (cc := cX5_room) (maxL := 2) (ret := (some .int)) (R0 := RX5) (by decide) rfl rfl (Nat.le_of_ble_eq_true rfl) ?_
  intro p e s m below meth c A ls hx hb hr hlk hml hown hts hP hK hD hA hG hS hl
  have hl : lv_has ls 2 [(0, .ref (ad 0))] := hl
  refine lv_iconst (v := (nI 0)) hx hb dX5_room_0 (by decide) ?_
  refine lv_istore_n (lv' := [(1, .int (nI 0)), (0, .ref (ad 0))]) hx hb dX5_room_1 rfl hl (by decide) rfl (fun ls hl => ?_)
  refine lv_iload_n hx hb dX5_room_2 rfl (lv_at hl 0 rfl) ?_
  refine lv_iconst (v := (nI 4)) hx hb dX5_room_3 (by decide) ?_
  refine lv_icmp_ge (tgt := 22) hx hb dX5_room_4 (by decide) (fun c => absurd c (by decide)) (fun _ => ?_)
  refine lv_aload_n hx hb dX5_room_7 rfl (lv_at hl 1 rfl) ?_
  refine tr_g_used hx hb hts inB_X5 hown hK hP (hts _ mb_641) dX5_room_8 ?_
  refine lv_iload_n hx hb dX5_room_11 rfl (lv_at hl 0 rfl) ?_
  refine tr_l_used hx hb hK hP (by omega) dX5_room_12 ?_
  refine lv_if_eq (tgt := 22) hx hb dX5_room_13 (by decide) (fun c => absurd c h0) (fun _ => ?_)
  refine lv_iinc (v := (nI 1)) (lv' := [(1, .int (nI 1)), (0, .ref (ad 0))]) hx hb dX5_room_16 hl (k := 0) rfl (by decide) (by decide) rfl (fun ls hl => ?_)
  refine lv_goto (tgt := 2) hx hb dX5_room_19 (by decide) ?_
  refine lv_iload_n hx hb dX5_room_2 rfl (lv_at hl 0 rfl) ?_
  refine lv_iconst (v := (nI 4)) hx hb dX5_room_3 (by decide) ?_
  refine lv_icmp_ge (tgt := 22) hx hb dX5_room_4 (by decide) (fun c => absurd c (by decide)) (fun _ => ?_)
  refine lv_aload_n hx hb dX5_room_7 rfl (lv_at hl 1 rfl) ?_
  refine tr_g_used hx hb hts inB_X5 hown hK hP (hts _ mb_641) dX5_room_8 ?_
  refine lv_iload_n hx hb dX5_room_11 rfl (lv_at hl 0 rfl) ?_
  refine tr_l_used hx hb hK hP (by omega) dX5_room_12 ?_
  refine lv_if_eq (tgt := 22) hx hb dX5_room_13 (by decide) (fun _ => ?_) (fun c => absurd h1 c)
  refine lv_iload_n hx hb dX5_room_22 rfl (lv_at hl 0 rfl) ?_
  refine lv_iconst (v := (nI 4)) hx hb dX5_room_23 (by decide) ?_
  refine lv_icmp_ne (tgt := 32) hx hb dX5_room_24 (by decide) (fun _ => ?_) (fun c => absurd c (by decide))
  refine lv_iload_n hx hb dX5_room_32 rfl (lv_at hl 0 rfl) ?_
  exact kq_iret hx hb hr hlk hP hD hS dX5_room_33
set_option maxHeartbeats 4000000 in
set_option maxRecDepth 100000 in
theorem r_room_2 (u : tm_S) (h0 : ¬ u.2.1 0 0 = 0) (h1 : ¬ u.2.1 0 1 = 0) (h2 : u.2.1 0 2 = 0) : kr_M l dC dI ad cc yX5_room wsX5_room { frames := 0, cells := 0, slots := 0, locals := 0 } [.ref (ad 0)] u u (some (.int (nI 2))) := by
  refine kq_ofW (cc := cX5_room) (maxL := 2) (ret := (some .int)) (R0 := RX5) (by decide) rfl rfl (Nat.le_of_ble_eq_true rfl) ?_
  intro p e s m below meth c A ls hx hb hr hlk hml hown hts hP hK hD hA hG hS hl
  have hl : lv_has ls 2 [(0, .ref (ad 0))] := hl
  refine lv_iconst (v := (nI 0)) hx hb dX5_room_0 (by decide) ?_
  refine lv_istore_n (lv' := [(1, .int (nI 0)), (0, .ref (ad 0))]) hx hb dX5_room_1 rfl hl (by decide) rfl (fun ls hl => ?_)
  refine lv_iload_n hx hb dX5_room_2 rfl (lv_at hl 0 rfl) ?_
  refine lv_iconst (v := (nI 4)) hx hb dX5_room_3 (by decide) ?_
  refine lv_icmp_ge (tgt := 22) hx hb dX5_room_4 (by decide) (fun c => absurd c (by decide)) (fun _ => ?_)
  refine lv_aload_n hx hb dX5_room_7 rfl (lv_at hl 1 rfl) ?_
  refine tr_g_used hx hb hts inB_X5 hown hK hP (hts _ mb_641) dX5_room_8 ?_
  refine lv_iload_n hx hb dX5_room_11 rfl (lv_at hl 0 rfl) ?_
  refine tr_l_used hx hb hK hP (by omega) dX5_room_12 ?_
  refine lv_if_eq (tgt := 22) hx hb dX5_room_13 (by decide) (fun c => absurd c h0) (fun _ => ?_)
  refine lv_iinc (v := (nI 1)) (lv' := [(1, .int (nI 1)), (0, .ref (ad 0))]) hx hb dX5_room_16 hl (k := 0) rfl (by decide) (by decide) rfl (fun ls hl => ?_)
  refine lv_goto (tgt := 2) hx hb dX5_room_19 (by decide) ?_
  refine lv_iload_n hx hb dX5_room_2 rfl (lv_at hl 0 rfl) ?_
  refine lv_iconst (v := (nI 4)) hx hb dX5_room_3 (by decide) ?_
  refine lv_icmp_ge (tgt := 22) hx hb dX5_room_4 (by decide) (fun c => absurd c (by decide)) (fun _ => ?_)
  refine lv_aload_n hx hb dX5_room_7 rfl (lv_at hl 1 rfl) ?_
  refine tr_g_used hx hb hts inB_X5 hown hK hP (hts _ mb_641) dX5_room_8 ?_
  refine lv_iload_n hx hb dX5_room_11 rfl (lv_at hl 0 rfl) ?_
  refine tr_l_used hx hb hK hP (by omega) dX5_room_12 ?_
  refine lv_if_eq (tgt := 22) hx hb dX5_room_13 (by decide) (fun c => absurd c h1) (fun _ => ?_)
  refine lv_iinc (v := (nI 2)) (lv' := [(1, .int (nI 2)), (0, .ref (ad 0))]) hx hb dX5_room_16 hl (k := 0) rfl (by decide) (by decide) rfl (fun ls hl => ?_)
  refine lv_goto (tgt := 2) hx hb dX5_room_19 (by decide) ?_
  refine lv_iload_n hx hb dX5_room_2 rfl (lv_at hl 0 rfl) ?_
  refine lv_iconst (v := (nI 4)) hx hb dX5_room_3 (by decide) ?_
  refine lv_icmp_ge (tgt := 22) hx hb dX5_room_4 (by decide) (fun c => absurd c (by decide)) (fun _ => ?_)
  refine lv_aload_n hx hb dX5_room_7 rfl (lv_at hl 1 rfl) ?_
  refine tr_g_used hx hb hts inB_X5 hown hK hP (hts _ mb_641) dX5_room_8 ?_
  refine lv_iload_n hx hb dX5_room_11 rfl (lv_at hl 0 rfl) ?_
  refine tr_l_used hx hb hK hP (by omega) dX5_room_12 ?_
  refine lv_if_eq (tgt := 22) hx hb dX5_room_13 (by decide) (fun _ => ?_) (fun c => absurd h2 c)
  refine lv_iload_n hx hb dX5_room_22 rfl (lv_at hl 0 rfl) ?_
  refine lv_iconst (v := (nI 4)) hx hb dX5_room_23 (by decide) ?_
  refine lv_icmp_ne (tgt := 32) hx hb dX5_room_24 (by decide) (fun _ => ?_) (fun c => absurd c (by decide))
  refine lv_iload_n hx hb dX5_room_32 rfl (lv_at hl 0 rfl) ?_
  exact kq_iret hx hb hr hlk hP hD hS dX5_room_33
set_option maxHeartbeats 4000000 in
set_option maxRecDepth 100000 in
theorem r_room_3 (u : tm_S) (h0 : ¬ u.2.1 0 0 = 0) (h1 : ¬ u.2.1 0 1 = 0) (h2 : ¬ u.2.1 0 2 = 0) (h3 : u.2.1 0 3 = 0) : kr_M l dC dI ad cc yX5_room wsX5_room { frames := 0, cells := 0, slots := 0, locals := 0 } [.ref (ad 0)] u u (some (.int (nI 3))) := by
  refine kq_ofW (cc := cX5_room) (maxL := 2) (ret := (some .int)) (R0 := RX5) (by decide) rfl rfl (Nat.le_of_ble_eq_true rfl) ?_
  intro p e s m below meth c A ls hx hb hr hlk hml hown hts hP hK hD hA hG hS hl
  have hl : lv_has ls 2 [(0, .ref (ad 0))] := hl
  refine lv_iconst (v := (nI 0)) hx hb dX5_room_0 (by decide) ?_
  refine lv_istore_n (lv' := [(1, .int (nI 0)), (0, .ref (ad 0))]) hx hb dX5_room_1 rfl hl (by decide) rfl (fun ls hl => ?_)
  refine lv_iload_n hx hb dX5_room_2 rfl (lv_at hl 0 rfl) ?_
  refine lv_iconst (v := (nI 4)) hx hb dX5_room_3 (by decide) ?_
  refine lv_icmp_ge (tgt := 22) hx hb dX5_room_4 (by decide) (fun c => absurd c (by decide)) (fun _ => ?_)
  refine lv_aload_n hx hb dX5_room_7 rfl (lv_at hl 1 rfl) ?_
  refine tr_g_used hx hb hts inB_X5 hown hK hP (hts _ mb_641) dX5_room_8 ?_
  refine lv_iload_n hx hb dX5_room_11 rfl (lv_at hl 0 rfl) ?_
  refine tr_l_used hx hb hK hP (by omega) dX5_room_12 ?_
  refine lv_if_eq (tgt := 22) hx hb dX5_room_13 (by decide) (fun c => absurd c h0) (fun _ => ?_)
  refine lv_iinc (v := (nI 1)) (lv' := [(1, .int (nI 1)), (0, .ref (ad 0))]) hx hb dX5_room_16 hl (k := 0) rfl (by decide) (by decide) rfl (fun ls hl => ?_)
  refine lv_goto (tgt := 2) hx hb dX5_room_19 (by decide) ?_
  refine lv_iload_n hx hb dX5_room_2 rfl (lv_at hl 0 rfl) ?_
  refine lv_iconst (v := (nI 4)) hx hb dX5_room_3 (by decide) ?_
  refine lv_icmp_ge (tgt := 22) hx hb dX5_room_4 (by decide) (fun c => absurd c (by decide)) (fun _ => ?_)
  refine lv_aload_n hx hb dX5_room_7 rfl (lv_at hl 1 rfl) ?_
  refine tr_g_used hx hb hts inB_X5 hown hK hP (hts _ mb_641) dX5_room_8 ?_
  refine lv_iload_n hx hb dX5_room_11 rfl (lv_at hl 0 rfl) ?_
  refine tr_l_used hx hb hK hP (by omega) dX5_room_12 ?_
  refine lv_if_eq (tgt := 22) hx hb dX5_room_13 (by decide) (fun c => absurd c h1) (fun _ => ?_)
  refine lv_iinc (v := (nI 2)) (lv' := [(1, .int (nI 2)), (0, .ref (ad 0))]) hx hb dX5_room_16 hl (k := 0) rfl (by decide) (by decide) rfl (fun ls hl => ?_)
  refine lv_goto (tgt := 2) hx hb dX5_room_19 (by decide) ?_
  refine lv_iload_n hx hb dX5_room_2 rfl (lv_at hl 0 rfl) ?_
  refine lv_iconst (v := (nI 4)) hx hb dX5_room_3 (by decide) ?_
  refine lv_icmp_ge (tgt := 22) hx hb dX5_room_4 (by decide) (fun c => absurd c (by decide)) (fun _ => ?_)
  refine lv_aload_n hx hb dX5_room_7 rfl (lv_at hl 1 rfl) ?_
  refine tr_g_used hx hb hts inB_X5 hown hK hP (hts _ mb_641) dX5_room_8 ?_
  refine lv_iload_n hx hb dX5_room_11 rfl (lv_at hl 0 rfl) ?_
  refine tr_l_used hx hb hK hP (by omega) dX5_room_12 ?_
  refine lv_if_eq (tgt := 22) hx hb dX5_room_13 (by decide) (fun c => absurd c h2) (fun _ => ?_)
  refine lv_iinc (v := (nI 3)) (lv' := [(1, .int (nI 3)), (0, .ref (ad 0))]) hx hb dX5_room_16 hl (k := 0) rfl (by decide) (by decide) rfl (fun ls hl => ?_)
  refine lv_goto (tgt := 2) hx hb dX5_room_19 (by decide) ?_
  refine lv_iload_n hx hb dX5_room_2 rfl (lv_at hl 0 rfl) ?_
  refine lv_iconst (v := (nI 4)) hx hb dX5_room_3 (by decide) ?_
  refine lv_icmp_ge (tgt := 22) hx hb dX5_room_4 (by decide) (fun c => absurd c (by decide)) (fun _ => ?_)
  refine lv_aload_n hx hb dX5_room_7 rfl (lv_at hl 1 rfl) ?_
  refine tr_g_used hx hb hts inB_X5 hown hK hP (hts _ mb_641) dX5_room_8 ?_
  refine lv_iload_n hx hb dX5_room_11 rfl (lv_at hl 0 rfl) ?_
  refine tr_l_used hx hb hK hP (by omega) dX5_room_12 ?_
  refine lv_if_eq (tgt := 22) hx hb dX5_room_13 (by decide) (fun _ => ?_) (fun c => absurd h3 c)
  refine lv_iload_n hx hb dX5_room_22 rfl (lv_at hl 0 rfl) ?_
  refine lv_iconst (v := (nI 4)) hx hb dX5_room_23 (by decide) ?_
  refine lv_icmp_ne (tgt := 32) hx hb dX5_room_24 (by decide) (fun _ => ?_) (fun c => absurd c (by decide))
  refine lv_iload_n hx hb dX5_room_32 rfl (lv_at hl 0 rfl) ?_
  exact kq_iret hx hb hr hlk hP hD hS dX5_room_33
set_option maxHeartbeats 4000000 in
set_option maxRecDepth 100000 in
theorem r_room_4 (u : tm_S) (h0 : ¬ u.2.1 0 0 = 0) (h1 : ¬ u.2.1 0 1 = 0) (h2 : ¬ u.2.1 0 2 = 0) (h3 : ¬ u.2.1 0 3 = 0) : kr_M l dC dI ad cc yX5_room wsX5_room { frames := 0, cells := 0, slots := 0, locals := 0 } [.ref (ad 0)] u (tm_I u 14 0 (nI 2)) (some (.int (nI 4))) := by
  refine kq_ofW (cc := cX5_room) (maxL := 2) (ret := (some .int)) (R0 := RX5) (by decide) rfl rfl (Nat.le_of_ble_eq_true rfl) ?_
  intro p e s m below meth c A ls hx hb hr hlk hml hown hts hP hK hD hA hG hS hl
  have hl : lv_has ls 2 [(0, .ref (ad 0))] := hl
  refine lv_iconst (v := (nI 0)) hx hb dX5_room_0 (by decide) ?_
  refine lv_istore_n (lv' := [(1, .int (nI 0)), (0, .ref (ad 0))]) hx hb dX5_room_1 rfl hl (by decide) rfl (fun ls hl => ?_)
  refine lv_iload_n hx hb dX5_room_2 rfl (lv_at hl 0 rfl) ?_
  refine lv_iconst (v := (nI 4)) hx hb dX5_room_3 (by decide) ?_
  refine lv_icmp_ge (tgt := 22) hx hb dX5_room_4 (by decide) (fun c => absurd c (by decide)) (fun _ => ?_)
  refine lv_aload_n hx hb dX5_room_7 rfl (lv_at hl 1 rfl) ?_
  refine tr_g_used hx hb hts inB_X5 hown hK hP (hts _ mb_641) dX5_room_8 ?_
  refine lv_iload_n hx hb dX5_room_11 rfl (lv_at hl 0 rfl) ?_
  refine tr_l_used hx hb hK hP (by omega) dX5_room_12 ?_
  refine lv_if_eq (tgt := 22) hx hb dX5_room_13 (by decide) (fun c => absurd c h0) (fun _ => ?_)
  refine lv_iinc (v := (nI 1)) (lv' := [(1, .int (nI 1)), (0, .ref (ad 0))]) hx hb dX5_room_16 hl (k := 0) rfl (by decide) (by decide) rfl (fun ls hl => ?_)
  refine lv_goto (tgt := 2) hx hb dX5_room_19 (by decide) ?_
  refine lv_iload_n hx hb dX5_room_2 rfl (lv_at hl 0 rfl) ?_
  refine lv_iconst (v := (nI 4)) hx hb dX5_room_3 (by decide) ?_
  refine lv_icmp_ge (tgt := 22) hx hb dX5_room_4 (by decide) (fun c => absurd c (by decide)) (fun _ => ?_)
  refine lv_aload_n hx hb dX5_room_7 rfl (lv_at hl 1 rfl) ?_
  refine tr_g_used hx hb hts inB_X5 hown hK hP (hts _ mb_641) dX5_room_8 ?_
  refine lv_iload_n hx hb dX5_room_11 rfl (lv_at hl 0 rfl) ?_
  refine tr_l_used hx hb hK hP (by omega) dX5_room_12 ?_
  refine lv_if_eq (tgt := 22) hx hb dX5_room_13 (by decide) (fun c => absurd c h1) (fun _ => ?_)
  refine lv_iinc (v := (nI 2)) (lv' := [(1, .int (nI 2)), (0, .ref (ad 0))]) hx hb dX5_room_16 hl (k := 0) rfl (by decide) (by decide) rfl (fun ls hl => ?_)
  refine lv_goto (tgt := 2) hx hb dX5_room_19 (by decide) ?_
  refine lv_iload_n hx hb dX5_room_2 rfl (lv_at hl 0 rfl) ?_
  refine lv_iconst (v := (nI 4)) hx hb dX5_room_3 (by decide) ?_
  refine lv_icmp_ge (tgt := 22) hx hb dX5_room_4 (by decide) (fun c => absurd c (by decide)) (fun _ => ?_)
  refine lv_aload_n hx hb dX5_room_7 rfl (lv_at hl 1 rfl) ?_
  refine tr_g_used hx hb hts inB_X5 hown hK hP (hts _ mb_641) dX5_room_8 ?_
  refine lv_iload_n hx hb dX5_room_11 rfl (lv_at hl 0 rfl) ?_
  refine tr_l_used hx hb hK hP (by omega) dX5_room_12 ?_
  refine lv_if_eq (tgt := 22) hx hb dX5_room_13 (by decide) (fun c => absurd c h2) (fun _ => ?_)
  refine lv_iinc (v := (nI 3)) (lv' := [(1, .int (nI 3)), (0, .ref (ad 0))]) hx hb dX5_room_16 hl (k := 0) rfl (by decide) (by decide) rfl (fun ls hl => ?_)
  refine lv_goto (tgt := 2) hx hb dX5_room_19 (by decide) ?_
  refine lv_iload_n hx hb dX5_room_2 rfl (lv_at hl 0 rfl) ?_
  refine lv_iconst (v := (nI 4)) hx hb dX5_room_3 (by decide) ?_
  refine lv_icmp_ge (tgt := 22) hx hb dX5_room_4 (by decide) (fun c => absurd c (by decide)) (fun _ => ?_)
  refine lv_aload_n hx hb dX5_room_7 rfl (lv_at hl 1 rfl) ?_
  refine tr_g_used hx hb hts inB_X5 hown hK hP (hts _ mb_641) dX5_room_8 ?_
  refine lv_iload_n hx hb dX5_room_11 rfl (lv_at hl 0 rfl) ?_
  refine tr_l_used hx hb hK hP (by omega) dX5_room_12 ?_
  refine lv_if_eq (tgt := 22) hx hb dX5_room_13 (by decide) (fun c => absurd c h3) (fun _ => ?_)
  refine lv_iinc (v := (nI 4)) (lv' := [(1, .int (nI 4)), (0, .ref (ad 0))]) hx hb dX5_room_16 hl (k := 0) rfl (by decide) (by decide) rfl (fun ls hl => ?_)
  refine lv_goto (tgt := 2) hx hb dX5_room_19 (by decide) ?_
  refine lv_iload_n hx hb dX5_room_2 rfl (lv_at hl 0 rfl) ?_
  refine lv_iconst (v := (nI 4)) hx hb dX5_room_3 (by decide) ?_
  refine lv_icmp_ge (tgt := 22) hx hb dX5_room_4 (by decide) (fun _ => ?_) (fun c => absurd (by decide) c)
  refine lv_iload_n hx hb dX5_room_22 rfl (lv_at hl 0 rfl) ?_
  refine lv_iconst (v := (nI 4)) hx hb dX5_room_23 (by decide) ?_
  refine lv_icmp_ne (tgt := 32) hx hb dX5_room_24 (by decide) (fun c => absurd (by decide) c) (fun _ => ?_)
  refine lv_aload_n hx hb dX5_room_27 rfl (lv_at hl 1 rfl) ?_
  refine lv_iconst (v := (nI 2)) hx hb dX5_room_28 (by decide) ?_
  refine tr_p_thrown hx hb hts inB_X5 hown hK hP hD hS (hts _ mb_652) dX5_room_29 (fun H locs hP hD hS => ?_)
  refine lv_iload_n hx hb dX5_room_32 rfl (lv_at hl 0 rfl) ?_
  exact kq_iret hx hb hr hlk hP hD hS dX5_room_33
theorem r_room_ok (u : tm_S) {j : Nat} (hj : j < 4) (h : u.2.1 0 j = 0) (ha : ∀ i, i < j → ¬ u.2.1 0 i = 0) : kr_M l dC dI ad cc yX5_room wsX5_room { frames := 0, cells := 0, slots := 0, locals := 0 } [.ref (ad 0)] u u (some (.int (nI j))) := by
  match j, hj, h, ha with
  | 0, _, h, ha => exact r_room_0 u h
  | 1, _, h, ha => exact r_room_1 u (ha 0 (by omega)) h
  | 2, _, h, ha => exact r_room_2 u (ha 0 (by omega)) (ha 1 (by omega)) h
  | 3, _, h, ha => exact r_room_3 u (ha 0 (by omega)) (ha 1 (by omega)) (ha 2 (by omega)) h
set_option maxHeartbeats 4000000 in
set_option maxRecDepth 100000 in
theorem r_key_no (u : tm_S) (a : Int64) (wd : Int32) (po se : Int64) (pa : Int32) (hf : ∀ i, i < 4 → ¬ u.2.1 0 i = 0) : kr_M l dC dI ad cc yX5_key wsX5_key { frames := 1, cells := 0, slots := 0, locals := 21 } [.ref (ad 0), .long a, .int wd, .long po, .long se, .int pa] u (tm_I u 14 0 (nI 2)) (some (.int (nI 0))) := by
  refine kq_ofW (cc := cX5_key) (maxL := 10) (ret := (some .int)) (R0 := RX5) (by decide) rfl rfl (Nat.le_of_ble_eq_true rfl) ?_
  intro p e s m below meth c A ls hx hb hr hlk hml hown hts hP hK hD hA hG hS hl
  have hl : lv_has ls 10 [(0, .ref (ad 0)), (1, .long a), (3, .int wd), (4, .long po), (6, .long se), (8, .int pa)] := hl
  refine lv_aload_n hx hb dX5_key_0 rfl (lv_at hl 0 rfl) ?_
  refine kq_cV (st1 := [.int (nI 4)]) ⟨hx, hb, hml, hown, hts⟩ (r_room_4 u (hf 0 (by omega)) (hf 1 (by omega)) (hf 2 (by omega)) (hf 3 (by omega))) (cwV 0 hts gX5_117_X5_room rfl rfl rfl (by decide +kernel) ⟨Nat.le_of_ble_eq_true rfl, Nat.le_of_ble_eq_true rfl⟩) kq_okT hK hP hD hA hG hS (va_recv hK hP (ci := 5) (q0 := 0) rfl (tm_at (i := 0) (by omega) rfl)) rfl hl.1 rfl rfl (Nat.le_of_ble_eq_true rfl) dX5_key_1 ⟨Nat.le_of_ble_eq_true rfl, Nat.le_of_ble_eq_true rfl⟩ (fun H locs hP hD hS => ?_)
  refine lv_istore (lv' := [(9, .int (nI 4)), (0, .ref (ad 0)), (1, .long a), (3, .int wd), (4, .long po), (6, .long se), (8, .int pa)]) hx hb dX5_key_4 hl (by decide) rfl (fun ls hl => ?_)
  refine lv_aload_n hx hb dX5_key_6 rfl (lv_at hl 1 rfl) ?_
  refine tr_g_thrown hx hb hts inB_X5 hown hK hP (hts _ mb_652) dX5_key_7 ?_
  refine kq_ti (y := (nI 2)) (by simp [tm_L, tm_I, tm_D]) ?_
  refine lv_if_eq (tgt := 15) hx hb dX5_key_10 (by decide) (fun c => absurd c (by decide)) (fun _ => ?_)
  refine lv_iconst (v := (nI 0)) hx hb dX5_key_13 (by decide) ?_
  exact kq_iret hx hb hr hlk hP hD hS dX5_key_14
set_option maxHeartbeats 4000000 in
set_option maxRecDepth 100000 in
theorem r_key_ok (u : tm_S) (a : Int64) (wd : Int32) (po se : Int64) (pa : Int32) (hpa : pa = nI 0 ∨ pa = nI 1) (ht : u.2.1 14 0 = 0) {k : Nat} (hk : k < 4) (hf : u.2.1 0 k = 0) (ha : ∀ i, i < k → ¬ u.2.1 0 i = 0) : kr_M l dC dI ad cc yX5_key wsX5_key { frames := 1, cells := 0, slots := 0, locals := 21 } [.ref (ad 0), .long a, .int wd, .long po, .long se, .int pa] u (tm_I (tm_L (tm_L (tm_I (tm_L (tm_I u 0 k (nI 1)) 2 k a) 1 k wd) 3 k po) 4 k se) 2 k pa) (some (.int (nI k))) := by
  refine kq_ofW (cc := cX5_key) (maxL := 10) (ret := (some .int)) (R0 := RX5) (by decide) rfl rfl (Nat.le_of_ble_eq_true rfl) ?_
  intro p e s m below meth c A ls hx hb hr hlk hml hown hts hP hK hD hA hG hS hl
  have hl : lv_has ls 10 [(0, .ref (ad 0)), (1, .long a), (3, .int wd), (4, .long po), (6, .long se), (8, .int pa)] := hl
  refine lv_aload_n hx hb dX5_key_0 rfl (lv_at hl 0 rfl) ?_
  refine kq_cV (st1 := [.int (nI k)]) ⟨hx, hb, hml, hown, hts⟩ (r_room_ok u (j := k) (by omega) hf ha) (cwV 0 hts gX5_117_X5_room rfl rfl rfl (by decide +kernel) ⟨Nat.le_of_ble_eq_true rfl, Nat.le_of_ble_eq_true rfl⟩) kq_okT hK hP hD hA hG hS (va_recv hK hP (ci := 5) (q0 := 0) rfl (tm_at (i := 0) (by omega) rfl)) rfl hl.1 rfl rfl (Nat.le_of_ble_eq_true rfl) dX5_key_1 ⟨Nat.le_of_ble_eq_true rfl, Nat.le_of_ble_eq_true rfl⟩ (fun H locs hP hD hS => ?_)
  refine lv_istore (lv' := [(9, .int (nI k)), (0, .ref (ad 0)), (1, .long a), (3, .int wd), (4, .long po), (6, .long se), (8, .int pa)]) hx hb dX5_key_4 hl (by decide) rfl (fun ls hl => ?_)
  refine lv_aload_n hx hb dX5_key_6 rfl (lv_at hl 1 rfl) ?_
  refine tr_g_thrown hx hb hts inB_X5 hown hK hP (hts _ mb_652) dX5_key_7 ?_
  refine lv_if_eq (tgt := 15) hx hb dX5_key_10 (by decide) (fun _ => ?_) (fun c => absurd ht c)
  refine lv_aload_n hx hb dX5_key_15 rfl (lv_at hl 1 rfl) ?_
  refine tr_g_used hx hb hts inB_X5 hown hK hP (hts _ mb_641) dX5_key_16 ?_
  refine lv_iload hx hb dX5_key_19 (lv_at hl 0 rfl) ?_
  refine lv_iconst (v := (nI 1)) hx hb dX5_key_21 (by decide) ?_
  refine tr_t_used hx hb hK hP hD hS (by omega) (by first | rfl | decide) dX5_key_22 (fun H locs hP hD hS => ?_)
  refine lv_aload_n hx hb dX5_key_23 rfl (lv_at hl 1 rfl) ?_
  refine tr_g_keyValue hx hb hts inB_X5 hown hK hP (hts _ mb_636) dX5_key_24 ?_
  refine lv_iload hx hb dX5_key_27 (lv_at hl 0 rfl) ?_
  refine lv_lload_n hx hb dX5_key_29 rfl (lv_at hl 2 rfl) ?_
  refine tr_t_keyValue hx hb hK hP hD hS (by omega) dX5_key_30 (fun H locs hP hD hS => ?_)
  refine lv_aload_n hx hb dX5_key_31 rfl (lv_at hl 1 rfl) ?_
  refine tr_g_word hx hb hts inB_X5 hown hK hP (hts _ mb_639) dX5_key_32 ?_
  refine lv_iload hx hb dX5_key_35 (lv_at hl 0 rfl) ?_
  refine lv_iload_n hx hb dX5_key_37 rfl (lv_at hl 3 rfl) ?_
  refine tr_t_word hx hb hK hP hD hS (by omega) dX5_key_38 (fun H locs hP hD hS => ?_)
  refine lv_aload_n hx hb dX5_key_39 rfl (lv_at hl 1 rfl) ?_
  refine tr_g_policy hx hb hts inB_X5 hown hK hP (hts _ mb_637) dX5_key_40 ?_
  refine lv_iload hx hb dX5_key_43 (lv_at hl 0 rfl) ?_
  refine lv_lload hx hb dX5_key_45 (lv_at hl 4 rfl) ?_
  refine tr_t_policy hx hb hK hP hD hS (by omega) dX5_key_47 (fun H locs hP hD hS => ?_)
  refine lv_aload_n hx hb dX5_key_48 rfl (lv_at hl 1 rfl) ?_
  refine tr_g_secret hx hb hts inB_X5 hown hK hP (hts _ mb_638) dX5_key_49 ?_
  refine lv_iload hx hb dX5_key_52 (lv_at hl 0 rfl) ?_
  refine lv_lload hx hb dX5_key_54 (lv_at hl 5 rfl) ?_
  refine tr_t_secret hx hb hK hP hD hS (by omega) dX5_key_56 (fun H locs hP hD hS => ?_)
  refine lv_aload_n hx hb dX5_key_57 rfl (lv_at hl 1 rfl) ?_
  refine tr_g_isParent hx hb hts inB_X5 hown hK hP (hts _ mb_642) dX5_key_58 ?_
  refine lv_iload hx hb dX5_key_61 (lv_at hl 0 rfl) ?_
  refine lv_iload hx hb dX5_key_63 (lv_at hl 6 rfl) ?_
  refine tr_t_isParent hx hb hK hP hD hS (by omega) (tm_bv hpa) dX5_key_65 (fun H locs hP hD hS => ?_)
  refine lv_iload hx hb dX5_key_66 (lv_at hl 0 rfl) ?_
  exact kq_iret hx hb hr hlk hP hD hS dX5_key_68
set_option maxHeartbeats 4000000 in
set_option maxRecDepth 100000 in
theorem r_allowed_0 (u : tm_S) {k : Nat} (hk : k < 4) (wd : Int32) (h : u.2.1 1 k = 0) : kr_M l dC dI ad cc yX5_allowed wsX5_allowed { frames := 0, cells := 0, slots := 0, locals := 0 } [.ref (ad 0), .int (nI k), .int wd] u u (some (.int (nI 0))) := by
  refine kq_ofW (cc := cX5_allowed) (maxL := 3) (ret := (some .int)) (R0 := RX5) (by decide) rfl rfl (Nat.le_of_ble_eq_true rfl) ?_
  intro p e s m below meth c A ls hx hb hr hlk hml hown hts hP hK hD hA hG hS hl
  have hl : lv_has ls 3 [(0, .ref (ad 0)), (1, .int (nI k)), (2, .int wd)] := hl
  refine lv_aload_n hx hb dX5_allowed_0 rfl (lv_at hl 0 rfl) ?_
  refine tr_g_word hx hb hts inB_X5 hown hK hP (hts _ mb_639) dX5_allowed_1 ?_
  refine lv_iload_n hx hb dX5_allowed_4 rfl (lv_at hl 1 rfl) ?_
  refine tr_l_word hx hb hK hP (by omega) dX5_allowed_5 ?_
  refine lv_if_ne (tgt := 11) hx hb dX5_allowed_6 (by decide) (fun c => absurd h c) (fun _ => ?_)
  refine lv_iconst (v := (nI 0)) hx hb dX5_allowed_9 (by decide) ?_
  exact kq_iret hx hb hr hlk hP hD hS dX5_allowed_10
set_option maxHeartbeats 4000000 in
set_option maxRecDepth 100000 in
theorem r_allowed_lock (u : tm_S) {k : Nat} (hk : k < 4) (wd : Int32) (h : ¬ u.2.1 1 k = 0) (h2 : ¬ u.2.1 13 0 < nI 3) : kr_M l dC dI ad cc yX5_allowed wsX5_allowed { frames := 0, cells := 0, slots := 0, locals := 0 } [.ref (ad 0), .int (nI k), .int wd] u u (some (.int (nI 2))) := by
  refine kq_ofW (cc := cX5_allowed) (maxL := 3) (ret := (some .int)) (R0 := RX5) (by decide) rfl rfl (Nat.le_of_ble_eq_true rfl) ?_
  intro p e s m below meth c A ls hx hb hr hlk hml hown hts hP hK hD hA hG hS hl
  have hl : lv_has ls 3 [(0, .ref (ad 0)), (1, .int (nI k)), (2, .int wd)] := hl
  refine lv_aload_n hx hb dX5_allowed_0 rfl (lv_at hl 0 rfl) ?_
  refine tr_g_word hx hb hts inB_X5 hown hK hP (hts _ mb_639) dX5_allowed_1 ?_
  refine lv_iload_n hx hb dX5_allowed_4 rfl (lv_at hl 1 rfl) ?_
  refine tr_l_word hx hb hK hP (by omega) dX5_allowed_5 ?_
  refine lv_if_ne (tgt := 11) hx hb dX5_allowed_6 (by decide) (fun _ => ?_) (fun c => absurd c h)
  refine lv_aload_n hx hb dX5_allowed_11 rfl (lv_at hl 0 rfl) ?_
  refine tr_g_guesses hx hb hts inB_X5 hown hK hP (hts _ mb_649) dX5_allowed_12 ?_
  refine lv_iconst (v := (nI 3)) hx hb dX5_allowed_15 (by decide) ?_
  refine lv_icmp_lt (tgt := 21) hx hb dX5_allowed_16 (by decide) (fun c => absurd c h2) (fun _ => ?_)
  refine lv_iconst (v := (nI 2)) hx hb dX5_allowed_19 (by decide) ?_
  exact kq_iret hx hb hr hlk hP hD hS dX5_allowed_20
set_option maxHeartbeats 4000000 in
set_option maxRecDepth 100000 in
theorem r_allowed_ok (u : tm_S) {k : Nat} (hk : k < 4) (wd : Int32) (h : ¬ u.2.1 1 k = 0) (h2 : u.2.1 13 0 < nI 3) (h3 : wd = u.2.1 1 k) : kr_M l dC dI ad cc yX5_allowed wsX5_allowed { frames := 0, cells := 0, slots := 0, locals := 0 } [.ref (ad 0), .int (nI k), .int wd] u u (some (.int (nI 0))) := by
  refine kq_ofW (cc := cX5_allowed) (maxL := 3) (ret := (some .int)) (R0 := RX5) (by decide) rfl rfl (Nat.le_of_ble_eq_true rfl) ?_
  intro p e s m below meth c A ls hx hb hr hlk hml hown hts hP hK hD hA hG hS hl
  have hl : lv_has ls 3 [(0, .ref (ad 0)), (1, .int (nI k)), (2, .int wd)] := hl
  refine lv_aload_n hx hb dX5_allowed_0 rfl (lv_at hl 0 rfl) ?_
  refine tr_g_word hx hb hts inB_X5 hown hK hP (hts _ mb_639) dX5_allowed_1 ?_
  refine lv_iload_n hx hb dX5_allowed_4 rfl (lv_at hl 1 rfl) ?_
  refine tr_l_word hx hb hK hP (by omega) dX5_allowed_5 ?_
  refine lv_if_ne (tgt := 11) hx hb dX5_allowed_6 (by decide) (fun _ => ?_) (fun c => absurd c h)
  refine lv_aload_n hx hb dX5_allowed_11 rfl (lv_at hl 0 rfl) ?_
  refine tr_g_guesses hx hb hts inB_X5 hown hK hP (hts _ mb_649) dX5_allowed_12 ?_
  refine lv_iconst (v := (nI 3)) hx hb dX5_allowed_15 (by decide) ?_
  refine lv_icmp_lt (tgt := 21) hx hb dX5_allowed_16 (by decide) (fun _ => ?_) (fun c => absurd h2 c)
  refine lv_iload_n hx hb dX5_allowed_21 rfl (lv_at hl 2 rfl) ?_
  refine lv_aload_n hx hb dX5_allowed_22 rfl (lv_at hl 0 rfl) ?_
  refine tr_g_word hx hb hts inB_X5 hown hK hP (hts _ mb_639) dX5_allowed_23 ?_
  refine lv_iload_n hx hb dX5_allowed_26 rfl (lv_at hl 1 rfl) ?_
  refine tr_l_word hx hb hK hP (by omega) dX5_allowed_27 ?_
  refine lv_icmp_ne (tgt := 33) hx hb dX5_allowed_28 (by decide) (fun c => absurd h3 c) (fun _ => ?_)
  refine lv_iconst (v := (nI 0)) hx hb dX5_allowed_31 (by decide) ?_
  exact kq_iret hx hb hr hlk hP hD hS dX5_allowed_32
set_option maxHeartbeats 4000000 in
set_option maxRecDepth 100000 in
theorem r_allowed_no (u : tm_S) {k : Nat} (hk : k < 4) (wd : Int32) (h : ¬ u.2.1 1 k = 0) (h2 : u.2.1 13 0 < nI 3) (h3 : ¬ wd = u.2.1 1 k) : kr_M l dC dI ad cc yX5_allowed wsX5_allowed { frames := 0, cells := 0, slots := 0, locals := 0 } [.ref (ad 0), .int (nI k), .int wd] u (tm_D (tm_I u 13 0 ((u.2.1 13 0) + (nI 1))) 0 (u.2.2 1)) (some (.int (nI 4))) := by
  refine kq_ofW (cc := cX5_allowed) (maxL := 3) (ret := (some .int)) (R0 := RX5) (by decide) rfl rfl (Nat.le_of_ble_eq_true rfl) ?_
  intro p e s m below meth c A ls hx hb hr hlk hml hown hts hP hK hD hA hG hS hl
  have hl : lv_has ls 3 [(0, .ref (ad 0)), (1, .int (nI k)), (2, .int wd)] := hl
  refine lv_aload_n hx hb dX5_allowed_0 rfl (lv_at hl 0 rfl) ?_
  refine tr_g_word hx hb hts inB_X5 hown hK hP (hts _ mb_639) dX5_allowed_1 ?_
  refine lv_iload_n hx hb dX5_allowed_4 rfl (lv_at hl 1 rfl) ?_
  refine tr_l_word hx hb hK hP (by omega) dX5_allowed_5 ?_
  refine lv_if_ne (tgt := 11) hx hb dX5_allowed_6 (by decide) (fun _ => ?_) (fun c => absurd c h)
  refine lv_aload_n hx hb dX5_allowed_11 rfl (lv_at hl 0 rfl) ?_
  refine tr_g_guesses hx hb hts inB_X5 hown hK hP (hts _ mb_649) dX5_allowed_12 ?_
  refine lv_iconst (v := (nI 3)) hx hb dX5_allowed_15 (by decide) ?_
  refine lv_icmp_lt (tgt := 21) hx hb dX5_allowed_16 (by decide) (fun _ => ?_) (fun c => absurd h2 c)
  refine lv_iload_n hx hb dX5_allowed_21 rfl (lv_at hl 2 rfl) ?_
  refine lv_aload_n hx hb dX5_allowed_22 rfl (lv_at hl 0 rfl) ?_
  refine tr_g_word hx hb hts inB_X5 hown hK hP (hts _ mb_639) dX5_allowed_23 ?_
  refine lv_iload_n hx hb dX5_allowed_26 rfl (lv_at hl 1 rfl) ?_
  refine tr_l_word hx hb hK hP (by omega) dX5_allowed_27 ?_
  refine lv_icmp_ne (tgt := 33) hx hb dX5_allowed_28 (by decide) (fun _ => ?_) (fun c => absurd c h3)
  refine lv_aload_n hx hb dX5_allowed_33 rfl (lv_at hl 0 rfl) ?_
  refine lv_dup hx hb dX5_allowed_34 rfl ?_
  refine tr_g_guesses hx hb hts inB_X5 hown hK hP (hts _ mb_649) dX5_allowed_35 ?_
  refine lv_iconst (v := (nI 1)) hx hb dX5_allowed_38 (by decide) ?_
  refine lv_iadd hx hb dX5_allowed_39 ?_
  refine tr_p_guesses hx hb hts inB_X5 hown hK hP hD hS (hts _ mb_649) dX5_allowed_40 (fun H locs hP hD hS => ?_)
  refine lv_aload_n hx hb dX5_allowed_43 rfl (lv_at hl 0 rfl) ?_
  refine lv_aload_n hx hb dX5_allowed_44 rfl (lv_at hl 0 rfl) ?_
  refine tr_g_clock hx hb hts inB_X5 hown hK hP (hts _ mb_655) dX5_allowed_45 ?_
  refine kq_td (y := (u.2.2 1)) (by simp [tm_L, tm_I, tm_D]) ?_
  refine tr_p_mark hx hb hts inB_X5 hown hK hP hD hS (hts _ mb_656) dX5_allowed_48 (fun H locs hP hD hS => ?_)
  refine lv_iconst (v := (nI 4)) hx hb dX5_allowed_51 (by decide) ?_
  exact kq_iret hx hb hr hlk hP hD hS dX5_allowed_52
set_option maxHeartbeats 4000000 in
set_option maxRecDepth 100000 in
theorem r_sat_n1 (u : tm_S) {k : Nat} (hk : k < 3) (po : Int64) (h : po = 0) : kr_M l dC dI ad cc yX5_satisfied wsX5_satisfied { frames := 0, cells := 0, slots := 0, locals := 0 } [.ref (ad 0), .int (nI k), .long po] u u (some (.int (nI 4))) := by
  refine kq_ofW (cc := cX5_satisfied) (maxL := 4) (ret := (some .int)) (R0 := RX5) (by decide) rfl rfl (Nat.le_of_ble_eq_true rfl) ?_
  intro p e s m below meth c A ls hx hb hr hlk hml hown hts hP hK hD hA hG hS hl
  have hl : lv_has ls 4 [(0, .ref (ad 0)), (1, .int (nI k)), (2, .long po)] := hl
  refine lv_lload_n hx hb dX5_satisfied_0 rfl (lv_at hl 2 rfl) ?_
  refine lv_lconst (v := 0) hx hb dX5_satisfied_1 (by decide) ?_
  refine W.lcmp hx hb dX5_satisfied_2 ?_
  refine lv_if_eq (tgt := 17) hx hb dX5_satisfied_3 (by decide) (fun _ => ?_) (fun c => absurd (tm_cmp0.mpr h) c)
  refine lv_iconst (v := (nI 4)) hx hb dX5_satisfied_17 (by decide) ?_
  exact kq_iret hx hb hr hlk hP hD hS dX5_satisfied_18
set_option maxHeartbeats 4000000 in
set_option maxRecDepth 100000 in
theorem r_sat_n2 (u : tm_S) {k : Nat} (hk : k < 3) (po : Int64) (h : ¬ po = 0) (h2 : ¬ u.1 6 k = po) : kr_M l dC dI ad cc yX5_satisfied wsX5_satisfied { frames := 0, cells := 0, slots := 0, locals := 0 } [.ref (ad 0), .int (nI k), .long po] u u (some (.int (nI 4))) := by
  refine kq_ofW (cc := cX5_satisfied) (maxL := 4) (ret := (some .int)) (R0 := RX5) (by decide) rfl rfl (Nat.le_of_ble_eq_true rfl) ?_
  intro p e s m below meth c A ls hx hb hr hlk hml hown hts hP hK hD hA hG hS hl
  have hl : lv_has ls 4 [(0, .ref (ad 0)), (1, .int (nI k)), (2, .long po)] := hl
  refine lv_lload_n hx hb dX5_satisfied_0 rfl (lv_at hl 2 rfl) ?_
  refine lv_lconst (v := 0) hx hb dX5_satisfied_1 (by decide) ?_
  refine W.lcmp hx hb dX5_satisfied_2 ?_
  refine lv_if_eq (tgt := 17) hx hb dX5_satisfied_3 (by decide) (fun c => absurd c (fun q => h (tm_cmp0.mp q))) (fun _ => ?_)
  refine lv_aload_n hx hb dX5_satisfied_6 rfl (lv_at hl 0 rfl) ?_
  refine tr_g_digest hx hb hts inB_X5 hown hK hP (hts _ mb_632) dX5_satisfied_7 ?_
  refine lv_iload_n hx hb dX5_satisfied_10 rfl (lv_at hl 1 rfl) ?_
  refine tr_l_digest hx hb hK hP (by omega) dX5_satisfied_11 ?_
  refine lv_lload_n hx hb dX5_satisfied_12 rfl (lv_at hl 2 rfl) ?_
  refine W.lcmp hx hb dX5_satisfied_13 ?_
  refine lv_if_eq (tgt := 19) hx hb dX5_satisfied_14 (by decide) (fun c => absurd c (fun q => h2 (tm_cmp0.mp q))) (fun _ => ?_)
  refine lv_iconst (v := (nI 4)) hx hb dX5_satisfied_17 (by decide) ?_
  exact kq_iret hx hb hr hlk hP hD hS dX5_satisfied_18
set_option maxHeartbeats 4000000 in
set_option maxRecDepth 100000 in
theorem r_sat_ok0 (u : tm_S) {k : Nat} (hk : k < 3) (po : Int64) (h : ¬ po = 0) (h2 : u.1 6 k = po) (h3 : u.2.1 4 k = 0) : kr_M l dC dI ad cc yX5_satisfied wsX5_satisfied { frames := 0, cells := 0, slots := 0, locals := 0 } [.ref (ad 0), .int (nI k), .long po] u u (some (.int (nI 0))) := by
  refine kq_ofW (cc := cX5_satisfied) (maxL := 4) (ret := (some .int)) (R0 := RX5) (by decide) rfl rfl (Nat.le_of_ble_eq_true rfl) ?_
  intro p e s m below meth c A ls hx hb hr hlk hml hown hts hP hK hD hA hG hS hl
  have hl : lv_has ls 4 [(0, .ref (ad 0)), (1, .int (nI k)), (2, .long po)] := hl
  refine lv_lload_n hx hb dX5_satisfied_0 rfl (lv_at hl 2 rfl) ?_
  refine lv_lconst (v := 0) hx hb dX5_satisfied_1 (by decide) ?_
  refine W.lcmp hx hb dX5_satisfied_2 ?_
  refine lv_if_eq (tgt := 17) hx hb dX5_satisfied_3 (by decide) (fun c => absurd c (fun q => h (tm_cmp0.mp q))) (fun _ => ?_)
  refine lv_aload_n hx hb dX5_satisfied_6 rfl (lv_at hl 0 rfl) ?_
  refine tr_g_digest hx hb hts inB_X5 hown hK hP (hts _ mb_632) dX5_satisfied_7 ?_
  refine lv_iload_n hx hb dX5_satisfied_10 rfl (lv_at hl 1 rfl) ?_
  refine tr_l_digest hx hb hK hP (by omega) dX5_satisfied_11 ?_
  refine lv_lload_n hx hb dX5_satisfied_12 rfl (lv_at hl 2 rfl) ?_
  refine W.lcmp hx hb dX5_satisfied_13 ?_
  refine lv_if_eq (tgt := 19) hx hb dX5_satisfied_14 (by decide) (fun _ => ?_) (fun c => absurd (tm_cmp0.mpr h2) c)
  refine lv_aload_n hx hb dX5_satisfied_19 rfl (lv_at hl 0 rfl) ?_
  refine tr_g_looked hx hb hts inB_X5 hown hK hP (hts _ mb_644) dX5_satisfied_20 ?_
  refine lv_iload_n hx hb dX5_satisfied_23 rfl (lv_at hl 1 rfl) ?_
  refine tr_l_looked hx hb hK hP (by omega) dX5_satisfied_24 ?_
  refine lv_if_eq (tgt := 45) hx hb dX5_satisfied_25 (by decide) (fun _ => ?_) (fun c => absurd h3 c)
  refine lv_iconst (v := (nI 0)) hx hb dX5_satisfied_45 (by decide) ?_
  exact kq_iret hx hb hr hlk hP hD hS dX5_satisfied_46
set_option maxHeartbeats 4000000 in
set_option maxRecDepth 100000 in
theorem r_sat_ok1 (u : tm_S) {k : Nat} (hk : k < 3) (po : Int64) (h : ¬ po = 0) (h2 : u.1 6 k = po) (h3 : ¬ u.2.1 4 k = 0) (h4 : u.2.1 5 k = u.2.1 9 0) : kr_M l dC dI ad cc yX5_satisfied wsX5_satisfied { frames := 0, cells := 0, slots := 0, locals := 0 } [.ref (ad 0), .int (nI k), .long po] u u (some (.int (nI 0))) := by
  refine kq_ofW (cc := cX5_satisfied) (maxL := 4) (ret := (some .int)) (R0 := RX5) (by decide) rfl rfl (Nat.le_of_ble_eq_true rfl) ?_
  intro p e s m below meth c A ls hx hb hr hlk hml hown hts hP hK hD hA hG hS hl
  have hl : lv_has ls 4 [(0, .ref (ad 0)), (1, .int (nI k)), (2, .long po)] := hl
  refine lv_lload_n hx hb dX5_satisfied_0 rfl (lv_at hl 2 rfl) ?_
  refine lv_lconst (v := 0) hx hb dX5_satisfied_1 (by decide) ?_
  refine W.lcmp hx hb dX5_satisfied_2 ?_
  refine lv_if_eq (tgt := 17) hx hb dX5_satisfied_3 (by decide) (fun c => absurd c (fun q => h (tm_cmp0.mp q))) (fun _ => ?_)
  refine lv_aload_n hx hb dX5_satisfied_6 rfl (lv_at hl 0 rfl) ?_
  refine tr_g_digest hx hb hts inB_X5 hown hK hP (hts _ mb_632) dX5_satisfied_7 ?_
  refine lv_iload_n hx hb dX5_satisfied_10 rfl (lv_at hl 1 rfl) ?_
  refine tr_l_digest hx hb hK hP (by omega) dX5_satisfied_11 ?_
  refine lv_lload_n hx hb dX5_satisfied_12 rfl (lv_at hl 2 rfl) ?_
  refine W.lcmp hx hb dX5_satisfied_13 ?_
  refine lv_if_eq (tgt := 19) hx hb dX5_satisfied_14 (by decide) (fun _ => ?_) (fun c => absurd (tm_cmp0.mpr h2) c)
  refine lv_aload_n hx hb dX5_satisfied_19 rfl (lv_at hl 0 rfl) ?_
  refine tr_g_looked hx hb hts inB_X5 hown hK hP (hts _ mb_644) dX5_satisfied_20 ?_
  refine lv_iload_n hx hb dX5_satisfied_23 rfl (lv_at hl 1 rfl) ?_
  refine tr_l_looked hx hb hK hP (by omega) dX5_satisfied_24 ?_
  refine lv_if_eq (tgt := 45) hx hb dX5_satisfied_25 (by decide) (fun c => absurd c h3) (fun _ => ?_)
  refine lv_aload_n hx hb dX5_satisfied_28 rfl (lv_at hl 0 rfl) ?_
  refine tr_g_seen hx hb hts inB_X5 hown hK hP (hts _ mb_640) dX5_satisfied_29 ?_
  refine lv_iload_n hx hb dX5_satisfied_32 rfl (lv_at hl 1 rfl) ?_
  refine tr_l_seen hx hb hK hP (by omega) dX5_satisfied_33 ?_
  refine lv_aload_n hx hb dX5_satisfied_34 rfl (lv_at hl 0 rfl) ?_
  refine tr_g_pcrCount hx hb hts inB_X5 hown hK hP (hts _ mb_648) dX5_satisfied_35 ?_
  refine lv_icmp_eq (tgt := 45) hx hb dX5_satisfied_38 (by decide) (fun _ => ?_) (fun c => absurd h4 c)
  refine lv_iconst (v := (nI 0)) hx hb dX5_satisfied_45 (by decide) ?_
  exact kq_iret hx hb hr hlk hP hD hS dX5_satisfied_46
set_option maxHeartbeats 4000000 in
set_option maxRecDepth 100000 in
theorem r_sat_ch (u : tm_S) {k : Nat} (hk : k < 3) (po : Int64) (h : ¬ po = 0) (h2 : u.1 6 k = po) (h3 : ¬ u.2.1 4 k = 0) (h4 : ¬ u.2.1 5 k = u.2.1 9 0) : kr_M l dC dI ad cc yX5_satisfied wsX5_satisfied { frames := 0, cells := 0, slots := 0, locals := 0 } [.ref (ad 0), .int (nI k), .long po] u u (some (.int (nI 2))) := by
  refine kq_ofW (cc := cX5_satisfied) (maxL := 4) (ret := (some .int)) (R0 := RX5) (by decide) rfl rfl (Nat.le_of_ble_eq_true rfl) ?_
  intro p e s m below meth c A ls hx hb hr hlk hml hown hts hP hK hD hA hG hS hl
  have hl : lv_has ls 4 [(0, .ref (ad 0)), (1, .int (nI k)), (2, .long po)] := hl
  refine lv_lload_n hx hb dX5_satisfied_0 rfl (lv_at hl 2 rfl) ?_
  refine lv_lconst (v := 0) hx hb dX5_satisfied_1 (by decide) ?_
  refine W.lcmp hx hb dX5_satisfied_2 ?_
  refine lv_if_eq (tgt := 17) hx hb dX5_satisfied_3 (by decide) (fun c => absurd c (fun q => h (tm_cmp0.mp q))) (fun _ => ?_)
  refine lv_aload_n hx hb dX5_satisfied_6 rfl (lv_at hl 0 rfl) ?_
  refine tr_g_digest hx hb hts inB_X5 hown hK hP (hts _ mb_632) dX5_satisfied_7 ?_
  refine lv_iload_n hx hb dX5_satisfied_10 rfl (lv_at hl 1 rfl) ?_
  refine tr_l_digest hx hb hK hP (by omega) dX5_satisfied_11 ?_
  refine lv_lload_n hx hb dX5_satisfied_12 rfl (lv_at hl 2 rfl) ?_
  refine W.lcmp hx hb dX5_satisfied_13 ?_
  refine lv_if_eq (tgt := 19) hx hb dX5_satisfied_14 (by decide) (fun _ => ?_) (fun c => absurd (tm_cmp0.mpr h2) c)
  refine lv_aload_n hx hb dX5_satisfied_19 rfl (lv_at hl 0 rfl) ?_
  refine tr_g_looked hx hb hts inB_X5 hown hK hP (hts _ mb_644) dX5_satisfied_20 ?_
  refine lv_iload_n hx hb dX5_satisfied_23 rfl (lv_at hl 1 rfl) ?_
  refine tr_l_looked hx hb hK hP (by omega) dX5_satisfied_24 ?_
  refine lv_if_eq (tgt := 45) hx hb dX5_satisfied_25 (by decide) (fun c => absurd c h3) (fun _ => ?_)
  refine lv_aload_n hx hb dX5_satisfied_28 rfl (lv_at hl 0 rfl) ?_
  refine tr_g_seen hx hb hts inB_X5 hown hK hP (hts _ mb_640) dX5_satisfied_29 ?_
  refine lv_iload_n hx hb dX5_satisfied_32 rfl (lv_at hl 1 rfl) ?_
  refine tr_l_seen hx hb hK hP (by omega) dX5_satisfied_33 ?_
  refine lv_aload_n hx hb dX5_satisfied_34 rfl (lv_at hl 0 rfl) ?_
  refine tr_g_pcrCount hx hb hts inB_X5 hown hK hP (hts _ mb_648) dX5_satisfied_35 ?_
  refine lv_icmp_eq (tgt := 45) hx hb dX5_satisfied_38 (by decide) (fun c => absurd c h4) (fun _ => ?_)
  refine lv_iconst (v := (nI 2)) hx hb dX5_satisfied_41 (by decide) ?_
  refine lv_goto (tgt := 46) hx hb dX5_satisfied_42 (by decide) ?_
  exact kq_iret hx hb hr hlk hP hD hS dX5_satisfied_46
theorem r_sat_ok (u : tm_S) {k : Nat} (hk : k < 3) (po : Int64) (h : ¬ po = 0) (h2 : u.1 6 k = po) (h3 : ¬ u.2.1 4 k = 0 → u.2.1 5 k = u.2.1 9 0) : kr_M l dC dI ad cc yX5_satisfied wsX5_satisfied { frames := 0, cells := 0, slots := 0, locals := 0 } [.ref (ad 0), .int (nI k), .long po] u u (some (.int (nI 0))) := by
  by_cases h4 : u.2.1 4 k = 0
  · exact r_sat_ok0 u hk po h h2 h4
  · exact r_sat_ok1 u hk po h h2 h4 (h3 h4)
set_option maxHeartbeats 4000000 in
set_option maxRecDepth 100000 in
theorem r_lasts_free (u : tm_S) (n : Int32) (h : u.2.1 10 0 < 0) : kr_M l dC dI ad cc yX5_lasts wsX5_lasts { frames := 0, cells := 0, slots := 0, locals := 0 } [.ref (ad 0), .int n] u u (some (.int (nI 1))) := by
  refine kq_ofW (cc := cX5_lasts) (maxL := 3) (ret := (some .boolean)) (R0 := RX5) (by decide) rfl rfl (Nat.le_of_ble_eq_true rfl) ?_
  intro p e s m below meth c A ls hx hb hr hlk hml hown hts hP hK hD hA hG hS hl
  have hl : lv_has ls 3 [(0, .ref (ad 0)), (1, .int n)] := hl
  refine lv_aload_n hx hb dX5_lasts_0 rfl (lv_at hl 0 rfl) ?_
  refine tr_g_power hx hb hts inB_X5 hown hK hP (hts _ mb_650) dX5_lasts_1 ?_
  refine lv_if_ge (tgt := 9) hx hb dX5_lasts_4 (by decide) (fun c => absurd c (fun q => absurd h (Int32.not_lt.mpr q))) (fun _ => ?_)
  refine lv_iconst (v := (nI 1)) hx hb dX5_lasts_7 (by decide) ?_
  exact kq_zret hx hb hr (by first | rfl | decide) hlk hP hD hS dX5_lasts_8
set_option maxHeartbeats 4000000 in
set_option maxRecDepth 100000 in
theorem r_lasts_ok (u : tm_S) (n : Int32) (h : 0 ≤ u.2.1 10 0) (h2 : ¬ u.2.1 10 0 < n) : kr_M l dC dI ad cc yX5_lasts wsX5_lasts { frames := 0, cells := 0, slots := 0, locals := 0 } [.ref (ad 0), .int n] u (tm_I u 10 0 ((u.2.1 10 0) - n)) (some (.int (nI 1))) := by
  refine kq_ofW (cc := cX5_lasts) (maxL := 3) (ret := (some .boolean)) (R0 := RX5) (by decide) rfl rfl (Nat.le_of_ble_eq_true rfl) ?_
  intro p e s m below meth c A ls hx hb hr hlk hml hown hts hP hK hD hA hG hS hl
  have hl : lv_has ls 3 [(0, .ref (ad 0)), (1, .int n)] := hl
  refine lv_aload_n hx hb dX5_lasts_0 rfl (lv_at hl 0 rfl) ?_
  refine tr_g_power hx hb hts inB_X5 hown hK hP (hts _ mb_650) dX5_lasts_1 ?_
  refine lv_if_ge (tgt := 9) hx hb dX5_lasts_4 (by decide) (fun _ => ?_) (fun c => absurd h c)
  refine lv_aload_n hx hb dX5_lasts_9 rfl (lv_at hl 0 rfl) ?_
  refine tr_g_power hx hb hts inB_X5 hown hK hP (hts _ mb_650) dX5_lasts_10 ?_
  refine lv_iload_n hx hb dX5_lasts_13 rfl (lv_at hl 1 rfl) ?_
  refine lv_icmp_lt (tgt := 21) hx hb dX5_lasts_14 (by decide) (fun c => absurd c h2) (fun _ => ?_)
  refine lv_iconst (v := (nI 1)) hx hb dX5_lasts_17 (by decide) ?_
  refine lv_goto (tgt := 22) hx hb dX5_lasts_18 (by decide) ?_
  refine lv_istore_n (lv' := [(2, .int (nI 1)), (0, .ref (ad 0)), (1, .int n)]) hx hb dX5_lasts_22 rfl hl (by decide) rfl (fun ls hl => ?_)
  refine lv_aload_n hx hb dX5_lasts_23 rfl (lv_at hl 1 rfl) ?_
  refine lv_iload_n hx hb dX5_lasts_24 rfl (lv_at hl 0 rfl) ?_
  refine lv_if_eq (tgt := 37) hx hb dX5_lasts_25 (by decide) (fun c => absurd c (by decide)) (fun _ => ?_)
  refine lv_aload_n hx hb dX5_lasts_28 rfl (lv_at hl 1 rfl) ?_
  refine tr_g_power hx hb hts inB_X5 hown hK hP (hts _ mb_650) dX5_lasts_29 ?_
  refine lv_iload_n hx hb dX5_lasts_32 rfl (lv_at hl 2 rfl) ?_
  refine lv_isub hx hb dX5_lasts_33 ?_
  refine lv_goto (tgt := 38) hx hb dX5_lasts_34 (by decide) ?_
  refine tr_p_power hx hb hts inB_X5 hown hK hP hD hS (hts _ mb_650) dX5_lasts_38 (fun H locs hP hD hS => ?_)
  refine lv_iload_n hx hb dX5_lasts_41 rfl (lv_at hl 0 rfl) ?_
  refine lv_if_eq (tgt := 47) hx hb dX5_lasts_42 (by decide) (fun c => absurd c (by decide)) (fun _ => ?_)
  refine lv_iconst (v := (nI 1)) hx hb dX5_lasts_45 (by decide) ?_
  exact kq_zret hx hb hr (by first | rfl | decide) hlk hP hD hS dX5_lasts_46
set_option maxHeartbeats 4000000 in
set_option maxRecDepth 100000 in
theorem r_lasts_no (u : tm_S) (n : Int32) (h : 0 ≤ u.2.1 10 0) (h2 : u.2.1 10 0 < n) : kr_M l dC dI ad cc yX5_lasts wsX5_lasts { frames := 0, cells := 0, slots := 0, locals := 0 } [.ref (ad 0), .int n] u (tm_I (tm_I (tm_I (tm_I u 10 0 (nI 0)) 11 0 (nI 1)) 12 0 ((u.2.1 12 0) + (nI 1))) 14 0 (nI 2)) (some (.int (nI 0))) := by
  refine kq_ofW (cc := cX5_lasts) (maxL := 3) (ret := (some .boolean)) (R0 := RX5) (by decide) rfl rfl (Nat.le_of_ble_eq_true rfl) ?_
  intro p e s m below meth c A ls hx hb hr hlk hml hown hts hP hK hD hA hG hS hl
  have hl : lv_has ls 3 [(0, .ref (ad 0)), (1, .int n)] := hl
  refine lv_aload_n hx hb dX5_lasts_0 rfl (lv_at hl 0 rfl) ?_
  refine tr_g_power hx hb hts inB_X5 hown hK hP (hts _ mb_650) dX5_lasts_1 ?_
  refine lv_if_ge (tgt := 9) hx hb dX5_lasts_4 (by decide) (fun _ => ?_) (fun c => absurd h c)
  refine lv_aload_n hx hb dX5_lasts_9 rfl (lv_at hl 0 rfl) ?_
  refine tr_g_power hx hb hts inB_X5 hown hK hP (hts _ mb_650) dX5_lasts_10 ?_
  refine lv_iload_n hx hb dX5_lasts_13 rfl (lv_at hl 1 rfl) ?_
  refine lv_icmp_lt (tgt := 21) hx hb dX5_lasts_14 (by decide) (fun _ => ?_) (fun c => absurd h2 c)
  refine lv_iconst (v := (nI 0)) hx hb dX5_lasts_21 (by decide) ?_
  refine lv_istore_n (lv' := [(2, .int (nI 0)), (0, .ref (ad 0)), (1, .int n)]) hx hb dX5_lasts_22 rfl hl (by decide) rfl (fun ls hl => ?_)
  refine lv_aload_n hx hb dX5_lasts_23 rfl (lv_at hl 1 rfl) ?_
  refine lv_iload_n hx hb dX5_lasts_24 rfl (lv_at hl 0 rfl) ?_
  refine lv_if_eq (tgt := 37) hx hb dX5_lasts_25 (by decide) (fun _ => ?_) (fun c => absurd (by decide) c)
  refine lv_iconst (v := (nI 0)) hx hb dX5_lasts_37 (by decide) ?_
  refine tr_p_power hx hb hts inB_X5 hown hK hP hD hS (hts _ mb_650) dX5_lasts_38 (fun H locs hP hD hS => ?_)
  refine lv_iload_n hx hb dX5_lasts_41 rfl (lv_at hl 0 rfl) ?_
  refine lv_if_eq (tgt := 47) hx hb dX5_lasts_42 (by decide) (fun _ => ?_) (fun c => absurd (by decide) c)
  refine lv_aload_n hx hb dX5_lasts_47 rfl (lv_at hl 1 rfl) ?_
  refine lv_iconst (v := (nI 1)) hx hb dX5_lasts_48 (by decide) ?_
  refine tr_p_lost hx hb hts inB_X5 hown hK hP hD hS (by first | rfl | decide) (by first | rfl | decide) (hts _ mb_653) dX5_lasts_49 (fun H locs hP hD hS => ?_)
  refine lv_aload_n hx hb dX5_lasts_52 rfl (lv_at hl 1 rfl) ?_
  refine lv_dup hx hb dX5_lasts_53 rfl ?_
  refine tr_g_losses hx hb hts inB_X5 hown hK hP (hts _ mb_651) dX5_lasts_54 ?_
  refine kq_ti (y := (u.2.1 12 0)) (by simp [tm_L, tm_I, tm_D]) ?_
  refine lv_iconst (v := (nI 1)) hx hb dX5_lasts_57 (by decide) ?_
  refine lv_iadd hx hb dX5_lasts_58 ?_
  refine tr_p_losses hx hb hts inB_X5 hown hK hP hD hS (hts _ mb_651) dX5_lasts_59 (fun H locs hP hD hS => ?_)
  refine lv_aload_n hx hb dX5_lasts_62 rfl (lv_at hl 1 rfl) ?_
  refine lv_iconst (v := (nI 2)) hx hb dX5_lasts_63 (by decide) ?_
  refine tr_p_thrown hx hb hts inB_X5 hown hK hP hD hS (hts _ mb_652) dX5_lasts_64 (fun H locs hP hD hS => ?_)
  refine lv_iconst (v := (nI 0)) hx hb dX5_lasts_67 (by decide) ?_
  exact kq_zret hx hb hr (by first | rfl | decide) hlk hP hD hS dX5_lasts_68
theorem r_lasts_fit (u : tm_S) (n r : Int32) (hw : 0 ≤ u.2.1 10 0 ∨ u.2.1 10 0 = (-1)) (h : tm_fit (u.2.1 10 0) n r) : kr_M l dC dI ad cc yX5_lasts wsX5_lasts { frames := 0, cells := 0, slots := 0, locals := 0 } [.ref (ad 0), .int n] u (tm_I u 10 0 r) (some (.int (nI 1))) := by
  rcases h with ⟨h, rfl⟩ | ⟨h, h2, rfl⟩
  · rw [tm_I_id]; exact r_lasts_free u n (by rw [h]; decide)
  · rcases hw with hw | hw
    · exact r_lasts_ok u n hw (Int32.not_lt.mpr h2)
    · exact absurd hw h
end S20
