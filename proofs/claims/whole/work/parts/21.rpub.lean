section S21
variable {l : Launch} {dC : Nat → ClassId} {dI : Nat → Nat → Nat} {gs : Nat → Nat} {ad : Nat → Nat} {cc : Nat → ClassId}
set_option maxHeartbeats 4000000 in
set_option maxRecDepth 100000 in
theorem p_power_b1 (u : tm_S) (x : Int32) (h : x < (-1)) : kr_M l dC dI ad cc yX5_power wsX5_power { frames := 2, cells := 0, slots := 0, locals := 47 } [.ref (ad 0), .int x] u (tm_I u 14 0 (nI 1)) none := by
  refine kq_ofW (cc := cX5_power) (maxL := 2) (ret := none) (R0 := RX5) (by decide) rfl rfl (Nat.le_of_ble_eq_true rfl) ?_
  intro p e s m below meth c A ls hx hb hr hlk hml hown hts hP hK hD hA hG hS hl
  have hl : lv_has ls 2 [(0, .ref (ad 0)), (1, .int x)] := hl
  refine lv_aload_n hx hb dX5_power_0 rfl (lv_at hl 0 rfl) ?_
  refine lv_iload_n hx hb dX5_power_1 rfl (lv_at hl 1 rfl) ?_
  refine lv_iconst (v := (-1)) hx hb dX5_power_2 (by decide) ?_
  refine lv_icmp_lt (tgt := 12) hx hb dX5_power_3 (by decide) (fun _ => ?_) (fun c => absurd h c)
  refine lv_iconst (v := (nI 1)) hx hb dX5_power_12 (by decide) ?_
  refine lv_goto (tgt := 17) hx hb dX5_power_13 (by decide) ?_
  refine tr_p_thrown hx hb hts inB_X5 hown hK hP hD hS (hts _ mb_652) dX5_power_17 (fun H locs hP hD hS => ?_)
  refine lv_aload_n hx hb dX5_power_20 rfl (lv_at hl 0 rfl) ?_
  refine tr_g_thrown hx hb hts inB_X5 hown hK hP (hts _ mb_652) dX5_power_21 ?_
  refine kq_ti (y := (nI 1)) (by simp [tm_L, tm_I, tm_D]) ?_
  refine lv_if_eq (tgt := 28) hx hb dX5_power_24 (by decide) (fun c => absurd c (by decide)) (fun _ => ?_)
  exact kq_vret hx hb hr hlk hP hD hS dX5_power_27
set_option maxHeartbeats 4000000 in
set_option maxRecDepth 100000 in
theorem p_power_b2 (u : tm_S) (x : Int32) (h : ¬ x < (-1)) (h2 : ¬ x ≤ nI 100) : kr_M l dC dI ad cc yX5_power wsX5_power { frames := 2, cells := 0, slots := 0, locals := 47 } [.ref (ad 0), .int x] u (tm_I u 14 0 (nI 1)) none := by
  refine kq_ofW (cc := cX5_power) (maxL := 2) (ret := none) (R0 := RX5) (by decide) rfl rfl (Nat.le_of_ble_eq_true rfl) ?_
  intro p e s m below meth c A ls hx hb hr hlk hml hown hts hP hK hD hA hG hS hl
  have hl : lv_has ls 2 [(0, .ref (ad 0)), (1, .int x)] := hl
  refine lv_aload_n hx hb dX5_power_0 rfl (lv_at hl 0 rfl) ?_
  refine lv_iload_n hx hb dX5_power_1 rfl (lv_at hl 1 rfl) ?_
  refine lv_iconst (v := (-1)) hx hb dX5_power_2 (by decide) ?_
  refine lv_icmp_lt (tgt := 12) hx hb dX5_power_3 (by decide) (fun c => absurd c h) (fun _ => ?_)
  refine lv_iload_n hx hb dX5_power_6 rfl (lv_at hl 1 rfl) ?_
  refine lv_bipush (v := (nI 100)) hx hb dX5_power_7 (by decide) ?_
  refine lv_icmp_le (tgt := 16) hx hb dX5_power_9 (by decide) (fun c => absurd c h2) (fun _ => ?_)
  refine lv_iconst (v := (nI 1)) hx hb dX5_power_12 (by decide) ?_
  refine lv_goto (tgt := 17) hx hb dX5_power_13 (by decide) ?_
  refine tr_p_thrown hx hb hts inB_X5 hown hK hP hD hS (hts _ mb_652) dX5_power_17 (fun H locs hP hD hS => ?_)
  refine lv_aload_n hx hb dX5_power_20 rfl (lv_at hl 0 rfl) ?_
  refine tr_g_thrown hx hb hts inB_X5 hown hK hP (hts _ mb_652) dX5_power_21 ?_
  refine kq_ti (y := (nI 1)) (by simp [tm_L, tm_I, tm_D]) ?_
  refine lv_if_eq (tgt := 28) hx hb dX5_power_24 (by decide) (fun c => absurd c (by decide)) (fun _ => ?_)
  exact kq_vret hx hb hr hlk hP hD hS dX5_power_27
set_option maxHeartbeats 4000000 in
set_option maxRecDepth 100000 in
theorem p_power_ok (u : tm_S) (x : Int32) (h : ¬ x < (-1)) (h2 : x ≤ nI 100) : kr_M l dC dI ad cc yX5_power wsX5_power { frames := 2, cells := 0, slots := 0, locals := 47 } [.ref (ad 0), .int x] u (tm_I (tm_L (tm_I (tm_L (tm_I (tm_L (tm_I (tm_I (tm_I (tm_I (tm_L (tm_L (tm_L (tm_L (tm_L (tm_L (tm_L (tm_L (tm_L (tm_L (tm_L (tm_L (tm_L (tm_L (tm_L (tm_L (tm_L (tm_D (tm_I (tm_I (tm_I (tm_I u 14 0 (nI 0)) 10 0 x) 11 0 (nI 0)) 9 0 (nI 0)) 0 (u.2.2 1)) 0 2 (tm_h (u.1 0 2) 5)) 1 0 0) 1 1 0) 1 2 0) 1 3 0) 1 4 0) 1 5 0) 1 6 0) 1 7 0) 1 8 0) 1 9 0) 1 10 0) 1 11 0) 1 12 0) 1 13 0) 1 14 0) 1 15 0) 0 0 (nI 0)) 0 1 (nI 0)) 0 2 (nI 0)) 0 3 (nI 0)) 6 0 0) 4 0 (nI 0)) 6 1 0) 4 1 (nI 0)) 6 2 0) 4 2 (nI 0)) none := by
  refine kq_ofW (cc := cX5_power) (maxL := 2) (ret := none) (R0 := RX5) (by decide) rfl rfl (Nat.le_of_ble_eq_true rfl) ?_
  intro p e s m below meth c A ls hx hb hr hlk hml hown hts hP hK hD hA hG hS hl
  have hl : lv_has ls 2 [(0, .ref (ad 0)), (1, .int x)] := hl
  refine lv_aload_n hx hb dX5_power_0 rfl (lv_at hl 0 rfl) ?_
  refine lv_iload_n hx hb dX5_power_1 rfl (lv_at hl 1 rfl) ?_
  refine lv_iconst (v := (-1)) hx hb dX5_power_2 (by decide) ?_
  refine lv_icmp_lt (tgt := 12) hx hb dX5_power_3 (by decide) (fun c => absurd c h) (fun _ => ?_)
  refine lv_iload_n hx hb dX5_power_6 rfl (lv_at hl 1 rfl) ?_
  refine lv_bipush (v := (nI 100)) hx hb dX5_power_7 (by decide) ?_
  refine lv_icmp_le (tgt := 16) hx hb dX5_power_9 (by decide) (fun _ => ?_) (fun c => absurd h2 c)
  refine lv_iconst (v := (nI 0)) hx hb dX5_power_16 (by decide) ?_
  refine tr_p_thrown hx hb hts inB_X5 hown hK hP hD hS (hts _ mb_652) dX5_power_17 (fun H locs hP hD hS => ?_)
  refine lv_aload_n hx hb dX5_power_20 rfl (lv_at hl 0 rfl) ?_
  refine tr_g_thrown hx hb hts inB_X5 hown hK hP (hts _ mb_652) dX5_power_21 ?_
  refine kq_ti (y := (nI 0)) (by simp [tm_L, tm_I, tm_D]) ?_
  refine lv_if_eq (tgt := 28) hx hb dX5_power_24 (by decide) (fun _ => ?_) (fun c => absurd (by decide) c)
  refine lv_aload_n hx hb dX5_power_28 rfl (lv_at hl 0 rfl) ?_
  refine lv_iload_n hx hb dX5_power_29 rfl (lv_at hl 1 rfl) ?_
  refine tr_p_power hx hb hts inB_X5 hown hK hP hD hS (hts _ mb_650) dX5_power_30 (fun H locs hP hD hS => ?_)
  refine lv_aload_n hx hb dX5_power_33 rfl (lv_at hl 0 rfl) ?_
  refine kq_cV (st1 := []) ⟨hx, hb, hml, hown, hts⟩ (r_come (tm_I (tm_I u 14 0 (nI 0)) 10 0 x)) (cwV 0 hts gX5_78_X5_come rfl rfl rfl (by decide +kernel) ⟨Nat.le_of_ble_eq_true rfl, Nat.le_of_ble_eq_true rfl⟩) kq_okT hK hP hD hA hG hS (va_recv hK hP (ci := 5) (q0 := 0) rfl (tm_at (i := 0) (by omega) rfl)) rfl hl.1 rfl rfl (Nat.le_of_ble_eq_true rfl) dX5_power_34 ⟨Nat.le_of_ble_eq_true rfl, Nat.le_of_ble_eq_true rfl⟩ (fun H locs hP hD hS => ?_)
  exact kq_vret hx hb hr hlk hP hD hS dX5_power_37
set_option maxHeartbeats 4000000 in
set_option maxRecDepth 100000 in
theorem p_extend_b1 (u : tm_S) (x : Int32) (h : x < 0 ∨ ¬ x ≤ nI 1) (i : Int32) (v : Int64) : kr_M l dC dI ad cc yX5_extend wsX5_extend { frames := 1, cells := 0, slots := 0, locals := 26 } [.ref (ad 0), .int x, .int i, .long v] u (tm_I u 14 0 (nI 1)) (some (.long 0)) := by
  refine kq_ofW (cc := cX5_extend) (maxL := 5) (ret := (some .long)) (R0 := RX5) (by decide) rfl rfl (Nat.le_of_ble_eq_true rfl) ?_
  intro p e s m below meth c A ls hx hb hr hlk hml hown hts hP hK hD hA hG hS hl
  have hl : lv_has ls 5 [(0, .ref (ad 0)), (1, .int x), (2, .int i), (3, .long v)] := hl
  refine lv_aload_n hx hb dX5_extend_0 rfl (lv_at hl 0 rfl) ?_
  refine lv_aload_n hx hb dX5_extend_1 rfl (lv_at hl 0 rfl) ?_
  refine lv_iload_n hx hb dX5_extend_2 rfl (lv_at hl 1 rfl) ?_
  refine lv_iconst (v := (nI 1)) hx hb dX5_extend_3 (by decide) ?_
  refine kq_cV (st1 := [.int (nI 1), .ref (ad 0)]) ⟨hx, hb, hml, hown, hts⟩ (r_out_no u h) (cwV 2 hts gX5_109_X5_out rfl rfl rfl (by decide +kernel) ⟨Nat.le_of_ble_eq_true rfl, Nat.le_of_ble_eq_true rfl⟩) kq_okT hK hP hD hA hG hS (va_recv hK hP (ci := 5) (q0 := 0) rfl (tm_at (i := 0) (by omega) rfl)) rfl hl.1 rfl rfl (Nat.le_of_ble_eq_true rfl) dX5_extend_4 ⟨Nat.le_of_ble_eq_true rfl, Nat.le_of_ble_eq_true rfl⟩ (fun H locs hP hD hS => ?_)
  refine lv_if_ne (tgt := 20) hx hb dX5_extend_7 (by decide) (fun _ => ?_) (fun c => absurd c (by decide))
  refine lv_iconst (v := (nI 1)) hx hb dX5_extend_20 (by decide) ?_
  refine lv_goto (tgt := 25) hx hb dX5_extend_21 (by decide) ?_
  refine kq_cV (st1 := [.int (nI 0)]) ⟨hx, hb, hml, hown, hts⟩ (r_begin_bad u) (cwV 1 hts gX5_113_X5_begin rfl rfl rfl (by decide +kernel) ⟨Nat.le_of_ble_eq_true rfl, Nat.le_of_ble_eq_true rfl⟩) kq_okT hK hP hD hA hG hS (va_recv hK hP (ci := 5) (q0 := 0) rfl (tm_at (i := 0) (by omega) rfl)) rfl hl.1 rfl rfl (Nat.le_of_ble_eq_true rfl) dX5_extend_25 ⟨Nat.le_of_ble_eq_true rfl, Nat.le_of_ble_eq_true rfl⟩ (fun H locs hP hD hS => ?_)
  refine lv_if_ne (tgt := 33) hx hb dX5_extend_28 (by decide) (fun c => absurd (by decide) c) (fun _ => ?_)
  refine lv_lconst (v := 0) hx hb dX5_extend_31 (by decide) ?_
  exact kq_lret hx hb hr hlk hP hD hS dX5_extend_32
set_option maxHeartbeats 4000000 in
set_option maxRecDepth 100000 in
theorem p_extend_b2 (u : tm_S) {j : Nat} (hj : j < 2) (x : Int32) (h : x < 0 ∨ ¬ x ≤ nI 7) (v : Int64) : kr_M l dC dI ad cc yX5_extend wsX5_extend { frames := 1, cells := 0, slots := 0, locals := 26 } [.ref (ad 0), .int (nI j), .int x, .long v] u (tm_I u 14 0 (nI 1)) (some (.long 0)) := by
  refine kq_ofW (cc := cX5_extend) (maxL := 5) (ret := (some .long)) (R0 := RX5) (by decide) rfl rfl (Nat.le_of_ble_eq_true rfl) ?_
  intro p e s m below meth c A ls hx hb hr hlk hml hown hts hP hK hD hA hG hS hl
  have hl : lv_has ls 5 [(0, .ref (ad 0)), (1, .int (nI j)), (2, .int x), (3, .long v)] := hl
  refine lv_aload_n hx hb dX5_extend_0 rfl (lv_at hl 0 rfl) ?_
  refine lv_aload_n hx hb dX5_extend_1 rfl (lv_at hl 0 rfl) ?_
  refine lv_iload_n hx hb dX5_extend_2 rfl (lv_at hl 1 rfl) ?_
  refine lv_iconst (v := (nI 1)) hx hb dX5_extend_3 (by decide) ?_
  refine kq_cV (st1 := [.int (nI 0), .ref (ad 0)]) ⟨hx, hb, hml, hown, hts⟩ (r_out_in u (by omega) (by omega)) (cwV 2 hts gX5_109_X5_out rfl rfl rfl (by decide +kernel) ⟨Nat.le_of_ble_eq_true rfl, Nat.le_of_ble_eq_true rfl⟩) kq_okT hK hP hD hA hG hS (va_recv hK hP (ci := 5) (q0 := 0) rfl (tm_at (i := 0) (by omega) rfl)) rfl hl.1 rfl rfl (Nat.le_of_ble_eq_true rfl) dX5_extend_4 ⟨Nat.le_of_ble_eq_true rfl, Nat.le_of_ble_eq_true rfl⟩ (fun H locs hP hD hS => ?_)
  refine lv_if_ne (tgt := 20) hx hb dX5_extend_7 (by decide) (fun c => absurd (by decide) c) (fun _ => ?_)
  refine lv_aload_n hx hb dX5_extend_10 rfl (lv_at hl 0 rfl) ?_
  refine lv_iload_n hx hb dX5_extend_11 rfl (lv_at hl 2 rfl) ?_
  refine lv_bipush (v := (nI 7)) hx hb dX5_extend_12 (by decide) ?_
  refine kq_cV (st1 := [.int (nI 1), .ref (ad 0)]) ⟨hx, hb, hml, hown, hts⟩ (r_out_no u h) (cwV 2 hts gX5_109_X5_out rfl rfl rfl (by decide +kernel) ⟨Nat.le_of_ble_eq_true rfl, Nat.le_of_ble_eq_true rfl⟩) kq_okT hK hP hD hA hG hS (va_recv hK hP (ci := 5) (q0 := 0) rfl (tm_at (i := 0) (by omega) rfl)) rfl hl.1 rfl rfl (Nat.le_of_ble_eq_true rfl) dX5_extend_14 ⟨Nat.le_of_ble_eq_true rfl, Nat.le_of_ble_eq_true rfl⟩ (fun H locs hP hD hS => ?_)
  refine lv_if_eq (tgt := 24) hx hb dX5_extend_17 (by decide) (fun c => absurd c (by decide)) (fun _ => ?_)
  refine lv_iconst (v := (nI 1)) hx hb dX5_extend_20 (by decide) ?_
  refine lv_goto (tgt := 25) hx hb dX5_extend_21 (by decide) ?_
  refine kq_cV (st1 := [.int (nI 0)]) ⟨hx, hb, hml, hown, hts⟩ (r_begin_bad u) (cwV 1 hts gX5_113_X5_begin rfl rfl rfl (by decide +kernel) ⟨Nat.le_of_ble_eq_true rfl, Nat.le_of_ble_eq_true rfl⟩) kq_okT hK hP hD hA hG hS (va_recv hK hP (ci := 5) (q0 := 0) rfl (tm_at (i := 0) (by omega) rfl)) rfl hl.1 rfl rfl (Nat.le_of_ble_eq_true rfl) dX5_extend_25 ⟨Nat.le_of_ble_eq_true rfl, Nat.le_of_ble_eq_true rfl⟩ (fun H locs hP hD hS => ?_)
  refine lv_if_ne (tgt := 33) hx hb dX5_extend_28 (by decide) (fun c => absurd (by decide) c) (fun _ => ?_)
  refine lv_lconst (v := 0) hx hb dX5_extend_31 (by decide) ?_
  exact kq_lret hx hb hr hlk hP hD hS dX5_extend_32
set_option maxHeartbeats 4000000 in
set_option maxRecDepth 100000 in
theorem p_extend_lo (u : tm_S) {j i : Nat} (hj : j < 2) (hi : i < 8) (v : Int64) (hlo : ¬ u.2.1 11 0 = 0)  : kr_M l dC dI ad cc yX5_extend wsX5_extend { frames := 1, cells := 0, slots := 0, locals := 26 } [.ref (ad 0), .int (nI j), .int (nI i), .long v] u (tm_I u 14 0 (nI 2)) (some (.long 0)) := by
  refine kq_ofW (cc := cX5_extend) (maxL := 5) (ret := (some .long)) (R0 := RX5) (by decide) rfl rfl (Nat.le_of_ble_eq_true rfl) ?_
  intro p e s m below meth c A ls hx hb hr hlk hml hown hts hP hK hD hA hG hS hl
  have hl : lv_has ls 5 [(0, .ref (ad 0)), (1, .int (nI j)), (2, .int (nI i)), (3, .long v)] := hl
  refine lv_aload_n hx hb dX5_extend_0 rfl (lv_at hl 0 rfl) ?_
  refine lv_aload_n hx hb dX5_extend_1 rfl (lv_at hl 0 rfl) ?_
  refine lv_iload_n hx hb dX5_extend_2 rfl (lv_at hl 1 rfl) ?_
  refine lv_iconst (v := (nI 1)) hx hb dX5_extend_3 (by decide) ?_
  refine kq_cV (st1 := [.int (nI 0), .ref (ad 0)]) ⟨hx, hb, hml, hown, hts⟩ (r_out_in u (by omega) (by omega)) (cwV 2 hts gX5_109_X5_out rfl rfl rfl (by decide +kernel) ⟨Nat.le_of_ble_eq_true rfl, Nat.le_of_ble_eq_true rfl⟩) kq_okT hK hP hD hA hG hS (va_recv hK hP (ci := 5) (q0 := 0) rfl (tm_at (i := 0) (by omega) rfl)) rfl hl.1 rfl rfl (Nat.le_of_ble_eq_true rfl) dX5_extend_4 ⟨Nat.le_of_ble_eq_true rfl, Nat.le_of_ble_eq_true rfl⟩ (fun H locs hP hD hS => ?_)
  refine lv_if_ne (tgt := 20) hx hb dX5_extend_7 (by decide) (fun c => absurd (by decide) c) (fun _ => ?_)
  refine lv_aload_n hx hb dX5_extend_10 rfl (lv_at hl 0 rfl) ?_
  refine lv_iload_n hx hb dX5_extend_11 rfl (lv_at hl 2 rfl) ?_
  refine lv_bipush (v := (nI 7)) hx hb dX5_extend_12 (by decide) ?_
  refine kq_cV (st1 := [.int (nI 0), .ref (ad 0)]) ⟨hx, hb, hml, hown, hts⟩ (r_out_in u (by omega) (by omega)) (cwV 2 hts gX5_109_X5_out rfl rfl rfl (by decide +kernel) ⟨Nat.le_of_ble_eq_true rfl, Nat.le_of_ble_eq_true rfl⟩) kq_okT hK hP hD hA hG hS (va_recv hK hP (ci := 5) (q0 := 0) rfl (tm_at (i := 0) (by omega) rfl)) rfl hl.1 rfl rfl (Nat.le_of_ble_eq_true rfl) dX5_extend_14 ⟨Nat.le_of_ble_eq_true rfl, Nat.le_of_ble_eq_true rfl⟩ (fun H locs hP hD hS => ?_)
  refine lv_if_eq (tgt := 24) hx hb dX5_extend_17 (by decide) (fun _ => ?_) (fun c => absurd (by decide) c)
  refine lv_iconst (v := (nI 0)) hx hb dX5_extend_24 (by decide) ?_
  refine kq_cV (st1 := [.int (nI 0)]) ⟨hx, hb, hml, hown, hts⟩ (r_begin_lost u hlo) (cwV 1 hts gX5_113_X5_begin rfl rfl rfl (by decide +kernel) ⟨Nat.le_of_ble_eq_true rfl, Nat.le_of_ble_eq_true rfl⟩) kq_okT hK hP hD hA hG hS (va_recv hK hP (ci := 5) (q0 := 0) rfl (tm_at (i := 0) (by omega) rfl)) rfl hl.1 rfl rfl (Nat.le_of_ble_eq_true rfl) dX5_extend_25 ⟨Nat.le_of_ble_eq_true rfl, Nat.le_of_ble_eq_true rfl⟩ (fun H locs hP hD hS => ?_)
  refine lv_if_ne (tgt := 33) hx hb dX5_extend_28 (by decide) (fun c => absurd (by decide) c) (fun _ => ?_)
  refine lv_lconst (v := 0) hx hb dX5_extend_31 (by decide) ?_
  exact kq_lret hx hb hr hlk hP hD hS dX5_extend_32
set_option maxHeartbeats 4000000 in
set_option maxRecDepth 100000 in
theorem p_extend_ok (u : tm_S) {j i : Nat} (hj : j < 2) (hi : i < 8) (v : Int64) (hnl : u.2.1 11 0 = 0)  : kr_M l dC dI ad cc yX5_extend wsX5_extend { frames := 1, cells := 0, slots := 0, locals := 26 } [.ref (ad 0), .int (nI j), .int (nI i), .long v] u (tm_I (tm_L (tm_I u 14 0 (nI 0)) 1 (8 * j + i) (tm_h (u.1 1 (8 * j + i)) v)) 9 0 ((u.2.1 9 0) + (nI 1))) (some (.long (tm_h (u.1 1 (8 * j + i)) v))) := by
  refine kq_ofW (cc := cX5_extend) (maxL := 5) (ret := (some .long)) (R0 := RX5) (by decide) rfl rfl (Nat.le_of_ble_eq_true rfl) ?_
  intro p e s m below meth c A ls hx hb hr hlk hml hown hts hP hK hD hA hG hS hl
  have hl : lv_has ls 5 [(0, .ref (ad 0)), (1, .int (nI j)), (2, .int (nI i)), (3, .long v)] := hl
  refine lv_aload_n hx hb dX5_extend_0 rfl (lv_at hl 0 rfl) ?_
  refine lv_aload_n hx hb dX5_extend_1 rfl (lv_at hl 0 rfl) ?_
  refine lv_iload_n hx hb dX5_extend_2 rfl (lv_at hl 1 rfl) ?_
  refine lv_iconst (v := (nI 1)) hx hb dX5_extend_3 (by decide) ?_
  refine kq_cV (st1 := [.int (nI 0), .ref (ad 0)]) ⟨hx, hb, hml, hown, hts⟩ (r_out_in u (by omega) (by omega)) (cwV 2 hts gX5_109_X5_out rfl rfl rfl (by decide +kernel) ⟨Nat.le_of_ble_eq_true rfl, Nat.le_of_ble_eq_true rfl⟩) kq_okT hK hP hD hA hG hS (va_recv hK hP (ci := 5) (q0 := 0) rfl (tm_at (i := 0) (by omega) rfl)) rfl hl.1 rfl rfl (Nat.le_of_ble_eq_true rfl) dX5_extend_4 ⟨Nat.le_of_ble_eq_true rfl, Nat.le_of_ble_eq_true rfl⟩ (fun H locs hP hD hS => ?_)
  refine lv_if_ne (tgt := 20) hx hb dX5_extend_7 (by decide) (fun c => absurd (by decide) c) (fun _ => ?_)
  refine lv_aload_n hx hb dX5_extend_10 rfl (lv_at hl 0 rfl) ?_
  refine lv_iload_n hx hb dX5_extend_11 rfl (lv_at hl 2 rfl) ?_
  refine lv_bipush (v := (nI 7)) hx hb dX5_extend_12 (by decide) ?_
  refine kq_cV (st1 := [.int (nI 0), .ref (ad 0)]) ⟨hx, hb, hml, hown, hts⟩ (r_out_in u (by omega) (by omega)) (cwV 2 hts gX5_109_X5_out rfl rfl rfl (by decide +kernel) ⟨Nat.le_of_ble_eq_true rfl, Nat.le_of_ble_eq_true rfl⟩) kq_okT hK hP hD hA hG hS (va_recv hK hP (ci := 5) (q0 := 0) rfl (tm_at (i := 0) (by omega) rfl)) rfl hl.1 rfl rfl (Nat.le_of_ble_eq_true rfl) dX5_extend_14 ⟨Nat.le_of_ble_eq_true rfl, Nat.le_of_ble_eq_true rfl⟩ (fun H locs hP hD hS => ?_)
  refine lv_if_eq (tgt := 24) hx hb dX5_extend_17 (by decide) (fun _ => ?_) (fun c => absurd (by decide) c)
  refine lv_iconst (v := (nI 0)) hx hb dX5_extend_24 (by decide) ?_
  refine kq_cV (st1 := [.int (nI 1)]) ⟨hx, hb, hml, hown, hts⟩ (r_begin_ok u hnl) (cwV 1 hts gX5_113_X5_begin rfl rfl rfl (by decide +kernel) ⟨Nat.le_of_ble_eq_true rfl, Nat.le_of_ble_eq_true rfl⟩) kq_okT hK hP hD hA hG hS (va_recv hK hP (ci := 5) (q0 := 0) rfl (tm_at (i := 0) (by omega) rfl)) rfl hl.1 rfl rfl (Nat.le_of_ble_eq_true rfl) dX5_extend_25 ⟨Nat.le_of_ble_eq_true rfl, Nat.le_of_ble_eq_true rfl⟩ (fun H locs hP hD hS => ?_)
  refine lv_if_ne (tgt := 33) hx hb dX5_extend_28 (by decide) (fun _ => ?_) (fun c => absurd c (by decide))
  refine lv_aload_n hx hb dX5_extend_33 rfl (lv_at hl 0 rfl) ?_
  refine tr_g_pcr hx hb hts inB_X5 hown hK hP (hts _ mb_631) dX5_extend_34 ?_
  refine lv_iload_n hx hb dX5_extend_37 rfl (lv_at hl 1 rfl) ?_
  refine lv_bipush (v := (nI 8)) hx hb dX5_extend_38 (by decide) ?_
  refine lv_imul hx hb dX5_extend_40 ?_
  refine kq_ti (y := (nI (8 * j))) (by rw [pk_mul, Nat.mul_comm]) ?_
  refine lv_iload_n hx hb dX5_extend_41 rfl (lv_at hl 2 rfl) ?_
  refine lv_iadd hx hb dX5_extend_42 ?_
  refine kq_ti (y := (nI (8 * j + i))) (nI_add (8 * j) i) ?_
  refine lv_aload_n hx hb dX5_extend_43 rfl (lv_at hl 0 rfl) ?_
  refine lv_aload_n hx hb dX5_extend_44 rfl (lv_at hl 0 rfl) ?_
  refine tr_g_pcr hx hb hts inB_X5 hown hK hP (hts _ mb_631) dX5_extend_45 ?_
  refine lv_iload_n hx hb dX5_extend_48 rfl (lv_at hl 1 rfl) ?_
  refine lv_bipush (v := (nI 8)) hx hb dX5_extend_49 (by decide) ?_
  refine lv_imul hx hb dX5_extend_51 ?_
  refine kq_ti (y := (nI (8 * j))) (by rw [pk_mul, Nat.mul_comm]) ?_
  refine lv_iload_n hx hb dX5_extend_52 rfl (lv_at hl 2 rfl) ?_
  refine lv_iadd hx hb dX5_extend_53 ?_
  refine kq_ti (y := (nI (8 * j + i))) (nI_add (8 * j) i) ?_
  refine tr_l_pcr hx hb hK hP (by omega) dX5_extend_54 ?_
  refine kq_tl (y := (u.1 1 (8 * j + i))) (by simp [tm_L, tm_I, tm_D]) ?_
  refine lv_lload_n hx hb dX5_extend_55 rfl (lv_at hl 3 rfl) ?_
  refine kq_cV (st1 := [.long (tm_h (u.1 1 (8 * j + i)) v), .int (nI (8 * j + i)), .ref (ad 2)]) ⟨hx, hb, hml, hown, hts⟩ (r_mix (tm_I u 14 0 (nI 0)) (u.1 1 (8 * j + i)) v) (cwV 2 hts gX5_74_X5_mix rfl rfl rfl (by decide +kernel) ⟨Nat.le_of_ble_eq_true rfl, Nat.le_of_ble_eq_true rfl⟩) kq_okT hK hP hD hA hG hS (va_recv hK hP (ci := 5) (q0 := 0) rfl (tm_at (i := 0) (by omega) rfl)) rfl hl.1 rfl rfl (Nat.le_of_ble_eq_true rfl) dX5_extend_56 ⟨Nat.le_of_ble_eq_true rfl, Nat.le_of_ble_eq_true rfl⟩ (fun H locs hP hD hS => ?_)
  refine tr_t_pcr hx hb hK hP hD hS (by omega) dX5_extend_59 (fun H locs hP hD hS => ?_)
  refine lv_aload_n hx hb dX5_extend_60 rfl (lv_at hl 0 rfl) ?_
  refine lv_dup hx hb dX5_extend_61 rfl ?_
  refine tr_g_pcrCount hx hb hts inB_X5 hown hK hP (hts _ mb_648) dX5_extend_62 ?_
  refine kq_ti (y := (u.2.1 9 0)) (by simp [tm_L, tm_I, tm_D]) ?_
  refine lv_iconst (v := (nI 1)) hx hb dX5_extend_65 (by decide) ?_
  refine lv_iadd hx hb dX5_extend_66 ?_
  refine tr_p_pcrCount hx hb hts inB_X5 hown hK hP hD hS (hts _ mb_648) dX5_extend_67 (fun H locs hP hD hS => ?_)
  refine lv_aload_n hx hb dX5_extend_70 rfl (lv_at hl 0 rfl) ?_
  refine tr_g_pcr hx hb hts inB_X5 hown hK hP (hts _ mb_631) dX5_extend_71 ?_
  refine lv_iload_n hx hb dX5_extend_74 rfl (lv_at hl 1 rfl) ?_
  refine lv_bipush (v := (nI 8)) hx hb dX5_extend_75 (by decide) ?_
  refine lv_imul hx hb dX5_extend_77 ?_
  refine kq_ti (y := (nI (8 * j))) (by rw [pk_mul, Nat.mul_comm]) ?_
  refine lv_iload_n hx hb dX5_extend_78 rfl (lv_at hl 2 rfl) ?_
  refine lv_iadd hx hb dX5_extend_79 ?_
  refine kq_ti (y := (nI (8 * j + i))) (nI_add (8 * j) i) ?_
  refine tr_l_pcr hx hb hK hP (by omega) dX5_extend_80 ?_
  refine kq_tl (y := (tm_h (u.1 1 (8 * j + i)) v)) (by simp [tm_L, tm_I, tm_D]) ?_
  exact kq_lret hx hb hr hlk hP hD hS dX5_extend_81
set_option maxHeartbeats 4000000 in
set_option maxRecDepth 100000 in
theorem p_primary_b1 (u : tm_S) (x : Int32) (h : x < 0 ∨ ¬ x ≤ nI 2) (v : Int64) : kr_M l dC dI ad cc yX5_primary wsX5_primary { frames := 2, cells := 0, slots := 0, locals := 50 } [.ref (ad 0), .int x, .long v] u (tm_I u 14 0 (nI 1)) (some (.int (nI 0))) := by
  refine kq_ofW (cc := cX5_primary) (maxL := 4) (ret := (some .int)) (R0 := RX5) (by decide) rfl rfl (Nat.le_of_ble_eq_true rfl) ?_
  intro p e s m below meth c A ls hx hb hr hlk hml hown hts hP hK hD hA hG hS hl
  have hl : lv_has ls 4 [(0, .ref (ad 0)), (1, .int x), (2, .long v)] := hl
  refine lv_aload_n hx hb dX5_primary_0 rfl (lv_at hl 0 rfl) ?_
  refine lv_aload_n hx hb dX5_primary_1 rfl (lv_at hl 0 rfl) ?_
  refine lv_iload_n hx hb dX5_primary_2 rfl (lv_at hl 1 rfl) ?_
  refine lv_iconst (v := (nI 2)) hx hb dX5_primary_3 (by decide) ?_
  refine kq_cV (st1 := [.int (nI 1), .ref (ad 0)]) ⟨hx, hb, hml, hown, hts⟩ (r_out_no u h) (cwV 2 hts gX5_109_X5_out rfl rfl rfl (by decide +kernel) ⟨Nat.le_of_ble_eq_true rfl, Nat.le_of_ble_eq_true rfl⟩) kq_okT hK hP hD hA hG hS (va_recv hK hP (ci := 5) (q0 := 0) rfl (tm_at (i := 0) (by omega) rfl)) rfl hl.1 rfl rfl (Nat.le_of_ble_eq_true rfl) dX5_primary_4 ⟨Nat.le_of_ble_eq_true rfl, Nat.le_of_ble_eq_true rfl⟩ (fun H locs hP hD hS => ?_)
  refine kq_cV (st1 := [.int (nI 0)]) ⟨hx, hb, hml, hown, hts⟩ (r_begin_bad u) (cwV 1 hts gX5_113_X5_begin rfl rfl rfl (by decide +kernel) ⟨Nat.le_of_ble_eq_true rfl, Nat.le_of_ble_eq_true rfl⟩) kq_okT hK hP hD hA hG hS (va_recv hK hP (ci := 5) (q0 := 0) rfl (tm_at (i := 0) (by omega) rfl)) rfl hl.1 rfl rfl (Nat.le_of_ble_eq_true rfl) dX5_primary_7 ⟨Nat.le_of_ble_eq_true rfl, Nat.le_of_ble_eq_true rfl⟩ (fun H locs hP hD hS => ?_)
  refine lv_if_ne (tgt := 15) hx hb dX5_primary_10 (by decide) (fun c => absurd (by decide) c) (fun _ => ?_)
  refine lv_iconst (v := (nI 0)) hx hb dX5_primary_13 (by decide) ?_
  exact kq_iret hx hb hr hlk hP hD hS dX5_primary_14
set_option maxHeartbeats 4000000 in
set_option maxRecDepth 100000 in
theorem p_primary_lo (u : tm_S) {j : Nat} (hj : j < 3) (v : Int64) (hlo : ¬ u.2.1 11 0 = 0)  : kr_M l dC dI ad cc yX5_primary wsX5_primary { frames := 2, cells := 0, slots := 0, locals := 50 } [.ref (ad 0), .int (nI j), .long v] u (tm_I u 14 0 (nI 2)) (some (.int (nI 0))) := by
  refine kq_ofW (cc := cX5_primary) (maxL := 4) (ret := (some .int)) (R0 := RX5) (by decide) rfl rfl (Nat.le_of_ble_eq_true rfl) ?_
  intro p e s m below meth c A ls hx hb hr hlk hml hown hts hP hK hD hA hG hS hl
  have hl : lv_has ls 4 [(0, .ref (ad 0)), (1, .int (nI j)), (2, .long v)] := hl
  refine lv_aload_n hx hb dX5_primary_0 rfl (lv_at hl 0 rfl) ?_
  refine lv_aload_n hx hb dX5_primary_1 rfl (lv_at hl 0 rfl) ?_
  refine lv_iload_n hx hb dX5_primary_2 rfl (lv_at hl 1 rfl) ?_
  refine lv_iconst (v := (nI 2)) hx hb dX5_primary_3 (by decide) ?_
  refine kq_cV (st1 := [.int (nI 0), .ref (ad 0)]) ⟨hx, hb, hml, hown, hts⟩ (r_out_in u (by omega) (by omega)) (cwV 2 hts gX5_109_X5_out rfl rfl rfl (by decide +kernel) ⟨Nat.le_of_ble_eq_true rfl, Nat.le_of_ble_eq_true rfl⟩) kq_okT hK hP hD hA hG hS (va_recv hK hP (ci := 5) (q0 := 0) rfl (tm_at (i := 0) (by omega) rfl)) rfl hl.1 rfl rfl (Nat.le_of_ble_eq_true rfl) dX5_primary_4 ⟨Nat.le_of_ble_eq_true rfl, Nat.le_of_ble_eq_true rfl⟩ (fun H locs hP hD hS => ?_)
  refine kq_cV (st1 := [.int (nI 0)]) ⟨hx, hb, hml, hown, hts⟩ (r_begin_lost u hlo) (cwV 1 hts gX5_113_X5_begin rfl rfl rfl (by decide +kernel) ⟨Nat.le_of_ble_eq_true rfl, Nat.le_of_ble_eq_true rfl⟩) kq_okT hK hP hD hA hG hS (va_recv hK hP (ci := 5) (q0 := 0) rfl (tm_at (i := 0) (by omega) rfl)) rfl hl.1 rfl rfl (Nat.le_of_ble_eq_true rfl) dX5_primary_7 ⟨Nat.le_of_ble_eq_true rfl, Nat.le_of_ble_eq_true rfl⟩ (fun H locs hP hD hS => ?_)
  refine lv_if_ne (tgt := 15) hx hb dX5_primary_10 (by decide) (fun c => absurd (by decide) c) (fun _ => ?_)
  refine lv_iconst (v := (nI 0)) hx hb dX5_primary_13 (by decide) ?_
  exact kq_iret hx hb hr hlk hP hD hS dX5_primary_14
set_option maxHeartbeats 4000000 in
set_option maxRecDepth 100000 in
theorem p_primary_full (u : tm_S) {j : Nat} (hj : j < 3) (v : Int64) (hnl : u.2.1 11 0 = 0) (hf : ∀ i, i < 4 → ¬ u.2.1 0 i = 0)  : kr_M l dC dI ad cc yX5_primary wsX5_primary { frames := 2, cells := 0, slots := 0, locals := 50 } [.ref (ad 0), .int (nI j), .long v] u (tm_I (tm_I u 14 0 (nI 0)) 14 0 (nI 2)) (some (.int (nI 0))) := by
  refine kq_ofW (cc := cX5_primary) (maxL := 4) (ret := (some .int)) (R0 := RX5) (by decide) rfl rfl (Nat.le_of_ble_eq_true rfl) ?_
  intro p e s m below meth c A ls hx hb hr hlk hml hown hts hP hK hD hA hG hS hl
  have hl : lv_has ls 4 [(0, .ref (ad 0)), (1, .int (nI j)), (2, .long v)] := hl
  refine lv_aload_n hx hb dX5_primary_0 rfl (lv_at hl 0 rfl) ?_
  refine lv_aload_n hx hb dX5_primary_1 rfl (lv_at hl 0 rfl) ?_
  refine lv_iload_n hx hb dX5_primary_2 rfl (lv_at hl 1 rfl) ?_
  refine lv_iconst (v := (nI 2)) hx hb dX5_primary_3 (by decide) ?_
  refine kq_cV (st1 := [.int (nI 0), .ref (ad 0)]) ⟨hx, hb, hml, hown, hts⟩ (r_out_in u (by omega) (by omega)) (cwV 2 hts gX5_109_X5_out rfl rfl rfl (by decide +kernel) ⟨Nat.le_of_ble_eq_true rfl, Nat.le_of_ble_eq_true rfl⟩) kq_okT hK hP hD hA hG hS (va_recv hK hP (ci := 5) (q0 := 0) rfl (tm_at (i := 0) (by omega) rfl)) rfl hl.1 rfl rfl (Nat.le_of_ble_eq_true rfl) dX5_primary_4 ⟨Nat.le_of_ble_eq_true rfl, Nat.le_of_ble_eq_true rfl⟩ (fun H locs hP hD hS => ?_)
  refine kq_cV (st1 := [.int (nI 1)]) ⟨hx, hb, hml, hown, hts⟩ (r_begin_ok u hnl) (cwV 1 hts gX5_113_X5_begin rfl rfl rfl (by decide +kernel) ⟨Nat.le_of_ble_eq_true rfl, Nat.le_of_ble_eq_true rfl⟩) kq_okT hK hP hD hA hG hS (va_recv hK hP (ci := 5) (q0 := 0) rfl (tm_at (i := 0) (by omega) rfl)) rfl hl.1 rfl rfl (Nat.le_of_ble_eq_true rfl) dX5_primary_7 ⟨Nat.le_of_ble_eq_true rfl, Nat.le_of_ble_eq_true rfl⟩ (fun H locs hP hD hS => ?_)
  refine lv_if_ne (tgt := 15) hx hb dX5_primary_10 (by decide) (fun _ => ?_) (fun c => absurd c (by decide))
  refine lv_aload_n hx hb dX5_primary_15 rfl (lv_at hl 0 rfl) ?_
  refine lv_aload_n hx hb dX5_primary_16 rfl (lv_at hl 0 rfl) ?_
  refine lv_aload_n hx hb dX5_primary_17 rfl (lv_at hl 0 rfl) ?_
  refine tr_g_seed hx hb hts inB_X5 hown hK hP (hts _ mb_630) dX5_primary_18 ?_
  refine lv_iload_n hx hb dX5_primary_21 rfl (lv_at hl 1 rfl) ?_
  refine tr_l_seed hx hb hK hP (by omega) dX5_primary_22 ?_
  refine kq_tl (y := (u.1 0 j)) (by simp [tm_L, tm_I, tm_D]) ?_
  refine lv_lload_n hx hb dX5_primary_23 rfl (lv_at hl 2 rfl) ?_
  refine kq_cV (st1 := [.long (tm_h (u.1 0 j) v), .ref (ad 0)]) ⟨hx, hb, hml, hown, hts⟩ (r_mix (tm_I u 14 0 (nI 0)) (u.1 0 j) v) (cwV 2 hts gX5_74_X5_mix rfl rfl rfl (by decide +kernel) ⟨Nat.le_of_ble_eq_true rfl, Nat.le_of_ble_eq_true rfl⟩) kq_okT hK hP hD hA hG hS (va_recv hK hP (ci := 5) (q0 := 0) rfl (tm_at (i := 0) (by omega) rfl)) rfl hl.1 rfl rfl (Nat.le_of_ble_eq_true rfl) dX5_primary_24 ⟨Nat.le_of_ble_eq_true rfl, Nat.le_of_ble_eq_true rfl⟩ (fun H locs hP hD hS => ?_)
  refine lv_iconst (v := (nI 0)) hx hb dX5_primary_27 (by decide) ?_
  refine lv_lconst (v := 0) hx hb dX5_primary_28 (by decide) ?_
  refine lv_lconst (v := 0) hx hb dX5_primary_29 (by decide) ?_
  refine lv_iconst (v := (nI 1)) hx hb dX5_primary_30 (by decide) ?_
  refine kq_cV (st1 := [.int (nI 0)]) ⟨hx, hb, hml, hown, hts⟩ (r_key_no (tm_I u 14 0 (nI 0)) (tm_h (u.1 0 j) v) (nI 0) 0 0 (nI 1) (by simpa [tm_I] using hf)) (cwV 5 hts gX5_121_X5_key rfl rfl rfl (by decide +kernel) ⟨Nat.le_of_ble_eq_true rfl, Nat.le_of_ble_eq_true rfl⟩) kq_okT hK hP hD hA hG hS (va_recv hK hP (ci := 5) (q0 := 0) rfl (tm_at (i := 0) (by omega) rfl)) rfl hl.1 rfl rfl (Nat.le_of_ble_eq_true rfl) dX5_primary_31 ⟨Nat.le_of_ble_eq_true rfl, Nat.le_of_ble_eq_true rfl⟩ (fun H locs hP hD hS => ?_)
  exact kq_iret hx hb hr hlk hP hD hS dX5_primary_34
set_option maxHeartbeats 4000000 in
set_option maxRecDepth 100000 in
theorem p_primary_ok (u : tm_S) {j : Nat} (hj : j < 3) (v : Int64) (hnl : u.2.1 11 0 = 0) {k : Nat} (hk : k < 4) (hf : u.2.1 0 k = 0) (ha : ∀ i, i < k → ¬ u.2.1 0 i = 0)  : kr_M l dC dI ad cc yX5_primary wsX5_primary { frames := 2, cells := 0, slots := 0, locals := 50 } [.ref (ad 0), .int (nI j), .long v] u (tm_I (tm_L (tm_L (tm_I (tm_L (tm_I (tm_I u 14 0 (nI 0)) 0 k (nI 1)) 2 k (tm_h (u.1 0 j) v)) 1 k (nI 0)) 3 k 0) 4 k 0) 2 k (nI 1)) (some (.int (nI k))) := by
  refine kq_ofW (cc := cX5_primary) (maxL := 4) (ret := (some .int)) (R0 := RX5) (by decide) rfl rfl (Nat.le_of_ble_eq_true rfl) ?_
  intro p e s m below meth c A ls hx hb hr hlk hml hown hts hP hK hD hA hG hS hl
  have hl : lv_has ls 4 [(0, .ref (ad 0)), (1, .int (nI j)), (2, .long v)] := hl
  refine lv_aload_n hx hb dX5_primary_0 rfl (lv_at hl 0 rfl) ?_
  refine lv_aload_n hx hb dX5_primary_1 rfl (lv_at hl 0 rfl) ?_
  refine lv_iload_n hx hb dX5_primary_2 rfl (lv_at hl 1 rfl) ?_
  refine lv_iconst (v := (nI 2)) hx hb dX5_primary_3 (by decide) ?_
  refine kq_cV (st1 := [.int (nI 0), .ref (ad 0)]) ⟨hx, hb, hml, hown, hts⟩ (r_out_in u (by omega) (by omega)) (cwV 2 hts gX5_109_X5_out rfl rfl rfl (by decide +kernel) ⟨Nat.le_of_ble_eq_true rfl, Nat.le_of_ble_eq_true rfl⟩) kq_okT hK hP hD hA hG hS (va_recv hK hP (ci := 5) (q0 := 0) rfl (tm_at (i := 0) (by omega) rfl)) rfl hl.1 rfl rfl (Nat.le_of_ble_eq_true rfl) dX5_primary_4 ⟨Nat.le_of_ble_eq_true rfl, Nat.le_of_ble_eq_true rfl⟩ (fun H locs hP hD hS => ?_)
  refine kq_cV (st1 := [.int (nI 1)]) ⟨hx, hb, hml, hown, hts⟩ (r_begin_ok u hnl) (cwV 1 hts gX5_113_X5_begin rfl rfl rfl (by decide +kernel) ⟨Nat.le_of_ble_eq_true rfl, Nat.le_of_ble_eq_true rfl⟩) kq_okT hK hP hD hA hG hS (va_recv hK hP (ci := 5) (q0 := 0) rfl (tm_at (i := 0) (by omega) rfl)) rfl hl.1 rfl rfl (Nat.le_of_ble_eq_true rfl) dX5_primary_7 ⟨Nat.le_of_ble_eq_true rfl, Nat.le_of_ble_eq_true rfl⟩ (fun H locs hP hD hS => ?_)
  refine lv_if_ne (tgt := 15) hx hb dX5_primary_10 (by decide) (fun _ => ?_) (fun c => absurd c (by decide))
  refine lv_aload_n hx hb dX5_primary_15 rfl (lv_at hl 0 rfl) ?_
  refine lv_aload_n hx hb dX5_primary_16 rfl (lv_at hl 0 rfl) ?_
  refine lv_aload_n hx hb dX5_primary_17 rfl (lv_at hl 0 rfl) ?_
  refine tr_g_seed hx hb hts inB_X5 hown hK hP (hts _ mb_630) dX5_primary_18 ?_
  refine lv_iload_n hx hb dX5_primary_21 rfl (lv_at hl 1 rfl) ?_
  refine tr_l_seed hx hb hK hP (by omega) dX5_primary_22 ?_
  refine kq_tl (y := (u.1 0 j)) (by simp [tm_L, tm_I, tm_D]) ?_
  refine lv_lload_n hx hb dX5_primary_23 rfl (lv_at hl 2 rfl) ?_
  refine kq_cV (st1 := [.long (tm_h (u.1 0 j) v), .ref (ad 0)]) ⟨hx, hb, hml, hown, hts⟩ (r_mix (tm_I u 14 0 (nI 0)) (u.1 0 j) v) (cwV 2 hts gX5_74_X5_mix rfl rfl rfl (by decide +kernel) ⟨Nat.le_of_ble_eq_true rfl, Nat.le_of_ble_eq_true rfl⟩) kq_okT hK hP hD hA hG hS (va_recv hK hP (ci := 5) (q0 := 0) rfl (tm_at (i := 0) (by omega) rfl)) rfl hl.1 rfl rfl (Nat.le_of_ble_eq_true rfl) dX5_primary_24 ⟨Nat.le_of_ble_eq_true rfl, Nat.le_of_ble_eq_true rfl⟩ (fun H locs hP hD hS => ?_)
  refine lv_iconst (v := (nI 0)) hx hb dX5_primary_27 (by decide) ?_
  refine lv_lconst (v := 0) hx hb dX5_primary_28 (by decide) ?_
  refine lv_lconst (v := 0) hx hb dX5_primary_29 (by decide) ?_
  refine lv_iconst (v := (nI 1)) hx hb dX5_primary_30 (by decide) ?_
  refine kq_cV (st1 := [.int (nI k)]) ⟨hx, hb, hml, hown, hts⟩ (r_key_ok (tm_I u 14 0 (nI 0)) (tm_h (u.1 0 j) v) (nI 0) 0 0 (nI 1) (Or.inr rfl) (by simp [tm_I]; rfl) (k := k) (by omega) (by simpa [tm_I] using hf) (by simpa [tm_I] using ha)) (cwV 5 hts gX5_121_X5_key rfl rfl rfl (by decide +kernel) ⟨Nat.le_of_ble_eq_true rfl, Nat.le_of_ble_eq_true rfl⟩) kq_okT hK hP hD hA hG hS (va_recv hK hP (ci := 5) (q0 := 0) rfl (tm_at (i := 0) (by omega) rfl)) rfl hl.1 rfl rfl (Nat.le_of_ble_eq_true rfl) dX5_primary_31 ⟨Nat.le_of_ble_eq_true rfl, Nat.le_of_ble_eq_true rfl⟩ (fun H locs hP hD hS => ?_)
  exact kq_iret hx hb hr hlk hP hD hS dX5_primary_34
set_option maxHeartbeats 4000000 in
set_option maxRecDepth 100000 in
theorem p_create_b1 (u : tm_S) (x : Int32) (h : x < 0 ∨ ¬ x ≤ nI 3) (i : Int32) (se : Int64) (wd : Int32) (po : Int64)  : kr_M l dC dI ad cc yX5_create wsX5_create { frames := 2, cells := 0, slots := 0, locals := 48 } [.ref (ad 0), .int x, .int i, .long se, .int wd, .long po] u (tm_I u 14 0 (nI 1)) none := by
  refine kq_ofW (cc := cX5_create) (maxL := 8) (ret := none) (R0 := RX5) (by decide) rfl rfl (Nat.le_of_ble_eq_true rfl) ?_
  intro p e s m below meth c A ls hx hb hr hlk hml hown hts hP hK hD hA hG hS hl
  have hl : lv_has ls 8 [(0, .ref (ad 0)), (1, .int x), (2, .int i), (3, .long se), (5, .int wd), (6, .long po)] := hl
  refine lv_aload_n hx hb dX5_create_0 rfl (lv_at hl 0 rfl) ?_
  refine lv_aload_n hx hb dX5_create_1 rfl (lv_at hl 0 rfl) ?_
  refine lv_iload_n hx hb dX5_create_2 rfl (lv_at hl 1 rfl) ?_
  refine lv_iconst (v := (nI 3)) hx hb dX5_create_3 (by decide) ?_
  refine kq_cV (st1 := [.int (nI 1), .ref (ad 0)]) ⟨hx, hb, hml, hown, hts⟩ (r_out_no u h) (cwV 2 hts gX5_109_X5_out rfl rfl rfl (by decide +kernel) ⟨Nat.le_of_ble_eq_true rfl, Nat.le_of_ble_eq_true rfl⟩) kq_okT hK hP hD hA hG hS (va_recv hK hP (ci := 5) (q0 := 0) rfl (tm_at (i := 0) (by omega) rfl)) rfl hl.1 rfl rfl (Nat.le_of_ble_eq_true rfl) dX5_create_4 ⟨Nat.le_of_ble_eq_true rfl, Nat.le_of_ble_eq_true rfl⟩ (fun H locs hP hD hS => ?_)
  refine lv_if_ne (tgt := 20) hx hb dX5_create_7 (by decide) (fun _ => ?_) (fun c => absurd c (by decide))
  refine lv_iconst (v := (nI 1)) hx hb dX5_create_20 (by decide) ?_
  refine lv_goto (tgt := 25) hx hb dX5_create_21 (by decide) ?_
  refine kq_cV (st1 := [.int (nI 0)]) ⟨hx, hb, hml, hown, hts⟩ (r_begin_bad u) (cwV 1 hts gX5_113_X5_begin rfl rfl rfl (by decide +kernel) ⟨Nat.le_of_ble_eq_true rfl, Nat.le_of_ble_eq_true rfl⟩) kq_okT hK hP hD hA hG hS (va_recv hK hP (ci := 5) (q0 := 0) rfl (tm_at (i := 0) (by omega) rfl)) rfl hl.1 rfl rfl (Nat.le_of_ble_eq_true rfl) dX5_create_25 ⟨Nat.le_of_ble_eq_true rfl, Nat.le_of_ble_eq_true rfl⟩ (fun H locs hP hD hS => ?_)
  refine lv_if_ne (tgt := 32) hx hb dX5_create_28 (by decide) (fun c => absurd (by decide) c) (fun _ => ?_)
  exact kq_vret hx hb hr hlk hP hD hS dX5_create_31
set_option maxHeartbeats 4000000 in
set_option maxRecDepth 100000 in
theorem p_create_b2 (u : tm_S) {j : Nat} (hj : j < 4) (x : Int32) (h : x < 0 ∨ ¬ x ≤ nI 7) (se : Int64) (wd : Int32) (po : Int64)  : kr_M l dC dI ad cc yX5_create wsX5_create { frames := 2, cells := 0, slots := 0, locals := 48 } [.ref (ad 0), .int (nI j), .int x, .long se, .int wd, .long po] u (tm_I u 14 0 (nI 1)) none := by
  refine kq_ofW (cc := cX5_create) (maxL := 8) (ret := none) (R0 := RX5) (by decide) rfl rfl (Nat.le_of_ble_eq_true rfl) ?_
  intro p e s m below meth c A ls hx hb hr hlk hml hown hts hP hK hD hA hG hS hl
  have hl : lv_has ls 8 [(0, .ref (ad 0)), (1, .int (nI j)), (2, .int x), (3, .long se), (5, .int wd), (6, .long po)] := hl
  refine lv_aload_n hx hb dX5_create_0 rfl (lv_at hl 0 rfl) ?_
  refine lv_aload_n hx hb dX5_create_1 rfl (lv_at hl 0 rfl) ?_
  refine lv_iload_n hx hb dX5_create_2 rfl (lv_at hl 1 rfl) ?_
  refine lv_iconst (v := (nI 3)) hx hb dX5_create_3 (by decide) ?_
  refine kq_cV (st1 := [.int (nI 0), .ref (ad 0)]) ⟨hx, hb, hml, hown, hts⟩ (r_out_in u (by omega) (by omega)) (cwV 2 hts gX5_109_X5_out rfl rfl rfl (by decide +kernel) ⟨Nat.le_of_ble_eq_true rfl, Nat.le_of_ble_eq_true rfl⟩) kq_okT hK hP hD hA hG hS (va_recv hK hP (ci := 5) (q0 := 0) rfl (tm_at (i := 0) (by omega) rfl)) rfl hl.1 rfl rfl (Nat.le_of_ble_eq_true rfl) dX5_create_4 ⟨Nat.le_of_ble_eq_true rfl, Nat.le_of_ble_eq_true rfl⟩ (fun H locs hP hD hS => ?_)
  refine lv_if_ne (tgt := 20) hx hb dX5_create_7 (by decide) (fun c => absurd (by decide) c) (fun _ => ?_)
  refine lv_aload_n hx hb dX5_create_10 rfl (lv_at hl 0 rfl) ?_
  refine lv_iload_n hx hb dX5_create_11 rfl (lv_at hl 2 rfl) ?_
  refine lv_bipush (v := (nI 7)) hx hb dX5_create_12 (by decide) ?_
  refine kq_cV (st1 := [.int (nI 1), .ref (ad 0)]) ⟨hx, hb, hml, hown, hts⟩ (r_out_no u h) (cwV 2 hts gX5_109_X5_out rfl rfl rfl (by decide +kernel) ⟨Nat.le_of_ble_eq_true rfl, Nat.le_of_ble_eq_true rfl⟩) kq_okT hK hP hD hA hG hS (va_recv hK hP (ci := 5) (q0 := 0) rfl (tm_at (i := 0) (by omega) rfl)) rfl hl.1 rfl rfl (Nat.le_of_ble_eq_true rfl) dX5_create_14 ⟨Nat.le_of_ble_eq_true rfl, Nat.le_of_ble_eq_true rfl⟩ (fun H locs hP hD hS => ?_)
  refine lv_if_eq (tgt := 24) hx hb dX5_create_17 (by decide) (fun c => absurd c (by decide)) (fun _ => ?_)
  refine lv_iconst (v := (nI 1)) hx hb dX5_create_20 (by decide) ?_
  refine lv_goto (tgt := 25) hx hb dX5_create_21 (by decide) ?_
  refine kq_cV (st1 := [.int (nI 0)]) ⟨hx, hb, hml, hown, hts⟩ (r_begin_bad u) (cwV 1 hts gX5_113_X5_begin rfl rfl rfl (by decide +kernel) ⟨Nat.le_of_ble_eq_true rfl, Nat.le_of_ble_eq_true rfl⟩) kq_okT hK hP hD hA hG hS (va_recv hK hP (ci := 5) (q0 := 0) rfl (tm_at (i := 0) (by omega) rfl)) rfl hl.1 rfl rfl (Nat.le_of_ble_eq_true rfl) dX5_create_25 ⟨Nat.le_of_ble_eq_true rfl, Nat.le_of_ble_eq_true rfl⟩ (fun H locs hP hD hS => ?_)
  refine lv_if_ne (tgt := 32) hx hb dX5_create_28 (by decide) (fun c => absurd (by decide) c) (fun _ => ?_)
  exact kq_vret hx hb hr hlk hP hD hS dX5_create_31
set_option maxHeartbeats 4000000 in
set_option maxRecDepth 100000 in
theorem p_create_lo (u : tm_S) {j i : Nat} (hj : j < 4) (hi : i < 8) (se : Int64) (wd : Int32) (po : Int64) (hlo : ¬ u.2.1 11 0 = 0)  : kr_M l dC dI ad cc yX5_create wsX5_create { frames := 2, cells := 0, slots := 0, locals := 48 } [.ref (ad 0), .int (nI j), .int (nI i), .long se, .int wd, .long po] u (tm_I u 14 0 (nI 2)) none := by
  refine kq_ofW (cc := cX5_create) (maxL := 8) (ret := none) (R0 := RX5) (by decide) rfl rfl (Nat.le_of_ble_eq_true rfl) ?_
  intro p e s m below meth c A ls hx hb hr hlk hml hown hts hP hK hD hA hG hS hl
  have hl : lv_has ls 8 [(0, .ref (ad 0)), (1, .int (nI j)), (2, .int (nI i)), (3, .long se), (5, .int wd), (6, .long po)] := hl
  refine lv_aload_n hx hb dX5_create_0 rfl (lv_at hl 0 rfl) ?_
  refine lv_aload_n hx hb dX5_create_1 rfl (lv_at hl 0 rfl) ?_
  refine lv_iload_n hx hb dX5_create_2 rfl (lv_at hl 1 rfl) ?_
  refine lv_iconst (v := (nI 3)) hx hb dX5_create_3 (by decide) ?_
  refine kq_cV (st1 := [.int (nI 0), .ref (ad 0)]) ⟨hx, hb, hml, hown, hts⟩ (r_out_in u (by omega) (by omega)) (cwV 2 hts gX5_109_X5_out rfl rfl rfl (by decide +kernel) ⟨Nat.le_of_ble_eq_true rfl, Nat.le_of_ble_eq_true rfl⟩) kq_okT hK hP hD hA hG hS (va_recv hK hP (ci := 5) (q0 := 0) rfl (tm_at (i := 0) (by omega) rfl)) rfl hl.1 rfl rfl (Nat.le_of_ble_eq_true rfl) dX5_create_4 ⟨Nat.le_of_ble_eq_true rfl, Nat.le_of_ble_eq_true rfl⟩ (fun H locs hP hD hS => ?_)
  refine lv_if_ne (tgt := 20) hx hb dX5_create_7 (by decide) (fun c => absurd (by decide) c) (fun _ => ?_)
  refine lv_aload_n hx hb dX5_create_10 rfl (lv_at hl 0 rfl) ?_
  refine lv_iload_n hx hb dX5_create_11 rfl (lv_at hl 2 rfl) ?_
  refine lv_bipush (v := (nI 7)) hx hb dX5_create_12 (by decide) ?_
  refine kq_cV (st1 := [.int (nI 0), .ref (ad 0)]) ⟨hx, hb, hml, hown, hts⟩ (r_out_in u (by omega) (by omega)) (cwV 2 hts gX5_109_X5_out rfl rfl rfl (by decide +kernel) ⟨Nat.le_of_ble_eq_true rfl, Nat.le_of_ble_eq_true rfl⟩) kq_okT hK hP hD hA hG hS (va_recv hK hP (ci := 5) (q0 := 0) rfl (tm_at (i := 0) (by omega) rfl)) rfl hl.1 rfl rfl (Nat.le_of_ble_eq_true rfl) dX5_create_14 ⟨Nat.le_of_ble_eq_true rfl, Nat.le_of_ble_eq_true rfl⟩ (fun H locs hP hD hS => ?_)
  refine lv_if_eq (tgt := 24) hx hb dX5_create_17 (by decide) (fun _ => ?_) (fun c => absurd (by decide) c)
  refine lv_iconst (v := (nI 0)) hx hb dX5_create_24 (by decide) ?_
  refine kq_cV (st1 := [.int (nI 0)]) ⟨hx, hb, hml, hown, hts⟩ (r_begin_lost u hlo) (cwV 1 hts gX5_113_X5_begin rfl rfl rfl (by decide +kernel) ⟨Nat.le_of_ble_eq_true rfl, Nat.le_of_ble_eq_true rfl⟩) kq_okT hK hP hD hA hG hS (va_recv hK hP (ci := 5) (q0 := 0) rfl (tm_at (i := 0) (by omega) rfl)) rfl hl.1 rfl rfl (Nat.le_of_ble_eq_true rfl) dX5_create_25 ⟨Nat.le_of_ble_eq_true rfl, Nat.le_of_ble_eq_true rfl⟩ (fun H locs hP hD hS => ?_)
  refine lv_if_ne (tgt := 32) hx hb dX5_create_28 (by decide) (fun c => absurd (by decide) c) (fun _ => ?_)
  exact kq_vret hx hb hr hlk hP hD hS dX5_create_31
set_option maxHeartbeats 4000000 in
set_option maxRecDepth 100000 in
theorem p_create_free (u : tm_S) {j i : Nat} (hj : j < 4) (hi : i < 8) (se : Int64) (wd : Int32) (po : Int64) (hnl : u.2.1 11 0 = 0) (hh : u.2.1 0 j = 0) : kr_M l dC dI ad cc yX5_create wsX5_create { frames := 2, cells := 0, slots := 0, locals := 48 } [.ref (ad 0), .int (nI j), .int (nI i), .long se, .int wd, .long po] u (tm_I (tm_I u 14 0 (nI 0)) 14 0 (nI 3)) none := by
  refine kq_ofW (cc := cX5_create) (maxL := 8) (ret := none) (R0 := RX5) (by decide) rfl rfl (Nat.le_of_ble_eq_true rfl) ?_
  intro p e s m below meth c A ls hx hb hr hlk hml hown hts hP hK hD hA hG hS hl
  have hl : lv_has ls 8 [(0, .ref (ad 0)), (1, .int (nI j)), (2, .int (nI i)), (3, .long se), (5, .int wd), (6, .long po)] := hl
  refine lv_aload_n hx hb dX5_create_0 rfl (lv_at hl 0 rfl) ?_
  refine lv_aload_n hx hb dX5_create_1 rfl (lv_at hl 0 rfl) ?_
  refine lv_iload_n hx hb dX5_create_2 rfl (lv_at hl 1 rfl) ?_
  refine lv_iconst (v := (nI 3)) hx hb dX5_create_3 (by decide) ?_
  refine kq_cV (st1 := [.int (nI 0), .ref (ad 0)]) ⟨hx, hb, hml, hown, hts⟩ (r_out_in u (by omega) (by omega)) (cwV 2 hts gX5_109_X5_out rfl rfl rfl (by decide +kernel) ⟨Nat.le_of_ble_eq_true rfl, Nat.le_of_ble_eq_true rfl⟩) kq_okT hK hP hD hA hG hS (va_recv hK hP (ci := 5) (q0 := 0) rfl (tm_at (i := 0) (by omega) rfl)) rfl hl.1 rfl rfl (Nat.le_of_ble_eq_true rfl) dX5_create_4 ⟨Nat.le_of_ble_eq_true rfl, Nat.le_of_ble_eq_true rfl⟩ (fun H locs hP hD hS => ?_)
  refine lv_if_ne (tgt := 20) hx hb dX5_create_7 (by decide) (fun c => absurd (by decide) c) (fun _ => ?_)
  refine lv_aload_n hx hb dX5_create_10 rfl (lv_at hl 0 rfl) ?_
  refine lv_iload_n hx hb dX5_create_11 rfl (lv_at hl 2 rfl) ?_
  refine lv_bipush (v := (nI 7)) hx hb dX5_create_12 (by decide) ?_
  refine kq_cV (st1 := [.int (nI 0), .ref (ad 0)]) ⟨hx, hb, hml, hown, hts⟩ (r_out_in u (by omega) (by omega)) (cwV 2 hts gX5_109_X5_out rfl rfl rfl (by decide +kernel) ⟨Nat.le_of_ble_eq_true rfl, Nat.le_of_ble_eq_true rfl⟩) kq_okT hK hP hD hA hG hS (va_recv hK hP (ci := 5) (q0 := 0) rfl (tm_at (i := 0) (by omega) rfl)) rfl hl.1 rfl rfl (Nat.le_of_ble_eq_true rfl) dX5_create_14 ⟨Nat.le_of_ble_eq_true rfl, Nat.le_of_ble_eq_true rfl⟩ (fun H locs hP hD hS => ?_)
  refine lv_if_eq (tgt := 24) hx hb dX5_create_17 (by decide) (fun _ => ?_) (fun c => absurd (by decide) c)
  refine lv_iconst (v := (nI 0)) hx hb dX5_create_24 (by decide) ?_
  refine kq_cV (st1 := [.int (nI 1)]) ⟨hx, hb, hml, hown, hts⟩ (r_begin_ok u hnl) (cwV 1 hts gX5_113_X5_begin rfl rfl rfl (by decide +kernel) ⟨Nat.le_of_ble_eq_true rfl, Nat.le_of_ble_eq_true rfl⟩) kq_okT hK hP hD hA hG hS (va_recv hK hP (ci := 5) (q0 := 0) rfl (tm_at (i := 0) (by omega) rfl)) rfl hl.1 rfl rfl (Nat.le_of_ble_eq_true rfl) dX5_create_25 ⟨Nat.le_of_ble_eq_true rfl, Nat.le_of_ble_eq_true rfl⟩ (fun H locs hP hD hS => ?_)
  refine lv_if_ne (tgt := 32) hx hb dX5_create_28 (by decide) (fun _ => ?_) (fun c => absurd c (by decide))
  refine lv_aload_n hx hb dX5_create_32 rfl (lv_at hl 0 rfl) ?_
  refine lv_aload_n hx hb dX5_create_33 rfl (lv_at hl 0 rfl) ?_
  refine tr_g_used hx hb hts inB_X5 hown hK hP (hts _ mb_641) dX5_create_34 ?_
  refine lv_iload_n hx hb dX5_create_37 rfl (lv_at hl 1 rfl) ?_
  refine tr_l_used hx hb hK hP (by omega) dX5_create_38 ?_
  refine kq_ti (y := (u.2.1 0 j)) (by simp [tm_L, tm_I, tm_D]) ?_
  refine lv_if_ne (tgt := 46) hx hb dX5_create_39 (by decide) (fun c => absurd hh c) (fun _ => ?_)
  refine lv_iconst (v := (nI 3)) hx hb dX5_create_42 (by decide) ?_
  refine lv_goto (tgt := 60) hx hb dX5_create_43 (by decide) ?_
  refine tr_p_thrown hx hb hts inB_X5 hown hK hP hD hS (hts _ mb_652) dX5_create_60 (fun H locs hP hD hS => ?_)
  refine lv_aload_n hx hb dX5_create_63 rfl (lv_at hl 0 rfl) ?_
  refine tr_g_thrown hx hb hts inB_X5 hown hK hP (hts _ mb_652) dX5_create_64 ?_
  refine kq_ti (y := (nI 3)) (by simp [tm_L, tm_I, tm_D]) ?_
  refine lv_if_eq (tgt := 71) hx hb dX5_create_67 (by decide) (fun c => absurd c (by decide)) (fun _ => ?_)
  exact kq_vret hx hb hr hlk hP hD hS dX5_create_70
set_option maxHeartbeats 4000000 in
set_option maxRecDepth 100000 in
theorem p_create_nop (u : tm_S) {j i : Nat} (hj : j < 4) (hi : i < 8) (se : Int64) (wd : Int32) (po : Int64) (hnl : u.2.1 11 0 = 0) (hh : ¬ u.2.1 0 j = 0) (hp : u.2.1 2 j = 0) : kr_M l dC dI ad cc yX5_create wsX5_create { frames := 2, cells := 0, slots := 0, locals := 48 } [.ref (ad 0), .int (nI j), .int (nI i), .long se, .int wd, .long po] u (tm_I (tm_I u 14 0 (nI 0)) 14 0 (nI 4)) none := by
  refine kq_ofW (cc := cX5_create) (maxL := 8) (ret := none) (R0 := RX5) (by decide) rfl rfl (Nat.le_of_ble_eq_true rfl) ?_
  intro p e s m below meth c A ls hx hb hr hlk hml hown hts hP hK hD hA hG hS hl
  have hl : lv_has ls 8 [(0, .ref (ad 0)), (1, .int (nI j)), (2, .int (nI i)), (3, .long se), (5, .int wd), (6, .long po)] := hl
  refine lv_aload_n hx hb dX5_create_0 rfl (lv_at hl 0 rfl) ?_
  refine lv_aload_n hx hb dX5_create_1 rfl (lv_at hl 0 rfl) ?_
  refine lv_iload_n hx hb dX5_create_2 rfl (lv_at hl 1 rfl) ?_
  refine lv_iconst (v := (nI 3)) hx hb dX5_create_3 (by decide) ?_
  refine kq_cV (st1 := [.int (nI 0), .ref (ad 0)]) ⟨hx, hb, hml, hown, hts⟩ (r_out_in u (by omega) (by omega)) (cwV 2 hts gX5_109_X5_out rfl rfl rfl (by decide +kernel) ⟨Nat.le_of_ble_eq_true rfl, Nat.le_of_ble_eq_true rfl⟩) kq_okT hK hP hD hA hG hS (va_recv hK hP (ci := 5) (q0 := 0) rfl (tm_at (i := 0) (by omega) rfl)) rfl hl.1 rfl rfl (Nat.le_of_ble_eq_true rfl) dX5_create_4 ⟨Nat.le_of_ble_eq_true rfl, Nat.le_of_ble_eq_true rfl⟩ (fun H locs hP hD hS => ?_)
  refine lv_if_ne (tgt := 20) hx hb dX5_create_7 (by decide) (fun c => absurd (by decide) c) (fun _ => ?_)
  refine lv_aload_n hx hb dX5_create_10 rfl (lv_at hl 0 rfl) ?_
  refine lv_iload_n hx hb dX5_create_11 rfl (lv_at hl 2 rfl) ?_
  refine lv_bipush (v := (nI 7)) hx hb dX5_create_12 (by decide) ?_
  refine kq_cV (st1 := [.int (nI 0), .ref (ad 0)]) ⟨hx, hb, hml, hown, hts⟩ (r_out_in u (by omega) (by omega)) (cwV 2 hts gX5_109_X5_out rfl rfl rfl (by decide +kernel) ⟨Nat.le_of_ble_eq_true rfl, Nat.le_of_ble_eq_true rfl⟩) kq_okT hK hP hD hA hG hS (va_recv hK hP (ci := 5) (q0 := 0) rfl (tm_at (i := 0) (by omega) rfl)) rfl hl.1 rfl rfl (Nat.le_of_ble_eq_true rfl) dX5_create_14 ⟨Nat.le_of_ble_eq_true rfl, Nat.le_of_ble_eq_true rfl⟩ (fun H locs hP hD hS => ?_)
  refine lv_if_eq (tgt := 24) hx hb dX5_create_17 (by decide) (fun _ => ?_) (fun c => absurd (by decide) c)
  refine lv_iconst (v := (nI 0)) hx hb dX5_create_24 (by decide) ?_
  refine kq_cV (st1 := [.int (nI 1)]) ⟨hx, hb, hml, hown, hts⟩ (r_begin_ok u hnl) (cwV 1 hts gX5_113_X5_begin rfl rfl rfl (by decide +kernel) ⟨Nat.le_of_ble_eq_true rfl, Nat.le_of_ble_eq_true rfl⟩) kq_okT hK hP hD hA hG hS (va_recv hK hP (ci := 5) (q0 := 0) rfl (tm_at (i := 0) (by omega) rfl)) rfl hl.1 rfl rfl (Nat.le_of_ble_eq_true rfl) dX5_create_25 ⟨Nat.le_of_ble_eq_true rfl, Nat.le_of_ble_eq_true rfl⟩ (fun H locs hP hD hS => ?_)
  refine lv_if_ne (tgt := 32) hx hb dX5_create_28 (by decide) (fun _ => ?_) (fun c => absurd c (by decide))
  refine lv_aload_n hx hb dX5_create_32 rfl (lv_at hl 0 rfl) ?_
  refine lv_aload_n hx hb dX5_create_33 rfl (lv_at hl 0 rfl) ?_
  refine tr_g_used hx hb hts inB_X5 hown hK hP (hts _ mb_641) dX5_create_34 ?_
  refine lv_iload_n hx hb dX5_create_37 rfl (lv_at hl 1 rfl) ?_
  refine tr_l_used hx hb hK hP (by omega) dX5_create_38 ?_
  refine kq_ti (y := (u.2.1 0 j)) (by simp [tm_L, tm_I, tm_D]) ?_
  refine lv_if_ne (tgt := 46) hx hb dX5_create_39 (by decide) (fun _ => ?_) (fun c => absurd c hh)
  refine lv_aload_n hx hb dX5_create_46 rfl (lv_at hl 0 rfl) ?_
  refine tr_g_isParent hx hb hts inB_X5 hown hK hP (hts _ mb_642) dX5_create_47 ?_
  refine lv_iload_n hx hb dX5_create_50 rfl (lv_at hl 1 rfl) ?_
  refine tr_l_isParent hx hb hK hP (by omega) dX5_create_51 ?_
  refine kq_ti (y := (u.2.1 2 j)) (by simp [tm_L, tm_I, tm_D]) ?_
  refine lv_if_ne (tgt := 59) hx hb dX5_create_52 (by decide) (fun c => absurd hp c) (fun _ => ?_)
  refine lv_iconst (v := (nI 4)) hx hb dX5_create_55 (by decide) ?_
  refine lv_goto (tgt := 60) hx hb dX5_create_56 (by decide) ?_
  refine tr_p_thrown hx hb hts inB_X5 hown hK hP hD hS (hts _ mb_652) dX5_create_60 (fun H locs hP hD hS => ?_)
  refine lv_aload_n hx hb dX5_create_63 rfl (lv_at hl 0 rfl) ?_
  refine tr_g_thrown hx hb hts inB_X5 hown hK hP (hts _ mb_652) dX5_create_64 ?_
  refine kq_ti (y := (nI 4)) (by simp [tm_L, tm_I, tm_D]) ?_
  refine lv_if_eq (tgt := 71) hx hb dX5_create_67 (by decide) (fun c => absurd c (by decide)) (fun _ => ?_)
  exact kq_vret hx hb hr hlk hP hD hS dX5_create_70
set_option maxHeartbeats 4000000 in
set_option maxRecDepth 100000 in
theorem p_create_ok (u : tm_S) {j i : Nat} (hj : j < 4) (hi : i < 8) (se : Int64) (wd : Int32) (po : Int64) (hnl : u.2.1 11 0 = 0) (hh : ¬ u.2.1 0 j = 0) (hp : ¬ u.2.1 2 j = 0)  : kr_M l dC dI ad cc yX5_create wsX5_create { frames := 2, cells := 0, slots := 0, locals := 48 } [.ref (ad 0), .int (nI j), .int (nI i), .long se, .int wd, .long po] u (tm_L (tm_L (tm_L (tm_L (tm_I (tm_I (tm_I u 14 0 (nI 0)) 14 0 (nI 0)) 3 i (nI 1)) 5 (4 * i + 0) (se ^^^ (tm_h (u.1 2 j) 1))) 5 (4 * i + 1) ((wd.toInt64) ^^^ (tm_h (u.1 2 j) 2))) 5 (4 * i + 2) po) 5 (4 * i + 3) (tm_h (tm_h ((tm_L (tm_L (tm_L (tm_I (tm_I (tm_I u 14 0 (nI 0)) 14 0 (nI 0)) 3 i (nI 1)) 5 (4 * i + 0) (se ^^^ (tm_h (u.1 2 j) 1))) 5 (4 * i + 1) ((wd.toInt64) ^^^ (tm_h (u.1 2 j) 2))) 5 (4 * i + 2) po).1 2 j) 3) (tm_h (tm_h ((tm_L (tm_L (tm_L (tm_I (tm_I (tm_I u 14 0 (nI 0)) 14 0 (nI 0)) 3 i (nI 1)) 5 (4 * i + 0) (se ^^^ (tm_h (u.1 2 j) 1))) 5 (4 * i + 1) ((wd.toInt64) ^^^ (tm_h (u.1 2 j) 2))) 5 (4 * i + 2) po).1 5 (4 * i + 0)) ((tm_L (tm_L (tm_L (tm_I (tm_I (tm_I u 14 0 (nI 0)) 14 0 (nI 0)) 3 i (nI 1)) 5 (4 * i + 0) (se ^^^ (tm_h (u.1 2 j) 1))) 5 (4 * i + 1) ((wd.toInt64) ^^^ (tm_h (u.1 2 j) 2))) 5 (4 * i + 2) po).1 5 (4 * i + 1))) ((tm_L (tm_L (tm_L (tm_I (tm_I (tm_I u 14 0 (nI 0)) 14 0 (nI 0)) 3 i (nI 1)) 5 (4 * i + 0) (se ^^^ (tm_h (u.1 2 j) 1))) 5 (4 * i + 1) ((wd.toInt64) ^^^ (tm_h (u.1 2 j) 2))) 5 (4 * i + 2) po).1 5 (4 * i + 2))))) none := by
  refine kq_ofW (cc := cX5_create) (maxL := 8) (ret := none) (R0 := RX5) (by decide) rfl rfl (Nat.le_of_ble_eq_true rfl) ?_
  intro p e s m below meth c A ls hx hb hr hlk hml hown hts hP hK hD hA hG hS hl
  have hl : lv_has ls 8 [(0, .ref (ad 0)), (1, .int (nI j)), (2, .int (nI i)), (3, .long se), (5, .int wd), (6, .long po)] := hl
  refine lv_aload_n hx hb dX5_create_0 rfl (lv_at hl 0 rfl) ?_
  refine lv_aload_n hx hb dX5_create_1 rfl (lv_at hl 0 rfl) ?_
  refine lv_iload_n hx hb dX5_create_2 rfl (lv_at hl 1 rfl) ?_
  refine lv_iconst (v := (nI 3)) hx hb dX5_create_3 (by decide) ?_
  refine kq_cV (st1 := [.int (nI 0), .ref (ad 0)]) ⟨hx, hb, hml, hown, hts⟩ (r_out_in u (by omega) (by omega)) (cwV 2 hts gX5_109_X5_out rfl rfl rfl (by decide +kernel) ⟨Nat.le_of_ble_eq_true rfl, Nat.le_of_ble_eq_true rfl⟩) kq_okT hK hP hD hA hG hS (va_recv hK hP (ci := 5) (q0 := 0) rfl (tm_at (i := 0) (by omega) rfl)) rfl hl.1 rfl rfl (Nat.le_of_ble_eq_true rfl) dX5_create_4 ⟨Nat.le_of_ble_eq_true rfl, Nat.le_of_ble_eq_true rfl⟩ (fun H locs hP hD hS => ?_)
  refine lv_if_ne (tgt := 20) hx hb dX5_create_7 (by decide) (fun c => absurd (by decide) c) (fun _ => ?_)
  refine lv_aload_n hx hb dX5_create_10 rfl (lv_at hl 0 rfl) ?_
  refine lv_iload_n hx hb dX5_create_11 rfl (lv_at hl 2 rfl) ?_
  refine lv_bipush (v := (nI 7)) hx hb dX5_create_12 (by decide) ?_
  refine kq_cV (st1 := [.int (nI 0), .ref (ad 0)]) ⟨hx, hb, hml, hown, hts⟩ (r_out_in u (by omega) (by omega)) (cwV 2 hts gX5_109_X5_out rfl rfl rfl (by decide +kernel) ⟨Nat.le_of_ble_eq_true rfl, Nat.le_of_ble_eq_true rfl⟩) kq_okT hK hP hD hA hG hS (va_recv hK hP (ci := 5) (q0 := 0) rfl (tm_at (i := 0) (by omega) rfl)) rfl hl.1 rfl rfl (Nat.le_of_ble_eq_true rfl) dX5_create_14 ⟨Nat.le_of_ble_eq_true rfl, Nat.le_of_ble_eq_true rfl⟩ (fun H locs hP hD hS => ?_)
  refine lv_if_eq (tgt := 24) hx hb dX5_create_17 (by decide) (fun _ => ?_) (fun c => absurd (by decide) c)
  refine lv_iconst (v := (nI 0)) hx hb dX5_create_24 (by decide) ?_
  refine kq_cV (st1 := [.int (nI 1)]) ⟨hx, hb, hml, hown, hts⟩ (r_begin_ok u hnl) (cwV 1 hts gX5_113_X5_begin rfl rfl rfl (by decide +kernel) ⟨Nat.le_of_ble_eq_true rfl, Nat.le_of_ble_eq_true rfl⟩) kq_okT hK hP hD hA hG hS (va_recv hK hP (ci := 5) (q0 := 0) rfl (tm_at (i := 0) (by omega) rfl)) rfl hl.1 rfl rfl (Nat.le_of_ble_eq_true rfl) dX5_create_25 ⟨Nat.le_of_ble_eq_true rfl, Nat.le_of_ble_eq_true rfl⟩ (fun H locs hP hD hS => ?_)
  refine lv_if_ne (tgt := 32) hx hb dX5_create_28 (by decide) (fun _ => ?_) (fun c => absurd c (by decide))
  refine lv_aload_n hx hb dX5_create_32 rfl (lv_at hl 0 rfl) ?_
  refine lv_aload_n hx hb dX5_create_33 rfl (lv_at hl 0 rfl) ?_
  refine tr_g_used hx hb hts inB_X5 hown hK hP (hts _ mb_641) dX5_create_34 ?_
  refine lv_iload_n hx hb dX5_create_37 rfl (lv_at hl 1 rfl) ?_
  refine tr_l_used hx hb hK hP (by omega) dX5_create_38 ?_
  refine kq_ti (y := (u.2.1 0 j)) (by simp [tm_L, tm_I, tm_D]) ?_
  refine lv_if_ne (tgt := 46) hx hb dX5_create_39 (by decide) (fun _ => ?_) (fun c => absurd c hh)
  refine lv_aload_n hx hb dX5_create_46 rfl (lv_at hl 0 rfl) ?_
  refine tr_g_isParent hx hb hts inB_X5 hown hK hP (hts _ mb_642) dX5_create_47 ?_
  refine lv_iload_n hx hb dX5_create_50 rfl (lv_at hl 1 rfl) ?_
  refine tr_l_isParent hx hb hK hP (by omega) dX5_create_51 ?_
  refine kq_ti (y := (u.2.1 2 j)) (by simp [tm_L, tm_I, tm_D]) ?_
  refine lv_if_ne (tgt := 59) hx hb dX5_create_52 (by decide) (fun _ => ?_) (fun c => absurd c hp)
  refine lv_iconst (v := (nI 0)) hx hb dX5_create_59 (by decide) ?_
  refine tr_p_thrown hx hb hts inB_X5 hown hK hP hD hS (hts _ mb_652) dX5_create_60 (fun H locs hP hD hS => ?_)
  refine lv_aload_n hx hb dX5_create_63 rfl (lv_at hl 0 rfl) ?_
  refine tr_g_thrown hx hb hts inB_X5 hown hK hP (hts _ mb_652) dX5_create_64 ?_
  refine kq_ti (y := (nI 0)) (by simp [tm_L, tm_I, tm_D]) ?_
  refine lv_if_eq (tgt := 71) hx hb dX5_create_67 (by decide) (fun _ => ?_) (fun c => absurd (by decide) c)
  refine lv_aload_n hx hb dX5_create_71 rfl (lv_at hl 0 rfl) ?_
  refine tr_g_there hx hb hts inB_X5 hown hK hP (hts _ mb_643) dX5_create_72 ?_
  refine lv_iload_n hx hb dX5_create_75 rfl (lv_at hl 2 rfl) ?_
  refine lv_iconst (v := (nI 1)) hx hb dX5_create_76 (by decide) ?_
  refine tr_t_there hx hb hK hP hD hS (by omega) (by first | rfl | decide) dX5_create_77 (fun H locs hP hD hS => ?_)
  refine lv_aload_n hx hb dX5_create_78 rfl (lv_at hl 0 rfl) ?_
  refine tr_g_blob hx hb hts inB_X5 hown hK hP (hts _ mb_633) dX5_create_79 ?_
  refine lv_iload_n hx hb dX5_create_82 rfl (lv_at hl 2 rfl) ?_
  refine lv_iconst (v := (nI 4)) hx hb dX5_create_83 (by decide) ?_
  refine lv_imul hx hb dX5_create_84 ?_
  refine kq_ti (y := (nI (4 * i))) (by rw [pk_mul, Nat.mul_comm]) ?_
  refine lv_lload_n hx hb dX5_create_85 rfl (lv_at hl 3 rfl) ?_
  refine lv_aload_n hx hb dX5_create_86 rfl (lv_at hl 0 rfl) ?_
  refine lv_aload_n hx hb dX5_create_87 rfl (lv_at hl 0 rfl) ?_
  refine tr_g_keyValue hx hb hts inB_X5 hown hK hP (hts _ mb_636) dX5_create_88 ?_
  refine lv_iload_n hx hb dX5_create_91 rfl (lv_at hl 1 rfl) ?_
  refine tr_l_keyValue hx hb hK hP (by omega) dX5_create_92 ?_
  refine kq_tl (y := (u.1 2 j)) (by simp [tm_L, tm_I, tm_D]) ?_
  refine lv_lconst (v := 1) hx hb dX5_create_93 (by decide) ?_
  refine kq_cV (st1 := [.long (tm_h (u.1 2 j) 1), .long se, .int (nI (4 * i)), .ref (ad 4)]) ⟨hx, hb, hml, hown, hts⟩ (r_mix (tm_I (tm_I (tm_I u 14 0 (nI 0)) 14 0 (nI 0)) 3 i (nI 1)) (u.1 2 j) 1) (cwV 2 hts gX5_74_X5_mix rfl rfl rfl (by decide +kernel) ⟨Nat.le_of_ble_eq_true rfl, Nat.le_of_ble_eq_true rfl⟩) kq_okT hK hP hD hA hG hS (va_recv hK hP (ci := 5) (q0 := 0) rfl (tm_at (i := 0) (by omega) rfl)) rfl hl.1 rfl rfl (Nat.le_of_ble_eq_true rfl) dX5_create_94 ⟨Nat.le_of_ble_eq_true rfl, Nat.le_of_ble_eq_true rfl⟩ (fun H locs hP hD hS => ?_)
  refine lv_lxor hx hb dX5_create_97 ?_
  refine tr_t_blob hx hb hK hP hD hS (by omega) dX5_create_98 (fun H locs hP hD hS => ?_)
  refine lv_aload_n hx hb dX5_create_99 rfl (lv_at hl 0 rfl) ?_
  refine tr_g_blob hx hb hts inB_X5 hown hK hP (hts _ mb_633) dX5_create_100 ?_
  refine lv_iload_n hx hb dX5_create_103 rfl (lv_at hl 2 rfl) ?_
  refine lv_iconst (v := (nI 4)) hx hb dX5_create_104 (by decide) ?_
  refine lv_imul hx hb dX5_create_105 ?_
  refine kq_ti (y := (nI (4 * i))) (by rw [pk_mul, Nat.mul_comm]) ?_
  refine lv_iconst (v := (nI 1)) hx hb dX5_create_106 (by decide) ?_
  refine lv_iadd hx hb dX5_create_107 ?_
  refine kq_ti (y := (nI (4 * i + 1))) (nI_add (4 * i) 1) ?_
  refine lv_iload hx hb dX5_create_108 (lv_at hl 4 rfl) ?_
  refine lv_i2l (v := wd.toInt64) hx hb dX5_create_110 rfl ?_
  refine lv_aload_n hx hb dX5_create_111 rfl (lv_at hl 0 rfl) ?_
  refine lv_aload_n hx hb dX5_create_112 rfl (lv_at hl 0 rfl) ?_
  refine tr_g_keyValue hx hb hts inB_X5 hown hK hP (hts _ mb_636) dX5_create_113 ?_
  refine lv_iload_n hx hb dX5_create_116 rfl (lv_at hl 1 rfl) ?_
  refine tr_l_keyValue hx hb hK hP (by omega) dX5_create_117 ?_
  refine kq_tl (y := (u.1 2 j)) (by simp [tm_L, tm_I, tm_D]) ?_
  refine lv_ldc2 hx hb hown (hts _ mb_753) dX5_create_118 ?_
  refine kq_cV (st1 := [.long (tm_h (u.1 2 j) 2), .long (wd.toInt64), .int (nI (4 * i + 1)), .ref (ad 4)]) ⟨hx, hb, hml, hown, hts⟩ (r_mix (tm_L (tm_I (tm_I (tm_I u 14 0 (nI 0)) 14 0 (nI 0)) 3 i (nI 1)) 5 (4 * i + 0) (se ^^^ (tm_h (u.1 2 j) 1))) (u.1 2 j) 2) (cwV 2 hts gX5_74_X5_mix rfl rfl rfl (by decide +kernel) ⟨Nat.le_of_ble_eq_true rfl, Nat.le_of_ble_eq_true rfl⟩) kq_okT hK hP hD hA hG hS (va_recv hK hP (ci := 5) (q0 := 0) rfl (tm_at (i := 0) (by omega) rfl)) rfl hl.1 rfl rfl (Nat.le_of_ble_eq_true rfl) dX5_create_121 ⟨Nat.le_of_ble_eq_true rfl, Nat.le_of_ble_eq_true rfl⟩ (fun H locs hP hD hS => ?_)
  refine lv_lxor hx hb dX5_create_124 ?_
  refine tr_t_blob hx hb hK hP hD hS (by omega) dX5_create_125 (fun H locs hP hD hS => ?_)
  refine lv_aload_n hx hb dX5_create_126 rfl (lv_at hl 0 rfl) ?_
  refine tr_g_blob hx hb hts inB_X5 hown hK hP (hts _ mb_633) dX5_create_127 ?_
  refine lv_iload_n hx hb dX5_create_130 rfl (lv_at hl 2 rfl) ?_
  refine lv_iconst (v := (nI 4)) hx hb dX5_create_131 (by decide) ?_
  refine lv_imul hx hb dX5_create_132 ?_
  refine kq_ti (y := (nI (4 * i))) (by rw [pk_mul, Nat.mul_comm]) ?_
  refine lv_iconst (v := (nI 2)) hx hb dX5_create_133 (by decide) ?_
  refine lv_iadd hx hb dX5_create_134 ?_
  refine kq_ti (y := (nI (4 * i + 2))) (nI_add (4 * i) 2) ?_
  refine lv_lload hx hb dX5_create_135 (lv_at hl 5 rfl) ?_
  refine tr_t_blob hx hb hK hP hD hS (by omega) dX5_create_137 (fun H locs hP hD hS => ?_)
  refine lv_aload_n hx hb dX5_create_138 rfl (lv_at hl 0 rfl) ?_
  refine tr_g_blob hx hb hts inB_X5 hown hK hP (hts _ mb_633) dX5_create_139 ?_
  refine lv_iload_n hx hb dX5_create_142 rfl (lv_at hl 2 rfl) ?_
  refine lv_iconst (v := (nI 4)) hx hb dX5_create_143 (by decide) ?_
  refine lv_imul hx hb dX5_create_144 ?_
  refine kq_ti (y := (nI (4 * i))) (by rw [pk_mul, Nat.mul_comm]) ?_
  refine lv_iconst (v := (nI 3)) hx hb dX5_create_145 (by decide) ?_
  refine lv_iadd hx hb dX5_create_146 ?_
  refine kq_ti (y := (nI (4 * i + 3))) (nI_add (4 * i) 3) ?_
  refine lv_aload_n hx hb dX5_create_147 rfl (lv_at hl 0 rfl) ?_
  refine lv_iload_n hx hb dX5_create_148 rfl (lv_at hl 1 rfl) ?_
  refine lv_iload_n hx hb dX5_create_149 rfl (lv_at hl 2 rfl) ?_
  refine kq_cV (st1 := [.long (tm_h (tm_h ((tm_L (tm_L (tm_L (tm_I (tm_I (tm_I u 14 0 (nI 0)) 14 0 (nI 0)) 3 i (nI 1)) 5 (4 * i + 0) (se ^^^ (tm_h (u.1 2 j) 1))) 5 (4 * i + 1) ((wd.toInt64) ^^^ (tm_h (u.1 2 j) 2))) 5 (4 * i + 2) po).1 2 j) 3) (tm_h (tm_h ((tm_L (tm_L (tm_L (tm_I (tm_I (tm_I u 14 0 (nI 0)) 14 0 (nI 0)) 3 i (nI 1)) 5 (4 * i + 0) (se ^^^ (tm_h (u.1 2 j) 1))) 5 (4 * i + 1) ((wd.toInt64) ^^^ (tm_h (u.1 2 j) 2))) 5 (4 * i + 2) po).1 5 (4 * i + 0)) ((tm_L (tm_L (tm_L (tm_I (tm_I (tm_I u 14 0 (nI 0)) 14 0 (nI 0)) 3 i (nI 1)) 5 (4 * i + 0) (se ^^^ (tm_h (u.1 2 j) 1))) 5 (4 * i + 1) ((wd.toInt64) ^^^ (tm_h (u.1 2 j) 2))) 5 (4 * i + 2) po).1 5 (4 * i + 1))) ((tm_L (tm_L (tm_L (tm_I (tm_I (tm_I u 14 0 (nI 0)) 14 0 (nI 0)) 3 i (nI 1)) 5 (4 * i + 0) (se ^^^ (tm_h (u.1 2 j) 1))) 5 (4 * i + 1) ((wd.toInt64) ^^^ (tm_h (u.1 2 j) 2))) 5 (4 * i + 2) po).1 5 (4 * i + 2)))), .int (nI (4 * i + 3)), .ref (ad 4)]) ⟨hx, hb, hml, hown, hts⟩ (r_seal (tm_L (tm_L (tm_L (tm_I (tm_I (tm_I u 14 0 (nI 0)) 14 0 (nI 0)) 3 i (nI 1)) 5 (4 * i + 0) (se ^^^ (tm_h (u.1 2 j) 1))) 5 (4 * i + 1) ((wd.toInt64) ^^^ (tm_h (u.1 2 j) 2))) 5 (4 * i + 2) po) (j := j) (k := i) (by omega) (by omega)) (cwV 2 hts gX5_129_X5_seal rfl rfl rfl (by decide +kernel) ⟨Nat.le_of_ble_eq_true rfl, Nat.le_of_ble_eq_true rfl⟩) kq_okT hK hP hD hA hG hS (va_recv hK hP (ci := 5) (q0 := 0) rfl (tm_at (i := 0) (by omega) rfl)) rfl hl.1 rfl rfl (Nat.le_of_ble_eq_true rfl) dX5_create_150 ⟨Nat.le_of_ble_eq_true rfl, Nat.le_of_ble_eq_true rfl⟩ (fun H locs hP hD hS => ?_)
  refine tr_t_blob hx hb hK hP hD hS (by omega) dX5_create_153 (fun H locs hP hD hS => ?_)
  exact kq_vret hx hb hr hlk hP hD hS dX5_create_154
set_option maxHeartbeats 4000000 in
set_option maxRecDepth 100000 in
theorem p_load_b1 (u : tm_S) (x : Int32) (h : x < 0 ∨ ¬ x ≤ nI 3) (i : Int32) : kr_M l dC dI ad cc yX5_load wsX5_load { frames := 2, cells := 0, slots := 0, locals := 50 } [.ref (ad 0), .int x, .int i] u (tm_I u 14 0 (nI 1)) (some (.int (nI 0))) := by
  refine kq_ofW (cc := cX5_load) (maxL := 6) (ret := (some .int)) (R0 := RX5) (by decide) rfl rfl (Nat.le_of_ble_eq_true rfl) ?_
  intro p e s m below meth c A ls hx hb hr hlk hml hown hts hP hK hD hA hG hS hl
  have hl : lv_has ls 6 [(0, .ref (ad 0)), (1, .int x), (2, .int i)] := hl
  refine lv_aload_n hx hb dX5_load_0 rfl (lv_at hl 0 rfl) ?_
  refine lv_aload_n hx hb dX5_load_1 rfl (lv_at hl 0 rfl) ?_
  refine lv_iload_n hx hb dX5_load_2 rfl (lv_at hl 1 rfl) ?_
  refine lv_iconst (v := (nI 3)) hx hb dX5_load_3 (by decide) ?_
  refine kq_cV (st1 := [.int (nI 1), .ref (ad 0)]) ⟨hx, hb, hml, hown, hts⟩ (r_out_no u h) (cwV 2 hts gX5_109_X5_out rfl rfl rfl (by decide +kernel) ⟨Nat.le_of_ble_eq_true rfl, Nat.le_of_ble_eq_true rfl⟩) kq_okT hK hP hD hA hG hS (va_recv hK hP (ci := 5) (q0 := 0) rfl (tm_at (i := 0) (by omega) rfl)) rfl hl.1 rfl rfl (Nat.le_of_ble_eq_true rfl) dX5_load_4 ⟨Nat.le_of_ble_eq_true rfl, Nat.le_of_ble_eq_true rfl⟩ (fun H locs hP hD hS => ?_)
  refine lv_if_ne (tgt := 20) hx hb dX5_load_7 (by decide) (fun _ => ?_) (fun c => absurd c (by decide))
  refine lv_iconst (v := (nI 1)) hx hb dX5_load_20 (by decide) ?_
  refine lv_goto (tgt := 25) hx hb dX5_load_21 (by decide) ?_
  refine kq_cV (st1 := [.int (nI 0)]) ⟨hx, hb, hml, hown, hts⟩ (r_begin_bad u) (cwV 1 hts gX5_113_X5_begin rfl rfl rfl (by decide +kernel) ⟨Nat.le_of_ble_eq_true rfl, Nat.le_of_ble_eq_true rfl⟩) kq_okT hK hP hD hA hG hS (va_recv hK hP (ci := 5) (q0 := 0) rfl (tm_at (i := 0) (by omega) rfl)) rfl hl.1 rfl rfl (Nat.le_of_ble_eq_true rfl) dX5_load_25 ⟨Nat.le_of_ble_eq_true rfl, Nat.le_of_ble_eq_true rfl⟩ (fun H locs hP hD hS => ?_)
  refine lv_if_ne (tgt := 33) hx hb dX5_load_28 (by decide) (fun c => absurd (by decide) c) (fun _ => ?_)
  refine lv_iconst (v := (nI 0)) hx hb dX5_load_31 (by decide) ?_
  exact kq_iret hx hb hr hlk hP hD hS dX5_load_32
set_option maxHeartbeats 4000000 in
set_option maxRecDepth 100000 in
theorem p_load_b2 (u : tm_S) {j : Nat} (hj : j < 4) (x : Int32) (h : x < 0 ∨ ¬ x ≤ nI 7)  : kr_M l dC dI ad cc yX5_load wsX5_load { frames := 2, cells := 0, slots := 0, locals := 50 } [.ref (ad 0), .int (nI j), .int x] u (tm_I u 14 0 (nI 1)) (some (.int (nI 0))) := by
  refine kq_ofW (cc := cX5_load) (maxL := 6) (ret := (some .int)) (R0 := RX5) (by decide) rfl rfl (Nat.le_of_ble_eq_true rfl) ?_
  intro p e s m below meth c A ls hx hb hr hlk hml hown hts hP hK hD hA hG hS hl
  have hl : lv_has ls 6 [(0, .ref (ad 0)), (1, .int (nI j)), (2, .int x)] := hl
  refine lv_aload_n hx hb dX5_load_0 rfl (lv_at hl 0 rfl) ?_
  refine lv_aload_n hx hb dX5_load_1 rfl (lv_at hl 0 rfl) ?_
  refine lv_iload_n hx hb dX5_load_2 rfl (lv_at hl 1 rfl) ?_
  refine lv_iconst (v := (nI 3)) hx hb dX5_load_3 (by decide) ?_
  refine kq_cV (st1 := [.int (nI 0), .ref (ad 0)]) ⟨hx, hb, hml, hown, hts⟩ (r_out_in u (by omega) (by omega)) (cwV 2 hts gX5_109_X5_out rfl rfl rfl (by decide +kernel) ⟨Nat.le_of_ble_eq_true rfl, Nat.le_of_ble_eq_true rfl⟩) kq_okT hK hP hD hA hG hS (va_recv hK hP (ci := 5) (q0 := 0) rfl (tm_at (i := 0) (by omega) rfl)) rfl hl.1 rfl rfl (Nat.le_of_ble_eq_true rfl) dX5_load_4 ⟨Nat.le_of_ble_eq_true rfl, Nat.le_of_ble_eq_true rfl⟩ (fun H locs hP hD hS => ?_)
  refine lv_if_ne (tgt := 20) hx hb dX5_load_7 (by decide) (fun c => absurd (by decide) c) (fun _ => ?_)
  refine lv_aload_n hx hb dX5_load_10 rfl (lv_at hl 0 rfl) ?_
  refine lv_iload_n hx hb dX5_load_11 rfl (lv_at hl 2 rfl) ?_
  refine lv_bipush (v := (nI 7)) hx hb dX5_load_12 (by decide) ?_
  refine kq_cV (st1 := [.int (nI 1), .ref (ad 0)]) ⟨hx, hb, hml, hown, hts⟩ (r_out_no u h) (cwV 2 hts gX5_109_X5_out rfl rfl rfl (by decide +kernel) ⟨Nat.le_of_ble_eq_true rfl, Nat.le_of_ble_eq_true rfl⟩) kq_okT hK hP hD hA hG hS (va_recv hK hP (ci := 5) (q0 := 0) rfl (tm_at (i := 0) (by omega) rfl)) rfl hl.1 rfl rfl (Nat.le_of_ble_eq_true rfl) dX5_load_14 ⟨Nat.le_of_ble_eq_true rfl, Nat.le_of_ble_eq_true rfl⟩ (fun H locs hP hD hS => ?_)
  refine lv_if_eq (tgt := 24) hx hb dX5_load_17 (by decide) (fun c => absurd c (by decide)) (fun _ => ?_)
  refine lv_iconst (v := (nI 1)) hx hb dX5_load_20 (by decide) ?_
  refine lv_goto (tgt := 25) hx hb dX5_load_21 (by decide) ?_
  refine kq_cV (st1 := [.int (nI 0)]) ⟨hx, hb, hml, hown, hts⟩ (r_begin_bad u) (cwV 1 hts gX5_113_X5_begin rfl rfl rfl (by decide +kernel) ⟨Nat.le_of_ble_eq_true rfl, Nat.le_of_ble_eq_true rfl⟩) kq_okT hK hP hD hA hG hS (va_recv hK hP (ci := 5) (q0 := 0) rfl (tm_at (i := 0) (by omega) rfl)) rfl hl.1 rfl rfl (Nat.le_of_ble_eq_true rfl) dX5_load_25 ⟨Nat.le_of_ble_eq_true rfl, Nat.le_of_ble_eq_true rfl⟩ (fun H locs hP hD hS => ?_)
  refine lv_if_ne (tgt := 33) hx hb dX5_load_28 (by decide) (fun c => absurd (by decide) c) (fun _ => ?_)
  refine lv_iconst (v := (nI 0)) hx hb dX5_load_31 (by decide) ?_
  exact kq_iret hx hb hr hlk hP hD hS dX5_load_32
set_option maxHeartbeats 4000000 in
set_option maxRecDepth 100000 in
theorem p_load_lo (u : tm_S) {j i : Nat} (hj : j < 4) (hi : i < 8) (hlo : ¬ u.2.1 11 0 = 0)  : kr_M l dC dI ad cc yX5_load wsX5_load { frames := 2, cells := 0, slots := 0, locals := 50 } [.ref (ad 0), .int (nI j), .int (nI i)] u (tm_I u 14 0 (nI 2)) (some (.int (nI 0))) := by
  refine kq_ofW (cc := cX5_load) (maxL := 6) (ret := (some .int)) (R0 := RX5) (by decide) rfl rfl (Nat.le_of_ble_eq_true rfl) ?_
  intro p e s m below meth c A ls hx hb hr hlk hml hown hts hP hK hD hA hG hS hl
  have hl : lv_has ls 6 [(0, .ref (ad 0)), (1, .int (nI j)), (2, .int (nI i))] := hl
  refine lv_aload_n hx hb dX5_load_0 rfl (lv_at hl 0 rfl) ?_
  refine lv_aload_n hx hb dX5_load_1 rfl (lv_at hl 0 rfl) ?_
  refine lv_iload_n hx hb dX5_load_2 rfl (lv_at hl 1 rfl) ?_
  refine lv_iconst (v := (nI 3)) hx hb dX5_load_3 (by decide) ?_
  refine kq_cV (st1 := [.int (nI 0), .ref (ad 0)]) ⟨hx, hb, hml, hown, hts⟩ (r_out_in u (by omega) (by omega)) (cwV 2 hts gX5_109_X5_out rfl rfl rfl (by decide +kernel) ⟨Nat.le_of_ble_eq_true rfl, Nat.le_of_ble_eq_true rfl⟩) kq_okT hK hP hD hA hG hS (va_recv hK hP (ci := 5) (q0 := 0) rfl (tm_at (i := 0) (by omega) rfl)) rfl hl.1 rfl rfl (Nat.le_of_ble_eq_true rfl) dX5_load_4 ⟨Nat.le_of_ble_eq_true rfl, Nat.le_of_ble_eq_true rfl⟩ (fun H locs hP hD hS => ?_)
  refine lv_if_ne (tgt := 20) hx hb dX5_load_7 (by decide) (fun c => absurd (by decide) c) (fun _ => ?_)
  refine lv_aload_n hx hb dX5_load_10 rfl (lv_at hl 0 rfl) ?_
  refine lv_iload_n hx hb dX5_load_11 rfl (lv_at hl 2 rfl) ?_
  refine lv_bipush (v := (nI 7)) hx hb dX5_load_12 (by decide) ?_
  refine kq_cV (st1 := [.int (nI 0), .ref (ad 0)]) ⟨hx, hb, hml, hown, hts⟩ (r_out_in u (by omega) (by omega)) (cwV 2 hts gX5_109_X5_out rfl rfl rfl (by decide +kernel) ⟨Nat.le_of_ble_eq_true rfl, Nat.le_of_ble_eq_true rfl⟩) kq_okT hK hP hD hA hG hS (va_recv hK hP (ci := 5) (q0 := 0) rfl (tm_at (i := 0) (by omega) rfl)) rfl hl.1 rfl rfl (Nat.le_of_ble_eq_true rfl) dX5_load_14 ⟨Nat.le_of_ble_eq_true rfl, Nat.le_of_ble_eq_true rfl⟩ (fun H locs hP hD hS => ?_)
  refine lv_if_eq (tgt := 24) hx hb dX5_load_17 (by decide) (fun _ => ?_) (fun c => absurd (by decide) c)
  refine lv_iconst (v := (nI 0)) hx hb dX5_load_24 (by decide) ?_
  refine kq_cV (st1 := [.int (nI 0)]) ⟨hx, hb, hml, hown, hts⟩ (r_begin_lost u hlo) (cwV 1 hts gX5_113_X5_begin rfl rfl rfl (by decide +kernel) ⟨Nat.le_of_ble_eq_true rfl, Nat.le_of_ble_eq_true rfl⟩) kq_okT hK hP hD hA hG hS (va_recv hK hP (ci := 5) (q0 := 0) rfl (tm_at (i := 0) (by omega) rfl)) rfl hl.1 rfl rfl (Nat.le_of_ble_eq_true rfl) dX5_load_25 ⟨Nat.le_of_ble_eq_true rfl, Nat.le_of_ble_eq_true rfl⟩ (fun H locs hP hD hS => ?_)
  refine lv_if_ne (tgt := 33) hx hb dX5_load_28 (by decide) (fun c => absurd (by decide) c) (fun _ => ?_)
  refine lv_iconst (v := (nI 0)) hx hb dX5_load_31 (by decide) ?_
  exact kq_iret hx hb hr hlk hP hD hS dX5_load_32
set_option maxHeartbeats 4000000 in
set_option maxRecDepth 100000 in
theorem p_load_free (u : tm_S) {j i : Nat} (hj : j < 4) (hi : i < 8) (hnl : u.2.1 11 0 = 0) (hh : u.2.1 0 j = 0) : kr_M l dC dI ad cc yX5_load wsX5_load { frames := 2, cells := 0, slots := 0, locals := 50 } [.ref (ad 0), .int (nI j), .int (nI i)] u (tm_I (tm_I u 14 0 (nI 0)) 14 0 (nI 3)) (some (.int (nI 0))) := by
  refine kq_ofW (cc := cX5_load) (maxL := 6) (ret := (some .int)) (R0 := RX5) (by decide) rfl rfl (Nat.le_of_ble_eq_true rfl) ?_
  intro p e s m below meth c A ls hx hb hr hlk hml hown hts hP hK hD hA hG hS hl
  have hl : lv_has ls 6 [(0, .ref (ad 0)), (1, .int (nI j)), (2, .int (nI i))] := hl
  refine lv_aload_n hx hb dX5_load_0 rfl (lv_at hl 0 rfl) ?_
  refine lv_aload_n hx hb dX5_load_1 rfl (lv_at hl 0 rfl) ?_
  refine lv_iload_n hx hb dX5_load_2 rfl (lv_at hl 1 rfl) ?_
  refine lv_iconst (v := (nI 3)) hx hb dX5_load_3 (by decide) ?_
  refine kq_cV (st1 := [.int (nI 0), .ref (ad 0)]) ⟨hx, hb, hml, hown, hts⟩ (r_out_in u (by omega) (by omega)) (cwV 2 hts gX5_109_X5_out rfl rfl rfl (by decide +kernel) ⟨Nat.le_of_ble_eq_true rfl, Nat.le_of_ble_eq_true rfl⟩) kq_okT hK hP hD hA hG hS (va_recv hK hP (ci := 5) (q0 := 0) rfl (tm_at (i := 0) (by omega) rfl)) rfl hl.1 rfl rfl (Nat.le_of_ble_eq_true rfl) dX5_load_4 ⟨Nat.le_of_ble_eq_true rfl, Nat.le_of_ble_eq_true rfl⟩ (fun H locs hP hD hS => ?_)
  refine lv_if_ne (tgt := 20) hx hb dX5_load_7 (by decide) (fun c => absurd (by decide) c) (fun _ => ?_)
  refine lv_aload_n hx hb dX5_load_10 rfl (lv_at hl 0 rfl) ?_
  refine lv_iload_n hx hb dX5_load_11 rfl (lv_at hl 2 rfl) ?_
  refine lv_bipush (v := (nI 7)) hx hb dX5_load_12 (by decide) ?_
  refine kq_cV (st1 := [.int (nI 0), .ref (ad 0)]) ⟨hx, hb, hml, hown, hts⟩ (r_out_in u (by omega) (by omega)) (cwV 2 hts gX5_109_X5_out rfl rfl rfl (by decide +kernel) ⟨Nat.le_of_ble_eq_true rfl, Nat.le_of_ble_eq_true rfl⟩) kq_okT hK hP hD hA hG hS (va_recv hK hP (ci := 5) (q0 := 0) rfl (tm_at (i := 0) (by omega) rfl)) rfl hl.1 rfl rfl (Nat.le_of_ble_eq_true rfl) dX5_load_14 ⟨Nat.le_of_ble_eq_true rfl, Nat.le_of_ble_eq_true rfl⟩ (fun H locs hP hD hS => ?_)
  refine lv_if_eq (tgt := 24) hx hb dX5_load_17 (by decide) (fun _ => ?_) (fun c => absurd (by decide) c)
  refine lv_iconst (v := (nI 0)) hx hb dX5_load_24 (by decide) ?_
  refine kq_cV (st1 := [.int (nI 1)]) ⟨hx, hb, hml, hown, hts⟩ (r_begin_ok u hnl) (cwV 1 hts gX5_113_X5_begin rfl rfl rfl (by decide +kernel) ⟨Nat.le_of_ble_eq_true rfl, Nat.le_of_ble_eq_true rfl⟩) kq_okT hK hP hD hA hG hS (va_recv hK hP (ci := 5) (q0 := 0) rfl (tm_at (i := 0) (by omega) rfl)) rfl hl.1 rfl rfl (Nat.le_of_ble_eq_true rfl) dX5_load_25 ⟨Nat.le_of_ble_eq_true rfl, Nat.le_of_ble_eq_true rfl⟩ (fun H locs hP hD hS => ?_)
  refine lv_if_ne (tgt := 33) hx hb dX5_load_28 (by decide) (fun _ => ?_) (fun c => absurd c (by decide))
  refine lv_aload_n hx hb dX5_load_33 rfl (lv_at hl 0 rfl) ?_
  refine lv_aload_n hx hb dX5_load_34 rfl (lv_at hl 0 rfl) ?_
  refine tr_g_used hx hb hts inB_X5 hown hK hP (hts _ mb_641) dX5_load_35 ?_
  refine lv_iload_n hx hb dX5_load_38 rfl (lv_at hl 1 rfl) ?_
  refine tr_l_used hx hb hK hP (by omega) dX5_load_39 ?_
  refine kq_ti (y := (u.2.1 0 j)) (by simp [tm_L, tm_I, tm_D]) ?_
  refine lv_if_eq (tgt := 52) hx hb dX5_load_40 (by decide) (fun _ => ?_) (fun c => absurd hh c)
  refine lv_iconst (v := (nI 3)) hx hb dX5_load_52 (by decide) ?_
  refine lv_goto (tgt := 94) hx hb dX5_load_53 (by decide) ?_
  refine tr_p_thrown hx hb hts inB_X5 hown hK hP hD hS (hts _ mb_652) dX5_load_94 (fun H locs hP hD hS => ?_)
  refine lv_aload_n hx hb dX5_load_97 rfl (lv_at hl 0 rfl) ?_
  refine tr_g_thrown hx hb hts inB_X5 hown hK hP (hts _ mb_652) dX5_load_98 ?_
  refine kq_ti (y := (nI 3)) (by simp [tm_L, tm_I, tm_D]) ?_
  refine lv_if_eq (tgt := 106) hx hb dX5_load_101 (by decide) (fun c => absurd c (by decide)) (fun _ => ?_)
  refine lv_iconst (v := (nI 0)) hx hb dX5_load_104 (by decide) ?_
  exact kq_iret hx hb hr hlk hP hD hS dX5_load_105
set_option maxHeartbeats 4000000 in
set_option maxRecDepth 100000 in
theorem p_load_none (u : tm_S) {j i : Nat} (hj : j < 4) (hi : i < 8) (hnl : u.2.1 11 0 = 0) (hh : ¬ u.2.1 0 j = 0) (hm : u.2.1 3 i = 0) : kr_M l dC dI ad cc yX5_load wsX5_load { frames := 2, cells := 0, slots := 0, locals := 50 } [.ref (ad 0), .int (nI j), .int (nI i)] u (tm_I (tm_I u 14 0 (nI 0)) 14 0 (nI 3)) (some (.int (nI 0))) := by
  refine kq_ofW (cc := cX5_load) (maxL := 6) (ret := (some .int)) (R0 := RX5) (by decide) rfl rfl (Nat.le_of_ble_eq_true rfl) ?_
  intro p e s m below meth c A ls hx hb hr hlk hml hown hts hP hK hD hA hG hS hl
  have hl : lv_has ls 6 [(0, .ref (ad 0)), (1, .int (nI j)), (2, .int (nI i))] := hl
  refine lv_aload_n hx hb dX5_load_0 rfl (lv_at hl 0 rfl) ?_
  refine lv_aload_n hx hb dX5_load_1 rfl (lv_at hl 0 rfl) ?_
  refine lv_iload_n hx hb dX5_load_2 rfl (lv_at hl 1 rfl) ?_
  refine lv_iconst (v := (nI 3)) hx hb dX5_load_3 (by decide) ?_
  refine kq_cV (st1 := [.int (nI 0), .ref (ad 0)]) ⟨hx, hb, hml, hown, hts⟩ (r_out_in u (by omega) (by omega)) (cwV 2 hts gX5_109_X5_out rfl rfl rfl (by decide +kernel) ⟨Nat.le_of_ble_eq_true rfl, Nat.le_of_ble_eq_true rfl⟩) kq_okT hK hP hD hA hG hS (va_recv hK hP (ci := 5) (q0 := 0) rfl (tm_at (i := 0) (by omega) rfl)) rfl hl.1 rfl rfl (Nat.le_of_ble_eq_true rfl) dX5_load_4 ⟨Nat.le_of_ble_eq_true rfl, Nat.le_of_ble_eq_true rfl⟩ (fun H locs hP hD hS => ?_)
  refine lv_if_ne (tgt := 20) hx hb dX5_load_7 (by decide) (fun c => absurd (by decide) c) (fun _ => ?_)
  refine lv_aload_n hx hb dX5_load_10 rfl (lv_at hl 0 rfl) ?_
  refine lv_iload_n hx hb dX5_load_11 rfl (lv_at hl 2 rfl) ?_
  refine lv_bipush (v := (nI 7)) hx hb dX5_load_12 (by decide) ?_
  refine kq_cV (st1 := [.int (nI 0), .ref (ad 0)]) ⟨hx, hb, hml, hown, hts⟩ (r_out_in u (by omega) (by omega)) (cwV 2 hts gX5_109_X5_out rfl rfl rfl (by decide +kernel) ⟨Nat.le_of_ble_eq_true rfl, Nat.le_of_ble_eq_true rfl⟩) kq_okT hK hP hD hA hG hS (va_recv hK hP (ci := 5) (q0 := 0) rfl (tm_at (i := 0) (by omega) rfl)) rfl hl.1 rfl rfl (Nat.le_of_ble_eq_true rfl) dX5_load_14 ⟨Nat.le_of_ble_eq_true rfl, Nat.le_of_ble_eq_true rfl⟩ (fun H locs hP hD hS => ?_)
  refine lv_if_eq (tgt := 24) hx hb dX5_load_17 (by decide) (fun _ => ?_) (fun c => absurd (by decide) c)
  refine lv_iconst (v := (nI 0)) hx hb dX5_load_24 (by decide) ?_
  refine kq_cV (st1 := [.int (nI 1)]) ⟨hx, hb, hml, hown, hts⟩ (r_begin_ok u hnl) (cwV 1 hts gX5_113_X5_begin rfl rfl rfl (by decide +kernel) ⟨Nat.le_of_ble_eq_true rfl, Nat.le_of_ble_eq_true rfl⟩) kq_okT hK hP hD hA hG hS (va_recv hK hP (ci := 5) (q0 := 0) rfl (tm_at (i := 0) (by omega) rfl)) rfl hl.1 rfl rfl (Nat.le_of_ble_eq_true rfl) dX5_load_25 ⟨Nat.le_of_ble_eq_true rfl, Nat.le_of_ble_eq_true rfl⟩ (fun H locs hP hD hS => ?_)
  refine lv_if_ne (tgt := 33) hx hb dX5_load_28 (by decide) (fun _ => ?_) (fun c => absurd c (by decide))
  refine lv_aload_n hx hb dX5_load_33 rfl (lv_at hl 0 rfl) ?_
  refine lv_aload_n hx hb dX5_load_34 rfl (lv_at hl 0 rfl) ?_
  refine tr_g_used hx hb hts inB_X5 hown hK hP (hts _ mb_641) dX5_load_35 ?_
  refine lv_iload_n hx hb dX5_load_38 rfl (lv_at hl 1 rfl) ?_
  refine tr_l_used hx hb hK hP (by omega) dX5_load_39 ?_
  refine kq_ti (y := (u.2.1 0 j)) (by simp [tm_L, tm_I, tm_D]) ?_
  refine lv_if_eq (tgt := 52) hx hb dX5_load_40 (by decide) (fun c => absurd c hh) (fun _ => ?_)
  refine lv_aload_n hx hb dX5_load_43 rfl (lv_at hl 0 rfl) ?_
  refine tr_g_there hx hb hts inB_X5 hown hK hP (hts _ mb_643) dX5_load_44 ?_
  refine lv_iload_n hx hb dX5_load_47 rfl (lv_at hl 2 rfl) ?_
  refine tr_l_there hx hb hK hP (by omega) dX5_load_48 ?_
  refine kq_ti (y := (u.2.1 3 i)) (by simp [tm_L, tm_I, tm_D]) ?_
  refine lv_if_ne (tgt := 56) hx hb dX5_load_49 (by decide) (fun c => absurd hm c) (fun _ => ?_)
  refine lv_iconst (v := (nI 3)) hx hb dX5_load_52 (by decide) ?_
  refine lv_goto (tgt := 94) hx hb dX5_load_53 (by decide) ?_
  refine tr_p_thrown hx hb hts inB_X5 hown hK hP hD hS (hts _ mb_652) dX5_load_94 (fun H locs hP hD hS => ?_)
  refine lv_aload_n hx hb dX5_load_97 rfl (lv_at hl 0 rfl) ?_
  refine tr_g_thrown hx hb hts inB_X5 hown hK hP (hts _ mb_652) dX5_load_98 ?_
  refine kq_ti (y := (nI 3)) (by simp [tm_L, tm_I, tm_D]) ?_
  refine lv_if_eq (tgt := 106) hx hb dX5_load_101 (by decide) (fun c => absurd c (by decide)) (fun _ => ?_)
  refine lv_iconst (v := (nI 0)) hx hb dX5_load_104 (by decide) ?_
  exact kq_iret hx hb hr hlk hP hD hS dX5_load_105
set_option maxHeartbeats 4000000 in
set_option maxRecDepth 100000 in
theorem p_load_nop (u : tm_S) {j i : Nat} (hj : j < 4) (hi : i < 8) (hnl : u.2.1 11 0 = 0) (hh : ¬ u.2.1 0 j = 0) (hm : ¬ u.2.1 3 i = 0) (hp : u.2.1 2 j = 0) : kr_M l dC dI ad cc yX5_load wsX5_load { frames := 2, cells := 0, slots := 0, locals := 50 } [.ref (ad 0), .int (nI j), .int (nI i)] u (tm_I (tm_I u 14 0 (nI 0)) 14 0 (nI 4)) (some (.int (nI 0))) := by
  refine kq_ofW (cc := cX5_load) (maxL := 6) (ret := (some .int)) (R0 := RX5) (by decide) rfl rfl (Nat.le_of_ble_eq_true rfl) ?_
  intro p e s m below meth c A ls hx hb hr hlk hml hown hts hP hK hD hA hG hS hl
  have hl : lv_has ls 6 [(0, .ref (ad 0)), (1, .int (nI j)), (2, .int (nI i))] := hl
  refine lv_aload_n hx hb dX5_load_0 rfl (lv_at hl 0 rfl) ?_
  refine lv_aload_n hx hb dX5_load_1 rfl (lv_at hl 0 rfl) ?_
  refine lv_iload_n hx hb dX5_load_2 rfl (lv_at hl 1 rfl) ?_
  refine lv_iconst (v := (nI 3)) hx hb dX5_load_3 (by decide) ?_
  refine kq_cV (st1 := [.int (nI 0), .ref (ad 0)]) ⟨hx, hb, hml, hown, hts⟩ (r_out_in u (by omega) (by omega)) (cwV 2 hts gX5_109_X5_out rfl rfl rfl (by decide +kernel) ⟨Nat.le_of_ble_eq_true rfl, Nat.le_of_ble_eq_true rfl⟩) kq_okT hK hP hD hA hG hS (va_recv hK hP (ci := 5) (q0 := 0) rfl (tm_at (i := 0) (by omega) rfl)) rfl hl.1 rfl rfl (Nat.le_of_ble_eq_true rfl) dX5_load_4 ⟨Nat.le_of_ble_eq_true rfl, Nat.le_of_ble_eq_true rfl⟩ (fun H locs hP hD hS => ?_)
  refine lv_if_ne (tgt := 20) hx hb dX5_load_7 (by decide) (fun c => absurd (by decide) c) (fun _ => ?_)
  refine lv_aload_n hx hb dX5_load_10 rfl (lv_at hl 0 rfl) ?_
  refine lv_iload_n hx hb dX5_load_11 rfl (lv_at hl 2 rfl) ?_
  refine lv_bipush (v := (nI 7)) hx hb dX5_load_12 (by decide) ?_
  refine kq_cV (st1 := [.int (nI 0), .ref (ad 0)]) ⟨hx, hb, hml, hown, hts⟩ (r_out_in u (by omega) (by omega)) (cwV 2 hts gX5_109_X5_out rfl rfl rfl (by decide +kernel) ⟨Nat.le_of_ble_eq_true rfl, Nat.le_of_ble_eq_true rfl⟩) kq_okT hK hP hD hA hG hS (va_recv hK hP (ci := 5) (q0 := 0) rfl (tm_at (i := 0) (by omega) rfl)) rfl hl.1 rfl rfl (Nat.le_of_ble_eq_true rfl) dX5_load_14 ⟨Nat.le_of_ble_eq_true rfl, Nat.le_of_ble_eq_true rfl⟩ (fun H locs hP hD hS => ?_)
  refine lv_if_eq (tgt := 24) hx hb dX5_load_17 (by decide) (fun _ => ?_) (fun c => absurd (by decide) c)
  refine lv_iconst (v := (nI 0)) hx hb dX5_load_24 (by decide) ?_
  refine kq_cV (st1 := [.int (nI 1)]) ⟨hx, hb, hml, hown, hts⟩ (r_begin_ok u hnl) (cwV 1 hts gX5_113_X5_begin rfl rfl rfl (by decide +kernel) ⟨Nat.le_of_ble_eq_true rfl, Nat.le_of_ble_eq_true rfl⟩) kq_okT hK hP hD hA hG hS (va_recv hK hP (ci := 5) (q0 := 0) rfl (tm_at (i := 0) (by omega) rfl)) rfl hl.1 rfl rfl (Nat.le_of_ble_eq_true rfl) dX5_load_25 ⟨Nat.le_of_ble_eq_true rfl, Nat.le_of_ble_eq_true rfl⟩ (fun H locs hP hD hS => ?_)
  refine lv_if_ne (tgt := 33) hx hb dX5_load_28 (by decide) (fun _ => ?_) (fun c => absurd c (by decide))
  refine lv_aload_n hx hb dX5_load_33 rfl (lv_at hl 0 rfl) ?_
  refine lv_aload_n hx hb dX5_load_34 rfl (lv_at hl 0 rfl) ?_
  refine tr_g_used hx hb hts inB_X5 hown hK hP (hts _ mb_641) dX5_load_35 ?_
  refine lv_iload_n hx hb dX5_load_38 rfl (lv_at hl 1 rfl) ?_
  refine tr_l_used hx hb hK hP (by omega) dX5_load_39 ?_
  refine kq_ti (y := (u.2.1 0 j)) (by simp [tm_L, tm_I, tm_D]) ?_
  refine lv_if_eq (tgt := 52) hx hb dX5_load_40 (by decide) (fun c => absurd c hh) (fun _ => ?_)
  refine lv_aload_n hx hb dX5_load_43 rfl (lv_at hl 0 rfl) ?_
  refine tr_g_there hx hb hts inB_X5 hown hK hP (hts _ mb_643) dX5_load_44 ?_
  refine lv_iload_n hx hb dX5_load_47 rfl (lv_at hl 2 rfl) ?_
  refine tr_l_there hx hb hK hP (by omega) dX5_load_48 ?_
  refine kq_ti (y := (u.2.1 3 i)) (by simp [tm_L, tm_I, tm_D]) ?_
  refine lv_if_ne (tgt := 56) hx hb dX5_load_49 (by decide) (fun _ => ?_) (fun c => absurd c hm)
  refine lv_aload_n hx hb dX5_load_56 rfl (lv_at hl 0 rfl) ?_
  refine tr_g_isParent hx hb hts inB_X5 hown hK hP (hts _ mb_642) dX5_load_57 ?_
  refine lv_iload_n hx hb dX5_load_60 rfl (lv_at hl 1 rfl) ?_
  refine tr_l_isParent hx hb hK hP (by omega) dX5_load_61 ?_
  refine kq_ti (y := (u.2.1 2 j)) (by simp [tm_L, tm_I, tm_D]) ?_
  refine lv_if_ne (tgt := 69) hx hb dX5_load_62 (by decide) (fun c => absurd hp c) (fun _ => ?_)
  refine lv_iconst (v := (nI 4)) hx hb dX5_load_65 (by decide) ?_
  refine lv_goto (tgt := 94) hx hb dX5_load_66 (by decide) ?_
  refine tr_p_thrown hx hb hts inB_X5 hown hK hP hD hS (hts _ mb_652) dX5_load_94 (fun H locs hP hD hS => ?_)
  refine lv_aload_n hx hb dX5_load_97 rfl (lv_at hl 0 rfl) ?_
  refine tr_g_thrown hx hb hts inB_X5 hown hK hP (hts _ mb_652) dX5_load_98 ?_
  refine kq_ti (y := (nI 4)) (by simp [tm_L, tm_I, tm_D]) ?_
  refine lv_if_eq (tgt := 106) hx hb dX5_load_101 (by decide) (fun c => absurd c (by decide)) (fun _ => ?_)
  refine lv_iconst (v := (nI 0)) hx hb dX5_load_104 (by decide) ?_
  exact kq_iret hx hb hr hlk hP hD hS dX5_load_105
set_option maxHeartbeats 4000000 in
set_option maxRecDepth 100000 in
theorem p_load_tam (u : tm_S) {j i : Nat} (hj : j < 4) (hi : i < 8) (hnl : u.2.1 11 0 = 0) (hh : ¬ u.2.1 0 j = 0) (hm : ¬ u.2.1 3 i = 0) (hp : ¬ u.2.1 2 j = 0) (ht : ¬ u.1 5 (4 * i + 3) = tm_h (tm_h (u.1 2 j) 3) (tm_h (tm_h (u.1 5 (4 * i + 0)) (u.1 5 (4 * i + 1))) (u.1 5 (4 * i + 2))))  : kr_M l dC dI ad cc yX5_load wsX5_load { frames := 2, cells := 0, slots := 0, locals := 50 } [.ref (ad 0), .int (nI j), .int (nI i)] u (tm_I (tm_I u 14 0 (nI 0)) 14 0 (nI 5)) (some (.int (nI 0))) := by
  refine kq_ofW (cc := cX5_load) (maxL := 6) (ret := (some .int)) (R0 := RX5) (by decide) rfl rfl (Nat.le_of_ble_eq_true rfl) ?_
  intro p e s m below meth c A ls hx hb hr hlk hml hown hts hP hK hD hA hG hS hl
  have hl : lv_has ls 6 [(0, .ref (ad 0)), (1, .int (nI j)), (2, .int (nI i))] := hl
  refine lv_aload_n hx hb dX5_load_0 rfl (lv_at hl 0 rfl) ?_
  refine lv_aload_n hx hb dX5_load_1 rfl (lv_at hl 0 rfl) ?_
  refine lv_iload_n hx hb dX5_load_2 rfl (lv_at hl 1 rfl) ?_
  refine lv_iconst (v := (nI 3)) hx hb dX5_load_3 (by decide) ?_
  refine kq_cV (st1 := [.int (nI 0), .ref (ad 0)]) ⟨hx, hb, hml, hown, hts⟩ (r_out_in u (by omega) (by omega)) (cwV 2 hts gX5_109_X5_out rfl rfl rfl (by decide +kernel) ⟨Nat.le_of_ble_eq_true rfl, Nat.le_of_ble_eq_true rfl⟩) kq_okT hK hP hD hA hG hS (va_recv hK hP (ci := 5) (q0 := 0) rfl (tm_at (i := 0) (by omega) rfl)) rfl hl.1 rfl rfl (Nat.le_of_ble_eq_true rfl) dX5_load_4 ⟨Nat.le_of_ble_eq_true rfl, Nat.le_of_ble_eq_true rfl⟩ (fun H locs hP hD hS => ?_)
  refine lv_if_ne (tgt := 20) hx hb dX5_load_7 (by decide) (fun c => absurd (by decide) c) (fun _ => ?_)
  refine lv_aload_n hx hb dX5_load_10 rfl (lv_at hl 0 rfl) ?_
  refine lv_iload_n hx hb dX5_load_11 rfl (lv_at hl 2 rfl) ?_
  refine lv_bipush (v := (nI 7)) hx hb dX5_load_12 (by decide) ?_
  refine kq_cV (st1 := [.int (nI 0), .ref (ad 0)]) ⟨hx, hb, hml, hown, hts⟩ (r_out_in u (by omega) (by omega)) (cwV 2 hts gX5_109_X5_out rfl rfl rfl (by decide +kernel) ⟨Nat.le_of_ble_eq_true rfl, Nat.le_of_ble_eq_true rfl⟩) kq_okT hK hP hD hA hG hS (va_recv hK hP (ci := 5) (q0 := 0) rfl (tm_at (i := 0) (by omega) rfl)) rfl hl.1 rfl rfl (Nat.le_of_ble_eq_true rfl) dX5_load_14 ⟨Nat.le_of_ble_eq_true rfl, Nat.le_of_ble_eq_true rfl⟩ (fun H locs hP hD hS => ?_)
  refine lv_if_eq (tgt := 24) hx hb dX5_load_17 (by decide) (fun _ => ?_) (fun c => absurd (by decide) c)
  refine lv_iconst (v := (nI 0)) hx hb dX5_load_24 (by decide) ?_
  refine kq_cV (st1 := [.int (nI 1)]) ⟨hx, hb, hml, hown, hts⟩ (r_begin_ok u hnl) (cwV 1 hts gX5_113_X5_begin rfl rfl rfl (by decide +kernel) ⟨Nat.le_of_ble_eq_true rfl, Nat.le_of_ble_eq_true rfl⟩) kq_okT hK hP hD hA hG hS (va_recv hK hP (ci := 5) (q0 := 0) rfl (tm_at (i := 0) (by omega) rfl)) rfl hl.1 rfl rfl (Nat.le_of_ble_eq_true rfl) dX5_load_25 ⟨Nat.le_of_ble_eq_true rfl, Nat.le_of_ble_eq_true rfl⟩ (fun H locs hP hD hS => ?_)
  refine lv_if_ne (tgt := 33) hx hb dX5_load_28 (by decide) (fun _ => ?_) (fun c => absurd c (by decide))
  refine lv_aload_n hx hb dX5_load_33 rfl (lv_at hl 0 rfl) ?_
  refine lv_aload_n hx hb dX5_load_34 rfl (lv_at hl 0 rfl) ?_
  refine tr_g_used hx hb hts inB_X5 hown hK hP (hts _ mb_641) dX5_load_35 ?_
  refine lv_iload_n hx hb dX5_load_38 rfl (lv_at hl 1 rfl) ?_
  refine tr_l_used hx hb hK hP (by omega) dX5_load_39 ?_
  refine kq_ti (y := (u.2.1 0 j)) (by simp [tm_L, tm_I, tm_D]) ?_
  refine lv_if_eq (tgt := 52) hx hb dX5_load_40 (by decide) (fun c => absurd c hh) (fun _ => ?_)
  refine lv_aload_n hx hb dX5_load_43 rfl (lv_at hl 0 rfl) ?_
  refine tr_g_there hx hb hts inB_X5 hown hK hP (hts _ mb_643) dX5_load_44 ?_
  refine lv_iload_n hx hb dX5_load_47 rfl (lv_at hl 2 rfl) ?_
  refine tr_l_there hx hb hK hP (by omega) dX5_load_48 ?_
  refine kq_ti (y := (u.2.1 3 i)) (by simp [tm_L, tm_I, tm_D]) ?_
  refine lv_if_ne (tgt := 56) hx hb dX5_load_49 (by decide) (fun _ => ?_) (fun c => absurd c hm)
  refine lv_aload_n hx hb dX5_load_56 rfl (lv_at hl 0 rfl) ?_
  refine tr_g_isParent hx hb hts inB_X5 hown hK hP (hts _ mb_642) dX5_load_57 ?_
  refine lv_iload_n hx hb dX5_load_60 rfl (lv_at hl 1 rfl) ?_
  refine tr_l_isParent hx hb hK hP (by omega) dX5_load_61 ?_
  refine kq_ti (y := (u.2.1 2 j)) (by simp [tm_L, tm_I, tm_D]) ?_
  refine lv_if_ne (tgt := 69) hx hb dX5_load_62 (by decide) (fun _ => ?_) (fun c => absurd c hp)
  refine lv_aload_n hx hb dX5_load_69 rfl (lv_at hl 0 rfl) ?_
  refine tr_g_blob hx hb hts inB_X5 hown hK hP (hts _ mb_633) dX5_load_70 ?_
  refine lv_iload_n hx hb dX5_load_73 rfl (lv_at hl 2 rfl) ?_
  refine lv_iconst (v := (nI 4)) hx hb dX5_load_74 (by decide) ?_
  refine lv_imul hx hb dX5_load_75 ?_
  refine kq_ti (y := (nI (4 * i))) (by rw [pk_mul, Nat.mul_comm]) ?_
  refine lv_iconst (v := (nI 3)) hx hb dX5_load_76 (by decide) ?_
  refine lv_iadd hx hb dX5_load_77 ?_
  refine kq_ti (y := (nI (4 * i + 3))) (nI_add (4 * i) 3) ?_
  refine tr_l_blob hx hb hK hP (by omega) dX5_load_78 ?_
  refine kq_tl (y := (u.1 5 (4 * i + 3))) (by simp [tm_L, tm_I, tm_D]) ?_
  refine lv_aload_n hx hb dX5_load_79 rfl (lv_at hl 0 rfl) ?_
  refine lv_iload_n hx hb dX5_load_80 rfl (lv_at hl 1 rfl) ?_
  refine lv_iload_n hx hb dX5_load_81 rfl (lv_at hl 2 rfl) ?_
  refine kq_cV (st1 := [.long (tm_h (tm_h ((tm_I u 14 0 (nI 0)).1 2 j) 3) (tm_h (tm_h ((tm_I u 14 0 (nI 0)).1 5 (4 * i + 0)) ((tm_I u 14 0 (nI 0)).1 5 (4 * i + 1))) ((tm_I u 14 0 (nI 0)).1 5 (4 * i + 2)))), .long (u.1 5 (4 * i + 3)), .ref (ad 0)]) ⟨hx, hb, hml, hown, hts⟩ (r_seal (tm_I u 14 0 (nI 0)) (j := j) (k := i) (by omega) (by omega)) (cwV 2 hts gX5_129_X5_seal rfl rfl rfl (by decide +kernel) ⟨Nat.le_of_ble_eq_true rfl, Nat.le_of_ble_eq_true rfl⟩) kq_okT hK hP hD hA hG hS (va_recv hK hP (ci := 5) (q0 := 0) rfl (tm_at (i := 0) (by omega) rfl)) rfl hl.1 rfl rfl (Nat.le_of_ble_eq_true rfl) dX5_load_82 ⟨Nat.le_of_ble_eq_true rfl, Nat.le_of_ble_eq_true rfl⟩ (fun H locs hP hD hS => ?_)
  refine W.lcmp hx hb dX5_load_85 ?_
  refine lv_if_eq (tgt := 93) hx hb dX5_load_86 (by decide) (fun c => absurd c (fun q => ht (tm_cmp0.mp q))) (fun _ => ?_)
  refine lv_iconst (v := (nI 5)) hx hb dX5_load_89 (by decide) ?_
  refine lv_goto (tgt := 94) hx hb dX5_load_90 (by decide) ?_
  refine tr_p_thrown hx hb hts inB_X5 hown hK hP hD hS (hts _ mb_652) dX5_load_94 (fun H locs hP hD hS => ?_)
  refine lv_aload_n hx hb dX5_load_97 rfl (lv_at hl 0 rfl) ?_
  refine tr_g_thrown hx hb hts inB_X5 hown hK hP (hts _ mb_652) dX5_load_98 ?_
  refine kq_ti (y := (nI 5)) (by simp [tm_L, tm_I, tm_D]) ?_
  refine lv_if_eq (tgt := 106) hx hb dX5_load_101 (by decide) (fun c => absurd c (by decide)) (fun _ => ?_)
  refine lv_iconst (v := (nI 0)) hx hb dX5_load_104 (by decide) ?_
  exact kq_iret hx hb hr hlk hP hD hS dX5_load_105
set_option maxHeartbeats 4000000 in
set_option maxRecDepth 100000 in
theorem p_load_fulleven (u : tm_S) {j i : Nat} (hj : j < 4) (hi : i < 8) (hnl : u.2.1 11 0 = 0) (hh : ¬ u.2.1 0 j = 0) (hm : ¬ u.2.1 3 i = 0) (hp : ¬ u.2.1 2 j = 0) (ht : u.1 5 (4 * i + 3) = tm_h (tm_h (u.1 2 j) 3) (tm_h (tm_h (u.1 5 (4 * i + 0)) (u.1 5 (4 * i + 1))) (u.1 5 (4 * i + 2)))) (hf : ∀ i, i < 4 → ¬ u.2.1 0 i = 0) (he : ((u.1 5 (4 * i + 0)) ^^^ (tm_h (u.1 2 j) 1)) &&& 1 = 0) : kr_M l dC dI ad cc yX5_load wsX5_load { frames := 2, cells := 0, slots := 0, locals := 50 } [.ref (ad 0), .int (nI j), .int (nI i)] u (tm_I (tm_I (tm_I u 14 0 (nI 0)) 14 0 (nI 0)) 14 0 (nI 2)) (some (.int (nI 0))) := by
  refine kq_ofW (cc := cX5_load) (maxL := 6) (ret := (some .int)) (R0 := RX5) (by decide) rfl rfl (Nat.le_of_ble_eq_true rfl) ?_
  intro p e s m below meth c A ls hx hb hr hlk hml hown hts hP hK hD hA hG hS hl
  have hl : lv_has ls 6 [(0, .ref (ad 0)), (1, .int (nI j)), (2, .int (nI i))] := hl
  refine lv_aload_n hx hb dX5_load_0 rfl (lv_at hl 0 rfl) ?_
  refine lv_aload_n hx hb dX5_load_1 rfl (lv_at hl 0 rfl) ?_
  refine lv_iload_n hx hb dX5_load_2 rfl (lv_at hl 1 rfl) ?_
  refine lv_iconst (v := (nI 3)) hx hb dX5_load_3 (by decide) ?_
  refine kq_cV (st1 := [.int (nI 0), .ref (ad 0)]) ⟨hx, hb, hml, hown, hts⟩ (r_out_in u (by omega) (by omega)) (cwV 2 hts gX5_109_X5_out rfl rfl rfl (by decide +kernel) ⟨Nat.le_of_ble_eq_true rfl, Nat.le_of_ble_eq_true rfl⟩) kq_okT hK hP hD hA hG hS (va_recv hK hP (ci := 5) (q0 := 0) rfl (tm_at (i := 0) (by omega) rfl)) rfl hl.1 rfl rfl (Nat.le_of_ble_eq_true rfl) dX5_load_4 ⟨Nat.le_of_ble_eq_true rfl, Nat.le_of_ble_eq_true rfl⟩ (fun H locs hP hD hS => ?_)
  refine lv_if_ne (tgt := 20) hx hb dX5_load_7 (by decide) (fun c => absurd (by decide) c) (fun _ => ?_)
  refine lv_aload_n hx hb dX5_load_10 rfl (lv_at hl 0 rfl) ?_
  refine lv_iload_n hx hb dX5_load_11 rfl (lv_at hl 2 rfl) ?_
  refine lv_bipush (v := (nI 7)) hx hb dX5_load_12 (by decide) ?_
  refine kq_cV (st1 := [.int (nI 0), .ref (ad 0)]) ⟨hx, hb, hml, hown, hts⟩ (r_out_in u (by omega) (by omega)) (cwV 2 hts gX5_109_X5_out rfl rfl rfl (by decide +kernel) ⟨Nat.le_of_ble_eq_true rfl, Nat.le_of_ble_eq_true rfl⟩) kq_okT hK hP hD hA hG hS (va_recv hK hP (ci := 5) (q0 := 0) rfl (tm_at (i := 0) (by omega) rfl)) rfl hl.1 rfl rfl (Nat.le_of_ble_eq_true rfl) dX5_load_14 ⟨Nat.le_of_ble_eq_true rfl, Nat.le_of_ble_eq_true rfl⟩ (fun H locs hP hD hS => ?_)
  refine lv_if_eq (tgt := 24) hx hb dX5_load_17 (by decide) (fun _ => ?_) (fun c => absurd (by decide) c)
  refine lv_iconst (v := (nI 0)) hx hb dX5_load_24 (by decide) ?_
  refine kq_cV (st1 := [.int (nI 1)]) ⟨hx, hb, hml, hown, hts⟩ (r_begin_ok u hnl) (cwV 1 hts gX5_113_X5_begin rfl rfl rfl (by decide +kernel) ⟨Nat.le_of_ble_eq_true rfl, Nat.le_of_ble_eq_true rfl⟩) kq_okT hK hP hD hA hG hS (va_recv hK hP (ci := 5) (q0 := 0) rfl (tm_at (i := 0) (by omega) rfl)) rfl hl.1 rfl rfl (Nat.le_of_ble_eq_true rfl) dX5_load_25 ⟨Nat.le_of_ble_eq_true rfl, Nat.le_of_ble_eq_true rfl⟩ (fun H locs hP hD hS => ?_)
  refine lv_if_ne (tgt := 33) hx hb dX5_load_28 (by decide) (fun _ => ?_) (fun c => absurd c (by decide))
  refine lv_aload_n hx hb dX5_load_33 rfl (lv_at hl 0 rfl) ?_
  refine lv_aload_n hx hb dX5_load_34 rfl (lv_at hl 0 rfl) ?_
  refine tr_g_used hx hb hts inB_X5 hown hK hP (hts _ mb_641) dX5_load_35 ?_
  refine lv_iload_n hx hb dX5_load_38 rfl (lv_at hl 1 rfl) ?_
  refine tr_l_used hx hb hK hP (by omega) dX5_load_39 ?_
  refine kq_ti (y := (u.2.1 0 j)) (by simp [tm_L, tm_I, tm_D]) ?_
  refine lv_if_eq (tgt := 52) hx hb dX5_load_40 (by decide) (fun c => absurd c hh) (fun _ => ?_)
  refine lv_aload_n hx hb dX5_load_43 rfl (lv_at hl 0 rfl) ?_
  refine tr_g_there hx hb hts inB_X5 hown hK hP (hts _ mb_643) dX5_load_44 ?_
  refine lv_iload_n hx hb dX5_load_47 rfl (lv_at hl 2 rfl) ?_
  refine tr_l_there hx hb hK hP (by omega) dX5_load_48 ?_
  refine kq_ti (y := (u.2.1 3 i)) (by simp [tm_L, tm_I, tm_D]) ?_
  refine lv_if_ne (tgt := 56) hx hb dX5_load_49 (by decide) (fun _ => ?_) (fun c => absurd c hm)
  refine lv_aload_n hx hb dX5_load_56 rfl (lv_at hl 0 rfl) ?_
  refine tr_g_isParent hx hb hts inB_X5 hown hK hP (hts _ mb_642) dX5_load_57 ?_
  refine lv_iload_n hx hb dX5_load_60 rfl (lv_at hl 1 rfl) ?_
  refine tr_l_isParent hx hb hK hP (by omega) dX5_load_61 ?_
  refine kq_ti (y := (u.2.1 2 j)) (by simp [tm_L, tm_I, tm_D]) ?_
  refine lv_if_ne (tgt := 69) hx hb dX5_load_62 (by decide) (fun _ => ?_) (fun c => absurd c hp)
  refine lv_aload_n hx hb dX5_load_69 rfl (lv_at hl 0 rfl) ?_
  refine tr_g_blob hx hb hts inB_X5 hown hK hP (hts _ mb_633) dX5_load_70 ?_
  refine lv_iload_n hx hb dX5_load_73 rfl (lv_at hl 2 rfl) ?_
  refine lv_iconst (v := (nI 4)) hx hb dX5_load_74 (by decide) ?_
  refine lv_imul hx hb dX5_load_75 ?_
  refine kq_ti (y := (nI (4 * i))) (by rw [pk_mul, Nat.mul_comm]) ?_
  refine lv_iconst (v := (nI 3)) hx hb dX5_load_76 (by decide) ?_
  refine lv_iadd hx hb dX5_load_77 ?_
  refine kq_ti (y := (nI (4 * i + 3))) (nI_add (4 * i) 3) ?_
  refine tr_l_blob hx hb hK hP (by omega) dX5_load_78 ?_
  refine kq_tl (y := (u.1 5 (4 * i + 3))) (by simp [tm_L, tm_I, tm_D]) ?_
  refine lv_aload_n hx hb dX5_load_79 rfl (lv_at hl 0 rfl) ?_
  refine lv_iload_n hx hb dX5_load_80 rfl (lv_at hl 1 rfl) ?_
  refine lv_iload_n hx hb dX5_load_81 rfl (lv_at hl 2 rfl) ?_
  refine kq_cV (st1 := [.long (tm_h (tm_h ((tm_I u 14 0 (nI 0)).1 2 j) 3) (tm_h (tm_h ((tm_I u 14 0 (nI 0)).1 5 (4 * i + 0)) ((tm_I u 14 0 (nI 0)).1 5 (4 * i + 1))) ((tm_I u 14 0 (nI 0)).1 5 (4 * i + 2)))), .long (u.1 5 (4 * i + 3)), .ref (ad 0)]) ⟨hx, hb, hml, hown, hts⟩ (r_seal (tm_I u 14 0 (nI 0)) (j := j) (k := i) (by omega) (by omega)) (cwV 2 hts gX5_129_X5_seal rfl rfl rfl (by decide +kernel) ⟨Nat.le_of_ble_eq_true rfl, Nat.le_of_ble_eq_true rfl⟩) kq_okT hK hP hD hA hG hS (va_recv hK hP (ci := 5) (q0 := 0) rfl (tm_at (i := 0) (by omega) rfl)) rfl hl.1 rfl rfl (Nat.le_of_ble_eq_true rfl) dX5_load_82 ⟨Nat.le_of_ble_eq_true rfl, Nat.le_of_ble_eq_true rfl⟩ (fun H locs hP hD hS => ?_)
  refine W.lcmp hx hb dX5_load_85 ?_
  refine lv_if_eq (tgt := 93) hx hb dX5_load_86 (by decide) (fun _ => ?_) (fun c => absurd (tm_cmp0.mpr ht) c)
  refine lv_iconst (v := (nI 0)) hx hb dX5_load_93 (by decide) ?_
  refine tr_p_thrown hx hb hts inB_X5 hown hK hP hD hS (hts _ mb_652) dX5_load_94 (fun H locs hP hD hS => ?_)
  refine lv_aload_n hx hb dX5_load_97 rfl (lv_at hl 0 rfl) ?_
  refine tr_g_thrown hx hb hts inB_X5 hown hK hP (hts _ mb_652) dX5_load_98 ?_
  refine kq_ti (y := (nI 0)) (by simp [tm_L, tm_I, tm_D]) ?_
  refine lv_if_eq (tgt := 106) hx hb dX5_load_101 (by decide) (fun _ => ?_) (fun c => absurd (by decide) c)
  refine lv_aload_n hx hb dX5_load_106 rfl (lv_at hl 0 rfl) ?_
  refine tr_g_blob hx hb hts inB_X5 hown hK hP (hts _ mb_633) dX5_load_107 ?_
  refine lv_iload_n hx hb dX5_load_110 rfl (lv_at hl 2 rfl) ?_
  refine lv_iconst (v := (nI 4)) hx hb dX5_load_111 (by decide) ?_
  refine lv_imul hx hb dX5_load_112 ?_
  refine kq_ti (y := (nI (4 * i))) (by rw [pk_mul, Nat.mul_comm]) ?_
  refine tr_l_blob hx hb hK hP (by omega) dX5_load_113 ?_
  refine kq_tl (y := (u.1 5 (4 * i + 0))) (by simp [tm_L, tm_I, tm_D]) ?_
  refine lv_aload_n hx hb dX5_load_114 rfl (lv_at hl 0 rfl) ?_
  refine lv_aload_n hx hb dX5_load_115 rfl (lv_at hl 0 rfl) ?_
  refine tr_g_keyValue hx hb hts inB_X5 hown hK hP (hts _ mb_636) dX5_load_116 ?_
  refine lv_iload_n hx hb dX5_load_119 rfl (lv_at hl 1 rfl) ?_
  refine tr_l_keyValue hx hb hK hP (by omega) dX5_load_120 ?_
  refine kq_tl (y := (u.1 2 j)) (by simp [tm_L, tm_I, tm_D]) ?_
  refine lv_lconst (v := 1) hx hb dX5_load_121 (by decide) ?_
  refine kq_cV (st1 := [.long (tm_h (u.1 2 j) 1), .long (u.1 5 (4 * i + 0))]) ⟨hx, hb, hml, hown, hts⟩ (r_mix (tm_I (tm_I u 14 0 (nI 0)) 14 0 (nI 0)) (u.1 2 j) 1) (cwV 2 hts gX5_74_X5_mix rfl rfl rfl (by decide +kernel) ⟨Nat.le_of_ble_eq_true rfl, Nat.le_of_ble_eq_true rfl⟩) kq_okT hK hP hD hA hG hS (va_recv hK hP (ci := 5) (q0 := 0) rfl (tm_at (i := 0) (by omega) rfl)) rfl hl.1 rfl rfl (Nat.le_of_ble_eq_true rfl) dX5_load_122 ⟨Nat.le_of_ble_eq_true rfl, Nat.le_of_ble_eq_true rfl⟩ (fun H locs hP hD hS => ?_)
  refine lv_lxor hx hb dX5_load_125 ?_
  refine lv_lstore_n (lv' := [(3, .long ((u.1 5 (4 * i + 0)) ^^^ (tm_h (u.1 2 j) 1))), (0, .ref (ad 0)), (1, .int (nI j)), (2, .int (nI i))]) hx hb dX5_load_126 rfl hl (by decide) rfl (fun ls hl => ?_)
  refine lv_aload_n hx hb dX5_load_127 rfl (lv_at hl 1 rfl) ?_
  refine tr_g_blob hx hb hts inB_X5 hown hK hP (hts _ mb_633) dX5_load_128 ?_
  refine lv_iload_n hx hb dX5_load_131 rfl (lv_at hl 3 rfl) ?_
  refine lv_iconst (v := (nI 4)) hx hb dX5_load_132 (by decide) ?_
  refine lv_imul hx hb dX5_load_133 ?_
  refine kq_ti (y := (nI (4 * i))) (by rw [pk_mul, Nat.mul_comm]) ?_
  refine lv_iconst (v := (nI 1)) hx hb dX5_load_134 (by decide) ?_
  refine lv_iadd hx hb dX5_load_135 ?_
  refine kq_ti (y := (nI (4 * i + 1))) (nI_add (4 * i) 1) ?_
  refine tr_l_blob hx hb hK hP (by omega) dX5_load_136 ?_
  refine kq_tl (y := (u.1 5 (4 * i + 1))) (by simp [tm_L, tm_I, tm_D]) ?_
  refine lv_aload_n hx hb dX5_load_137 rfl (lv_at hl 1 rfl) ?_
  refine lv_aload_n hx hb dX5_load_138 rfl (lv_at hl 1 rfl) ?_
  refine tr_g_keyValue hx hb hts inB_X5 hown hK hP (hts _ mb_636) dX5_load_139 ?_
  refine lv_iload_n hx hb dX5_load_142 rfl (lv_at hl 2 rfl) ?_
  refine tr_l_keyValue hx hb hK hP (by omega) dX5_load_143 ?_
  refine kq_tl (y := (u.1 2 j)) (by simp [tm_L, tm_I, tm_D]) ?_
  refine lv_ldc2 hx hb hown (hts _ mb_753) dX5_load_144 ?_
  refine kq_cV (st1 := [.long (tm_h (u.1 2 j) 2), .long (u.1 5 (4 * i + 1))]) ⟨hx, hb, hml, hown, hts⟩ (r_mix (tm_I (tm_I u 14 0 (nI 0)) 14 0 (nI 0)) (u.1 2 j) 2) (cwV 2 hts gX5_74_X5_mix rfl rfl rfl (by decide +kernel) ⟨Nat.le_of_ble_eq_true rfl, Nat.le_of_ble_eq_true rfl⟩) kq_okT hK hP hD hA hG hS (va_recv hK hP (ci := 5) (q0 := 0) rfl (tm_at (i := 0) (by omega) rfl)) rfl hl.1 rfl rfl (Nat.le_of_ble_eq_true rfl) dX5_load_147 ⟨Nat.le_of_ble_eq_true rfl, Nat.le_of_ble_eq_true rfl⟩ (fun H locs hP hD hS => ?_)
  refine lv_lxor hx hb dX5_load_150 ?_
  refine lv_l2i (v := ((u.1 5 (4 * i + 1)) ^^^ (tm_h (u.1 2 j) 2)).toInt32) hx hb dX5_load_151 rfl ?_
  refine lv_istore (lv' := [(5, .int (((u.1 5 (4 * i + 1)) ^^^ (tm_h (u.1 2 j) 2)).toInt32)), (3, .long ((u.1 5 (4 * i + 0)) ^^^ (tm_h (u.1 2 j) 1))), (0, .ref (ad 0)), (1, .int (nI j)), (2, .int (nI i))]) hx hb dX5_load_152 hl (by decide) rfl (fun ls hl => ?_)
  refine lv_aload_n hx hb dX5_load_154 rfl (lv_at hl 2 rfl) ?_
  refine lv_aload_n hx hb dX5_load_155 rfl (lv_at hl 2 rfl) ?_
  refine lv_aload_n hx hb dX5_load_156 rfl (lv_at hl 2 rfl) ?_
  refine tr_g_keyValue hx hb hts inB_X5 hown hK hP (hts _ mb_636) dX5_load_157 ?_
  refine lv_iload_n hx hb dX5_load_160 rfl (lv_at hl 3 rfl) ?_
  refine tr_l_keyValue hx hb hK hP (by omega) dX5_load_161 ?_
  refine kq_tl (y := (u.1 2 j)) (by simp [tm_L, tm_I, tm_D]) ?_
  refine lv_aload_n hx hb dX5_load_162 rfl (lv_at hl 2 rfl) ?_
  refine tr_g_blob hx hb hts inB_X5 hown hK hP (hts _ mb_633) dX5_load_163 ?_
  refine lv_iload_n hx hb dX5_load_166 rfl (lv_at hl 4 rfl) ?_
  refine lv_iconst (v := (nI 4)) hx hb dX5_load_167 (by decide) ?_
  refine lv_imul hx hb dX5_load_168 ?_
  refine kq_ti (y := (nI (4 * i))) (by rw [pk_mul, Nat.mul_comm]) ?_
  refine lv_iconst (v := (nI 3)) hx hb dX5_load_169 (by decide) ?_
  refine lv_iadd hx hb dX5_load_170 ?_
  refine kq_ti (y := (nI (4 * i + 3))) (nI_add (4 * i) 3) ?_
  refine tr_l_blob hx hb hK hP (by omega) dX5_load_171 ?_
  refine kq_tl (y := (u.1 5 (4 * i + 3))) (by simp [tm_L, tm_I, tm_D]) ?_
  refine kq_cV (st1 := [.long (tm_h (u.1 2 j) (u.1 5 (4 * i + 3))), .ref (ad 0)]) ⟨hx, hb, hml, hown, hts⟩ (r_mix (tm_I (tm_I u 14 0 (nI 0)) 14 0 (nI 0)) (u.1 2 j) (u.1 5 (4 * i + 3))) (cwV 2 hts gX5_74_X5_mix rfl rfl rfl (by decide +kernel) ⟨Nat.le_of_ble_eq_true rfl, Nat.le_of_ble_eq_true rfl⟩) kq_okT hK hP hD hA hG hS (va_recv hK hP (ci := 5) (q0 := 0) rfl (tm_at (i := 0) (by omega) rfl)) rfl hl.1 rfl rfl (Nat.le_of_ble_eq_true rfl) dX5_load_172 ⟨Nat.le_of_ble_eq_true rfl, Nat.le_of_ble_eq_true rfl⟩ (fun H locs hP hD hS => ?_)
  refine lv_iload hx hb dX5_load_175 (lv_at hl 0 rfl) ?_
  refine lv_aload_n hx hb dX5_load_177 rfl (lv_at hl 2 rfl) ?_
  refine tr_g_blob hx hb hts inB_X5 hown hK hP (hts _ mb_633) dX5_load_178 ?_
  refine lv_iload_n hx hb dX5_load_181 rfl (lv_at hl 4 rfl) ?_
  refine lv_iconst (v := (nI 4)) hx hb dX5_load_182 (by decide) ?_
  refine lv_imul hx hb dX5_load_183 ?_
  refine kq_ti (y := (nI (4 * i))) (by rw [pk_mul, Nat.mul_comm]) ?_
  refine lv_iconst (v := (nI 2)) hx hb dX5_load_184 (by decide) ?_
  refine lv_iadd hx hb dX5_load_185 ?_
  refine kq_ti (y := (nI (4 * i + 2))) (nI_add (4 * i) 2) ?_
  refine tr_l_blob hx hb hK hP (by omega) dX5_load_186 ?_
  refine kq_tl (y := (u.1 5 (4 * i + 2))) (by simp [tm_L, tm_I, tm_D]) ?_
  refine lv_lload_n hx hb dX5_load_187 rfl (lv_at hl 1 rfl) ?_
  refine lv_lload_n hx hb dX5_load_188 rfl (lv_at hl 1 rfl) ?_
  refine lv_lconst (v := 1) hx hb dX5_load_189 (by decide) ?_
  refine lv_land hx hb dX5_load_190 ?_
  refine lv_lconst (v := 0) hx hb dX5_load_191 (by decide) ?_
  refine W.lcmp hx hb dX5_load_192 ?_
  refine lv_if_ne (tgt := 200) hx hb dX5_load_193 (by decide) (fun c => absurd (tm_cmp0.mpr he) c) (fun _ => ?_)
  refine lv_iconst (v := (nI 1)) hx hb dX5_load_196 (by decide) ?_
  refine lv_goto (tgt := 201) hx hb dX5_load_197 (by decide) ?_
  refine kq_cV (st1 := [.int (nI 0)]) ⟨hx, hb, hml, hown, hts⟩ (r_key_no (tm_I (tm_I u 14 0 (nI 0)) 14 0 (nI 0)) (tm_h (u.1 2 j) (u.1 5 (4 * i + 3))) (((u.1 5 (4 * i + 1)) ^^^ (tm_h (u.1 2 j) 2)).toInt32) (u.1 5 (4 * i + 2)) ((u.1 5 (4 * i + 0)) ^^^ (tm_h (u.1 2 j) 1)) (nI 1) (by simpa [tm_I] using hf)) (cwV 5 hts gX5_121_X5_key rfl rfl rfl (by decide +kernel) ⟨Nat.le_of_ble_eq_true rfl, Nat.le_of_ble_eq_true rfl⟩) kq_okT hK hP hD hA hG hS (va_recv hK hP (ci := 5) (q0 := 0) rfl (tm_at (i := 0) (by omega) rfl)) rfl hl.1 rfl rfl (Nat.le_of_ble_eq_true rfl) dX5_load_201 ⟨Nat.le_of_ble_eq_true rfl, Nat.le_of_ble_eq_true rfl⟩ (fun H locs hP hD hS => ?_)
  exact kq_iret hx hb hr hlk hP hD hS dX5_load_204
set_option maxHeartbeats 4000000 in
set_option maxRecDepth 100000 in
theorem p_load_even (u : tm_S) {j i : Nat} (hj : j < 4) (hi : i < 8) (hnl : u.2.1 11 0 = 0) (hh : ¬ u.2.1 0 j = 0) (hm : ¬ u.2.1 3 i = 0) (hp : ¬ u.2.1 2 j = 0) (ht : u.1 5 (4 * i + 3) = tm_h (tm_h (u.1 2 j) 3) (tm_h (tm_h (u.1 5 (4 * i + 0)) (u.1 5 (4 * i + 1))) (u.1 5 (4 * i + 2)))) {k : Nat} (hk : k < 4) (hf : u.2.1 0 k = 0) (ha : ∀ i, i < k → ¬ u.2.1 0 i = 0) (he : ((u.1 5 (4 * i + 0)) ^^^ (tm_h (u.1 2 j) 1)) &&& 1 = 0) : kr_M l dC dI ad cc yX5_load wsX5_load { frames := 2, cells := 0, slots := 0, locals := 50 } [.ref (ad 0), .int (nI j), .int (nI i)] u (tm_I (tm_L (tm_L (tm_I (tm_L (tm_I (tm_I (tm_I u 14 0 (nI 0)) 14 0 (nI 0)) 0 k (nI 1)) 2 k (tm_h (u.1 2 j) (u.1 5 (4 * i + 3)))) 1 k (((u.1 5 (4 * i + 1)) ^^^ (tm_h (u.1 2 j) 2)).toInt32)) 3 k (u.1 5 (4 * i + 2))) 4 k ((u.1 5 (4 * i + 0)) ^^^ (tm_h (u.1 2 j) 1))) 2 k (nI 1)) (some (.int (nI k))) := by
  refine kq_ofW (cc := cX5_load) (maxL := 6) (ret := (some .int)) (R0 := RX5) (by decide) rfl rfl (Nat.le_of_ble_eq_true rfl) ?_
  intro p e s m below meth c A ls hx hb hr hlk hml hown hts hP hK hD hA hG hS hl
  have hl : lv_has ls 6 [(0, .ref (ad 0)), (1, .int (nI j)), (2, .int (nI i))] := hl
  refine lv_aload_n hx hb dX5_load_0 rfl (lv_at hl 0 rfl) ?_
  refine lv_aload_n hx hb dX5_load_1 rfl (lv_at hl 0 rfl) ?_
  refine lv_iload_n hx hb dX5_load_2 rfl (lv_at hl 1 rfl) ?_
  refine lv_iconst (v := (nI 3)) hx hb dX5_load_3 (by decide) ?_
  refine kq_cV (st1 := [.int (nI 0), .ref (ad 0)]) ⟨hx, hb, hml, hown, hts⟩ (r_out_in u (by omega) (by omega)) (cwV 2 hts gX5_109_X5_out rfl rfl rfl (by decide +kernel) ⟨Nat.le_of_ble_eq_true rfl, Nat.le_of_ble_eq_true rfl⟩) kq_okT hK hP hD hA hG hS (va_recv hK hP (ci := 5) (q0 := 0) rfl (tm_at (i := 0) (by omega) rfl)) rfl hl.1 rfl rfl (Nat.le_of_ble_eq_true rfl) dX5_load_4 ⟨Nat.le_of_ble_eq_true rfl, Nat.le_of_ble_eq_true rfl⟩ (fun H locs hP hD hS => ?_)
  refine lv_if_ne (tgt := 20) hx hb dX5_load_7 (by decide) (fun c => absurd (by decide) c) (fun _ => ?_)
  refine lv_aload_n hx hb dX5_load_10 rfl (lv_at hl 0 rfl) ?_
  refine lv_iload_n hx hb dX5_load_11 rfl (lv_at hl 2 rfl) ?_
  refine lv_bipush (v := (nI 7)) hx hb dX5_load_12 (by decide) ?_
  refine kq_cV (st1 := [.int (nI 0), .ref (ad 0)]) ⟨hx, hb, hml, hown, hts⟩ (r_out_in u (by omega) (by omega)) (cwV 2 hts gX5_109_X5_out rfl rfl rfl (by decide +kernel) ⟨Nat.le_of_ble_eq_true rfl, Nat.le_of_ble_eq_true rfl⟩) kq_okT hK hP hD hA hG hS (va_recv hK hP (ci := 5) (q0 := 0) rfl (tm_at (i := 0) (by omega) rfl)) rfl hl.1 rfl rfl (Nat.le_of_ble_eq_true rfl) dX5_load_14 ⟨Nat.le_of_ble_eq_true rfl, Nat.le_of_ble_eq_true rfl⟩ (fun H locs hP hD hS => ?_)
  refine lv_if_eq (tgt := 24) hx hb dX5_load_17 (by decide) (fun _ => ?_) (fun c => absurd (by decide) c)
  refine lv_iconst (v := (nI 0)) hx hb dX5_load_24 (by decide) ?_
  refine kq_cV (st1 := [.int (nI 1)]) ⟨hx, hb, hml, hown, hts⟩ (r_begin_ok u hnl) (cwV 1 hts gX5_113_X5_begin rfl rfl rfl (by decide +kernel) ⟨Nat.le_of_ble_eq_true rfl, Nat.le_of_ble_eq_true rfl⟩) kq_okT hK hP hD hA hG hS (va_recv hK hP (ci := 5) (q0 := 0) rfl (tm_at (i := 0) (by omega) rfl)) rfl hl.1 rfl rfl (Nat.le_of_ble_eq_true rfl) dX5_load_25 ⟨Nat.le_of_ble_eq_true rfl, Nat.le_of_ble_eq_true rfl⟩ (fun H locs hP hD hS => ?_)
  refine lv_if_ne (tgt := 33) hx hb dX5_load_28 (by decide) (fun _ => ?_) (fun c => absurd c (by decide))
  refine lv_aload_n hx hb dX5_load_33 rfl (lv_at hl 0 rfl) ?_
  refine lv_aload_n hx hb dX5_load_34 rfl (lv_at hl 0 rfl) ?_
  refine tr_g_used hx hb hts inB_X5 hown hK hP (hts _ mb_641) dX5_load_35 ?_
  refine lv_iload_n hx hb dX5_load_38 rfl (lv_at hl 1 rfl) ?_
  refine tr_l_used hx hb hK hP (by omega) dX5_load_39 ?_
  refine kq_ti (y := (u.2.1 0 j)) (by simp [tm_L, tm_I, tm_D]) ?_
  refine lv_if_eq (tgt := 52) hx hb dX5_load_40 (by decide) (fun c => absurd c hh) (fun _ => ?_)
  refine lv_aload_n hx hb dX5_load_43 rfl (lv_at hl 0 rfl) ?_
  refine tr_g_there hx hb hts inB_X5 hown hK hP (hts _ mb_643) dX5_load_44 ?_
  refine lv_iload_n hx hb dX5_load_47 rfl (lv_at hl 2 rfl) ?_
  refine tr_l_there hx hb hK hP (by omega) dX5_load_48 ?_
  refine kq_ti (y := (u.2.1 3 i)) (by simp [tm_L, tm_I, tm_D]) ?_
  refine lv_if_ne (tgt := 56) hx hb dX5_load_49 (by decide) (fun _ => ?_) (fun c => absurd c hm)
  refine lv_aload_n hx hb dX5_load_56 rfl (lv_at hl 0 rfl) ?_
  refine tr_g_isParent hx hb hts inB_X5 hown hK hP (hts _ mb_642) dX5_load_57 ?_
  refine lv_iload_n hx hb dX5_load_60 rfl (lv_at hl 1 rfl) ?_
  refine tr_l_isParent hx hb hK hP (by omega) dX5_load_61 ?_
  refine kq_ti (y := (u.2.1 2 j)) (by simp [tm_L, tm_I, tm_D]) ?_
  refine lv_if_ne (tgt := 69) hx hb dX5_load_62 (by decide) (fun _ => ?_) (fun c => absurd c hp)
  refine lv_aload_n hx hb dX5_load_69 rfl (lv_at hl 0 rfl) ?_
  refine tr_g_blob hx hb hts inB_X5 hown hK hP (hts _ mb_633) dX5_load_70 ?_
  refine lv_iload_n hx hb dX5_load_73 rfl (lv_at hl 2 rfl) ?_
  refine lv_iconst (v := (nI 4)) hx hb dX5_load_74 (by decide) ?_
  refine lv_imul hx hb dX5_load_75 ?_
  refine kq_ti (y := (nI (4 * i))) (by rw [pk_mul, Nat.mul_comm]) ?_
  refine lv_iconst (v := (nI 3)) hx hb dX5_load_76 (by decide) ?_
  refine lv_iadd hx hb dX5_load_77 ?_
  refine kq_ti (y := (nI (4 * i + 3))) (nI_add (4 * i) 3) ?_
  refine tr_l_blob hx hb hK hP (by omega) dX5_load_78 ?_
  refine kq_tl (y := (u.1 5 (4 * i + 3))) (by simp [tm_L, tm_I, tm_D]) ?_
  refine lv_aload_n hx hb dX5_load_79 rfl (lv_at hl 0 rfl) ?_
  refine lv_iload_n hx hb dX5_load_80 rfl (lv_at hl 1 rfl) ?_
  refine lv_iload_n hx hb dX5_load_81 rfl (lv_at hl 2 rfl) ?_
  refine kq_cV (st1 := [.long (tm_h (tm_h ((tm_I u 14 0 (nI 0)).1 2 j) 3) (tm_h (tm_h ((tm_I u 14 0 (nI 0)).1 5 (4 * i + 0)) ((tm_I u 14 0 (nI 0)).1 5 (4 * i + 1))) ((tm_I u 14 0 (nI 0)).1 5 (4 * i + 2)))), .long (u.1 5 (4 * i + 3)), .ref (ad 0)]) ⟨hx, hb, hml, hown, hts⟩ (r_seal (tm_I u 14 0 (nI 0)) (j := j) (k := i) (by omega) (by omega)) (cwV 2 hts gX5_129_X5_seal rfl rfl rfl (by decide +kernel) ⟨Nat.le_of_ble_eq_true rfl, Nat.le_of_ble_eq_true rfl⟩) kq_okT hK hP hD hA hG hS (va_recv hK hP (ci := 5) (q0 := 0) rfl (tm_at (i := 0) (by omega) rfl)) rfl hl.1 rfl rfl (Nat.le_of_ble_eq_true rfl) dX5_load_82 ⟨Nat.le_of_ble_eq_true rfl, Nat.le_of_ble_eq_true rfl⟩ (fun H locs hP hD hS => ?_)
  refine W.lcmp hx hb dX5_load_85 ?_
  refine lv_if_eq (tgt := 93) hx hb dX5_load_86 (by decide) (fun _ => ?_) (fun c => absurd (tm_cmp0.mpr ht) c)
  refine lv_iconst (v := (nI 0)) hx hb dX5_load_93 (by decide) ?_
  refine tr_p_thrown hx hb hts inB_X5 hown hK hP hD hS (hts _ mb_652) dX5_load_94 (fun H locs hP hD hS => ?_)
  refine lv_aload_n hx hb dX5_load_97 rfl (lv_at hl 0 rfl) ?_
  refine tr_g_thrown hx hb hts inB_X5 hown hK hP (hts _ mb_652) dX5_load_98 ?_
  refine kq_ti (y := (nI 0)) (by simp [tm_L, tm_I, tm_D]) ?_
  refine lv_if_eq (tgt := 106) hx hb dX5_load_101 (by decide) (fun _ => ?_) (fun c => absurd (by decide) c)
  refine lv_aload_n hx hb dX5_load_106 rfl (lv_at hl 0 rfl) ?_
  refine tr_g_blob hx hb hts inB_X5 hown hK hP (hts _ mb_633) dX5_load_107 ?_
  refine lv_iload_n hx hb dX5_load_110 rfl (lv_at hl 2 rfl) ?_
  refine lv_iconst (v := (nI 4)) hx hb dX5_load_111 (by decide) ?_
  refine lv_imul hx hb dX5_load_112 ?_
  refine kq_ti (y := (nI (4 * i))) (by rw [pk_mul, Nat.mul_comm]) ?_
  refine tr_l_blob hx hb hK hP (by omega) dX5_load_113 ?_
  refine kq_tl (y := (u.1 5 (4 * i + 0))) (by simp [tm_L, tm_I, tm_D]) ?_
  refine lv_aload_n hx hb dX5_load_114 rfl (lv_at hl 0 rfl) ?_
  refine lv_aload_n hx hb dX5_load_115 rfl (lv_at hl 0 rfl) ?_
  refine tr_g_keyValue hx hb hts inB_X5 hown hK hP (hts _ mb_636) dX5_load_116 ?_
  refine lv_iload_n hx hb dX5_load_119 rfl (lv_at hl 1 rfl) ?_
  refine tr_l_keyValue hx hb hK hP (by omega) dX5_load_120 ?_
  refine kq_tl (y := (u.1 2 j)) (by simp [tm_L, tm_I, tm_D]) ?_
  refine lv_lconst (v := 1) hx hb dX5_load_121 (by decide) ?_
  refine kq_cV (st1 := [.long (tm_h (u.1 2 j) 1), .long (u.1 5 (4 * i + 0))]) ⟨hx, hb, hml, hown, hts⟩ (r_mix (tm_I (tm_I u 14 0 (nI 0)) 14 0 (nI 0)) (u.1 2 j) 1) (cwV 2 hts gX5_74_X5_mix rfl rfl rfl (by decide +kernel) ⟨Nat.le_of_ble_eq_true rfl, Nat.le_of_ble_eq_true rfl⟩) kq_okT hK hP hD hA hG hS (va_recv hK hP (ci := 5) (q0 := 0) rfl (tm_at (i := 0) (by omega) rfl)) rfl hl.1 rfl rfl (Nat.le_of_ble_eq_true rfl) dX5_load_122 ⟨Nat.le_of_ble_eq_true rfl, Nat.le_of_ble_eq_true rfl⟩ (fun H locs hP hD hS => ?_)
  refine lv_lxor hx hb dX5_load_125 ?_
  refine lv_lstore_n (lv' := [(3, .long ((u.1 5 (4 * i + 0)) ^^^ (tm_h (u.1 2 j) 1))), (0, .ref (ad 0)), (1, .int (nI j)), (2, .int (nI i))]) hx hb dX5_load_126 rfl hl (by decide) rfl (fun ls hl => ?_)
  refine lv_aload_n hx hb dX5_load_127 rfl (lv_at hl 1 rfl) ?_
  refine tr_g_blob hx hb hts inB_X5 hown hK hP (hts _ mb_633) dX5_load_128 ?_
  refine lv_iload_n hx hb dX5_load_131 rfl (lv_at hl 3 rfl) ?_
  refine lv_iconst (v := (nI 4)) hx hb dX5_load_132 (by decide) ?_
  refine lv_imul hx hb dX5_load_133 ?_
  refine kq_ti (y := (nI (4 * i))) (by rw [pk_mul, Nat.mul_comm]) ?_
  refine lv_iconst (v := (nI 1)) hx hb dX5_load_134 (by decide) ?_
  refine lv_iadd hx hb dX5_load_135 ?_
  refine kq_ti (y := (nI (4 * i + 1))) (nI_add (4 * i) 1) ?_
  refine tr_l_blob hx hb hK hP (by omega) dX5_load_136 ?_
  refine kq_tl (y := (u.1 5 (4 * i + 1))) (by simp [tm_L, tm_I, tm_D]) ?_
  refine lv_aload_n hx hb dX5_load_137 rfl (lv_at hl 1 rfl) ?_
  refine lv_aload_n hx hb dX5_load_138 rfl (lv_at hl 1 rfl) ?_
  refine tr_g_keyValue hx hb hts inB_X5 hown hK hP (hts _ mb_636) dX5_load_139 ?_
  refine lv_iload_n hx hb dX5_load_142 rfl (lv_at hl 2 rfl) ?_
  refine tr_l_keyValue hx hb hK hP (by omega) dX5_load_143 ?_
  refine kq_tl (y := (u.1 2 j)) (by simp [tm_L, tm_I, tm_D]) ?_
  refine lv_ldc2 hx hb hown (hts _ mb_753) dX5_load_144 ?_
  refine kq_cV (st1 := [.long (tm_h (u.1 2 j) 2), .long (u.1 5 (4 * i + 1))]) ⟨hx, hb, hml, hown, hts⟩ (r_mix (tm_I (tm_I u 14 0 (nI 0)) 14 0 (nI 0)) (u.1 2 j) 2) (cwV 2 hts gX5_74_X5_mix rfl rfl rfl (by decide +kernel) ⟨Nat.le_of_ble_eq_true rfl, Nat.le_of_ble_eq_true rfl⟩) kq_okT hK hP hD hA hG hS (va_recv hK hP (ci := 5) (q0 := 0) rfl (tm_at (i := 0) (by omega) rfl)) rfl hl.1 rfl rfl (Nat.le_of_ble_eq_true rfl) dX5_load_147 ⟨Nat.le_of_ble_eq_true rfl, Nat.le_of_ble_eq_true rfl⟩ (fun H locs hP hD hS => ?_)
  refine lv_lxor hx hb dX5_load_150 ?_
  refine lv_l2i (v := ((u.1 5 (4 * i + 1)) ^^^ (tm_h (u.1 2 j) 2)).toInt32) hx hb dX5_load_151 rfl ?_
  refine lv_istore (lv' := [(5, .int (((u.1 5 (4 * i + 1)) ^^^ (tm_h (u.1 2 j) 2)).toInt32)), (3, .long ((u.1 5 (4 * i + 0)) ^^^ (tm_h (u.1 2 j) 1))), (0, .ref (ad 0)), (1, .int (nI j)), (2, .int (nI i))]) hx hb dX5_load_152 hl (by decide) rfl (fun ls hl => ?_)
  refine lv_aload_n hx hb dX5_load_154 rfl (lv_at hl 2 rfl) ?_
  refine lv_aload_n hx hb dX5_load_155 rfl (lv_at hl 2 rfl) ?_
  refine lv_aload_n hx hb dX5_load_156 rfl (lv_at hl 2 rfl) ?_
  refine tr_g_keyValue hx hb hts inB_X5 hown hK hP (hts _ mb_636) dX5_load_157 ?_
  refine lv_iload_n hx hb dX5_load_160 rfl (lv_at hl 3 rfl) ?_
  refine tr_l_keyValue hx hb hK hP (by omega) dX5_load_161 ?_
  refine kq_tl (y := (u.1 2 j)) (by simp [tm_L, tm_I, tm_D]) ?_
  refine lv_aload_n hx hb dX5_load_162 rfl (lv_at hl 2 rfl) ?_
  refine tr_g_blob hx hb hts inB_X5 hown hK hP (hts _ mb_633) dX5_load_163 ?_
  refine lv_iload_n hx hb dX5_load_166 rfl (lv_at hl 4 rfl) ?_
  refine lv_iconst (v := (nI 4)) hx hb dX5_load_167 (by decide) ?_
  refine lv_imul hx hb dX5_load_168 ?_
  refine kq_ti (y := (nI (4 * i))) (by rw [pk_mul, Nat.mul_comm]) ?_
  refine lv_iconst (v := (nI 3)) hx hb dX5_load_169 (by decide) ?_
  refine lv_iadd hx hb dX5_load_170 ?_
  refine kq_ti (y := (nI (4 * i + 3))) (nI_add (4 * i) 3) ?_
  refine tr_l_blob hx hb hK hP (by omega) dX5_load_171 ?_
  refine kq_tl (y := (u.1 5 (4 * i + 3))) (by simp [tm_L, tm_I, tm_D]) ?_
  refine kq_cV (st1 := [.long (tm_h (u.1 2 j) (u.1 5 (4 * i + 3))), .ref (ad 0)]) ⟨hx, hb, hml, hown, hts⟩ (r_mix (tm_I (tm_I u 14 0 (nI 0)) 14 0 (nI 0)) (u.1 2 j) (u.1 5 (4 * i + 3))) (cwV 2 hts gX5_74_X5_mix rfl rfl rfl (by decide +kernel) ⟨Nat.le_of_ble_eq_true rfl, Nat.le_of_ble_eq_true rfl⟩) kq_okT hK hP hD hA hG hS (va_recv hK hP (ci := 5) (q0 := 0) rfl (tm_at (i := 0) (by omega) rfl)) rfl hl.1 rfl rfl (Nat.le_of_ble_eq_true rfl) dX5_load_172 ⟨Nat.le_of_ble_eq_true rfl, Nat.le_of_ble_eq_true rfl⟩ (fun H locs hP hD hS => ?_)
  refine lv_iload hx hb dX5_load_175 (lv_at hl 0 rfl) ?_
  refine lv_aload_n hx hb dX5_load_177 rfl (lv_at hl 2 rfl) ?_
  refine tr_g_blob hx hb hts inB_X5 hown hK hP (hts _ mb_633) dX5_load_178 ?_
  refine lv_iload_n hx hb dX5_load_181 rfl (lv_at hl 4 rfl) ?_
  refine lv_iconst (v := (nI 4)) hx hb dX5_load_182 (by decide) ?_
  refine lv_imul hx hb dX5_load_183 ?_
  refine kq_ti (y := (nI (4 * i))) (by rw [pk_mul, Nat.mul_comm]) ?_
  refine lv_iconst (v := (nI 2)) hx hb dX5_load_184 (by decide) ?_
  refine lv_iadd hx hb dX5_load_185 ?_
  refine kq_ti (y := (nI (4 * i + 2))) (nI_add (4 * i) 2) ?_
  refine tr_l_blob hx hb hK hP (by omega) dX5_load_186 ?_
  refine kq_tl (y := (u.1 5 (4 * i + 2))) (by simp [tm_L, tm_I, tm_D]) ?_
  refine lv_lload_n hx hb dX5_load_187 rfl (lv_at hl 1 rfl) ?_
  refine lv_lload_n hx hb dX5_load_188 rfl (lv_at hl 1 rfl) ?_
  refine lv_lconst (v := 1) hx hb dX5_load_189 (by decide) ?_
  refine lv_land hx hb dX5_load_190 ?_
  refine lv_lconst (v := 0) hx hb dX5_load_191 (by decide) ?_
  refine W.lcmp hx hb dX5_load_192 ?_
  refine lv_if_ne (tgt := 200) hx hb dX5_load_193 (by decide) (fun c => absurd (tm_cmp0.mpr he) c) (fun _ => ?_)
  refine lv_iconst (v := (nI 1)) hx hb dX5_load_196 (by decide) ?_
  refine lv_goto (tgt := 201) hx hb dX5_load_197 (by decide) ?_
  refine kq_cV (st1 := [.int (nI k)]) ⟨hx, hb, hml, hown, hts⟩ (r_key_ok (tm_I (tm_I u 14 0 (nI 0)) 14 0 (nI 0)) (tm_h (u.1 2 j) (u.1 5 (4 * i + 3))) (((u.1 5 (4 * i + 1)) ^^^ (tm_h (u.1 2 j) 2)).toInt32) (u.1 5 (4 * i + 2)) ((u.1 5 (4 * i + 0)) ^^^ (tm_h (u.1 2 j) 1)) (nI 1) (Or.inr rfl) (by simp [tm_I]; rfl) (k := k) (by omega) (by simpa [tm_I] using hf) (by simpa [tm_I] using ha)) (cwV 5 hts gX5_121_X5_key rfl rfl rfl (by decide +kernel) ⟨Nat.le_of_ble_eq_true rfl, Nat.le_of_ble_eq_true rfl⟩) kq_okT hK hP hD hA hG hS (va_recv hK hP (ci := 5) (q0 := 0) rfl (tm_at (i := 0) (by omega) rfl)) rfl hl.1 rfl rfl (Nat.le_of_ble_eq_true rfl) dX5_load_201 ⟨Nat.le_of_ble_eq_true rfl, Nat.le_of_ble_eq_true rfl⟩ (fun H locs hP hD hS => ?_)
  exact kq_iret hx hb hr hlk hP hD hS dX5_load_204
set_option maxHeartbeats 4000000 in
set_option maxRecDepth 100000 in
theorem p_load_fullodd (u : tm_S) {j i : Nat} (hj : j < 4) (hi : i < 8) (hnl : u.2.1 11 0 = 0) (hh : ¬ u.2.1 0 j = 0) (hm : ¬ u.2.1 3 i = 0) (hp : ¬ u.2.1 2 j = 0) (ht : u.1 5 (4 * i + 3) = tm_h (tm_h (u.1 2 j) 3) (tm_h (tm_h (u.1 5 (4 * i + 0)) (u.1 5 (4 * i + 1))) (u.1 5 (4 * i + 2)))) (hf : ∀ i, i < 4 → ¬ u.2.1 0 i = 0) (he : ¬ ((u.1 5 (4 * i + 0)) ^^^ (tm_h (u.1 2 j) 1)) &&& 1 = 0) : kr_M l dC dI ad cc yX5_load wsX5_load { frames := 2, cells := 0, slots := 0, locals := 50 } [.ref (ad 0), .int (nI j), .int (nI i)] u (tm_I (tm_I (tm_I u 14 0 (nI 0)) 14 0 (nI 0)) 14 0 (nI 2)) (some (.int (nI 0))) := by
  refine kq_ofW (cc := cX5_load) (maxL := 6) (ret := (some .int)) (R0 := RX5) (by decide) rfl rfl (Nat.le_of_ble_eq_true rfl) ?_
  intro p e s m below meth c A ls hx hb hr hlk hml hown hts hP hK hD hA hG hS hl
  have hl : lv_has ls 6 [(0, .ref (ad 0)), (1, .int (nI j)), (2, .int (nI i))] := hl
  refine lv_aload_n hx hb dX5_load_0 rfl (lv_at hl 0 rfl) ?_
  refine lv_aload_n hx hb dX5_load_1 rfl (lv_at hl 0 rfl) ?_
  refine lv_iload_n hx hb dX5_load_2 rfl (lv_at hl 1 rfl) ?_
  refine lv_iconst (v := (nI 3)) hx hb dX5_load_3 (by decide) ?_
  refine kq_cV (st1 := [.int (nI 0), .ref (ad 0)]) ⟨hx, hb, hml, hown, hts⟩ (r_out_in u (by omega) (by omega)) (cwV 2 hts gX5_109_X5_out rfl rfl rfl (by decide +kernel) ⟨Nat.le_of_ble_eq_true rfl, Nat.le_of_ble_eq_true rfl⟩) kq_okT hK hP hD hA hG hS (va_recv hK hP (ci := 5) (q0 := 0) rfl (tm_at (i := 0) (by omega) rfl)) rfl hl.1 rfl rfl (Nat.le_of_ble_eq_true rfl) dX5_load_4 ⟨Nat.le_of_ble_eq_true rfl, Nat.le_of_ble_eq_true rfl⟩ (fun H locs hP hD hS => ?_)
  refine lv_if_ne (tgt := 20) hx hb dX5_load_7 (by decide) (fun c => absurd (by decide) c) (fun _ => ?_)
  refine lv_aload_n hx hb dX5_load_10 rfl (lv_at hl 0 rfl) ?_
  refine lv_iload_n hx hb dX5_load_11 rfl (lv_at hl 2 rfl) ?_
  refine lv_bipush (v := (nI 7)) hx hb dX5_load_12 (by decide) ?_
  refine kq_cV (st1 := [.int (nI 0), .ref (ad 0)]) ⟨hx, hb, hml, hown, hts⟩ (r_out_in u (by omega) (by omega)) (cwV 2 hts gX5_109_X5_out rfl rfl rfl (by decide +kernel) ⟨Nat.le_of_ble_eq_true rfl, Nat.le_of_ble_eq_true rfl⟩) kq_okT hK hP hD hA hG hS (va_recv hK hP (ci := 5) (q0 := 0) rfl (tm_at (i := 0) (by omega) rfl)) rfl hl.1 rfl rfl (Nat.le_of_ble_eq_true rfl) dX5_load_14 ⟨Nat.le_of_ble_eq_true rfl, Nat.le_of_ble_eq_true rfl⟩ (fun H locs hP hD hS => ?_)
  refine lv_if_eq (tgt := 24) hx hb dX5_load_17 (by decide) (fun _ => ?_) (fun c => absurd (by decide) c)
  refine lv_iconst (v := (nI 0)) hx hb dX5_load_24 (by decide) ?_
  refine kq_cV (st1 := [.int (nI 1)]) ⟨hx, hb, hml, hown, hts⟩ (r_begin_ok u hnl) (cwV 1 hts gX5_113_X5_begin rfl rfl rfl (by decide +kernel) ⟨Nat.le_of_ble_eq_true rfl, Nat.le_of_ble_eq_true rfl⟩) kq_okT hK hP hD hA hG hS (va_recv hK hP (ci := 5) (q0 := 0) rfl (tm_at (i := 0) (by omega) rfl)) rfl hl.1 rfl rfl (Nat.le_of_ble_eq_true rfl) dX5_load_25 ⟨Nat.le_of_ble_eq_true rfl, Nat.le_of_ble_eq_true rfl⟩ (fun H locs hP hD hS => ?_)
  refine lv_if_ne (tgt := 33) hx hb dX5_load_28 (by decide) (fun _ => ?_) (fun c => absurd c (by decide))
  refine lv_aload_n hx hb dX5_load_33 rfl (lv_at hl 0 rfl) ?_
  refine lv_aload_n hx hb dX5_load_34 rfl (lv_at hl 0 rfl) ?_
  refine tr_g_used hx hb hts inB_X5 hown hK hP (hts _ mb_641) dX5_load_35 ?_
  refine lv_iload_n hx hb dX5_load_38 rfl (lv_at hl 1 rfl) ?_
  refine tr_l_used hx hb hK hP (by omega) dX5_load_39 ?_
  refine kq_ti (y := (u.2.1 0 j)) (by simp [tm_L, tm_I, tm_D]) ?_
  refine lv_if_eq (tgt := 52) hx hb dX5_load_40 (by decide) (fun c => absurd c hh) (fun _ => ?_)
  refine lv_aload_n hx hb dX5_load_43 rfl (lv_at hl 0 rfl) ?_
  refine tr_g_there hx hb hts inB_X5 hown hK hP (hts _ mb_643) dX5_load_44 ?_
  refine lv_iload_n hx hb dX5_load_47 rfl (lv_at hl 2 rfl) ?_
  refine tr_l_there hx hb hK hP (by omega) dX5_load_48 ?_
  refine kq_ti (y := (u.2.1 3 i)) (by simp [tm_L, tm_I, tm_D]) ?_
  refine lv_if_ne (tgt := 56) hx hb dX5_load_49 (by decide) (fun _ => ?_) (fun c => absurd c hm)
  refine lv_aload_n hx hb dX5_load_56 rfl (lv_at hl 0 rfl) ?_
  refine tr_g_isParent hx hb hts inB_X5 hown hK hP (hts _ mb_642) dX5_load_57 ?_
  refine lv_iload_n hx hb dX5_load_60 rfl (lv_at hl 1 rfl) ?_
  refine tr_l_isParent hx hb hK hP (by omega) dX5_load_61 ?_
  refine kq_ti (y := (u.2.1 2 j)) (by simp [tm_L, tm_I, tm_D]) ?_
  refine lv_if_ne (tgt := 69) hx hb dX5_load_62 (by decide) (fun _ => ?_) (fun c => absurd c hp)
  refine lv_aload_n hx hb dX5_load_69 rfl (lv_at hl 0 rfl) ?_
  refine tr_g_blob hx hb hts inB_X5 hown hK hP (hts _ mb_633) dX5_load_70 ?_
  refine lv_iload_n hx hb dX5_load_73 rfl (lv_at hl 2 rfl) ?_
  refine lv_iconst (v := (nI 4)) hx hb dX5_load_74 (by decide) ?_
  refine lv_imul hx hb dX5_load_75 ?_
  refine kq_ti (y := (nI (4 * i))) (by rw [pk_mul, Nat.mul_comm]) ?_
  refine lv_iconst (v := (nI 3)) hx hb dX5_load_76 (by decide) ?_
  refine lv_iadd hx hb dX5_load_77 ?_
  refine kq_ti (y := (nI (4 * i + 3))) (nI_add (4 * i) 3) ?_
  refine tr_l_blob hx hb hK hP (by omega) dX5_load_78 ?_
  refine kq_tl (y := (u.1 5 (4 * i + 3))) (by simp [tm_L, tm_I, tm_D]) ?_
  refine lv_aload_n hx hb dX5_load_79 rfl (lv_at hl 0 rfl) ?_
  refine lv_iload_n hx hb dX5_load_80 rfl (lv_at hl 1 rfl) ?_
  refine lv_iload_n hx hb dX5_load_81 rfl (lv_at hl 2 rfl) ?_
  refine kq_cV (st1 := [.long (tm_h (tm_h ((tm_I u 14 0 (nI 0)).1 2 j) 3) (tm_h (tm_h ((tm_I u 14 0 (nI 0)).1 5 (4 * i + 0)) ((tm_I u 14 0 (nI 0)).1 5 (4 * i + 1))) ((tm_I u 14 0 (nI 0)).1 5 (4 * i + 2)))), .long (u.1 5 (4 * i + 3)), .ref (ad 0)]) ⟨hx, hb, hml, hown, hts⟩ (r_seal (tm_I u 14 0 (nI 0)) (j := j) (k := i) (by omega) (by omega)) (cwV 2 hts gX5_129_X5_seal rfl rfl rfl (by decide +kernel) ⟨Nat.le_of_ble_eq_true rfl, Nat.le_of_ble_eq_true rfl⟩) kq_okT hK hP hD hA hG hS (va_recv hK hP (ci := 5) (q0 := 0) rfl (tm_at (i := 0) (by omega) rfl)) rfl hl.1 rfl rfl (Nat.le_of_ble_eq_true rfl) dX5_load_82 ⟨Nat.le_of_ble_eq_true rfl, Nat.le_of_ble_eq_true rfl⟩ (fun H locs hP hD hS => ?_)
  refine W.lcmp hx hb dX5_load_85 ?_
  refine lv_if_eq (tgt := 93) hx hb dX5_load_86 (by decide) (fun _ => ?_) (fun c => absurd (tm_cmp0.mpr ht) c)
  refine lv_iconst (v := (nI 0)) hx hb dX5_load_93 (by decide) ?_
  refine tr_p_thrown hx hb hts inB_X5 hown hK hP hD hS (hts _ mb_652) dX5_load_94 (fun H locs hP hD hS => ?_)
  refine lv_aload_n hx hb dX5_load_97 rfl (lv_at hl 0 rfl) ?_
  refine tr_g_thrown hx hb hts inB_X5 hown hK hP (hts _ mb_652) dX5_load_98 ?_
  refine kq_ti (y := (nI 0)) (by simp [tm_L, tm_I, tm_D]) ?_
  refine lv_if_eq (tgt := 106) hx hb dX5_load_101 (by decide) (fun _ => ?_) (fun c => absurd (by decide) c)
  refine lv_aload_n hx hb dX5_load_106 rfl (lv_at hl 0 rfl) ?_
  refine tr_g_blob hx hb hts inB_X5 hown hK hP (hts _ mb_633) dX5_load_107 ?_
  refine lv_iload_n hx hb dX5_load_110 rfl (lv_at hl 2 rfl) ?_
  refine lv_iconst (v := (nI 4)) hx hb dX5_load_111 (by decide) ?_
  refine lv_imul hx hb dX5_load_112 ?_
  refine kq_ti (y := (nI (4 * i))) (by rw [pk_mul, Nat.mul_comm]) ?_
  refine tr_l_blob hx hb hK hP (by omega) dX5_load_113 ?_
  refine kq_tl (y := (u.1 5 (4 * i + 0))) (by simp [tm_L, tm_I, tm_D]) ?_
  refine lv_aload_n hx hb dX5_load_114 rfl (lv_at hl 0 rfl) ?_
  refine lv_aload_n hx hb dX5_load_115 rfl (lv_at hl 0 rfl) ?_
  refine tr_g_keyValue hx hb hts inB_X5 hown hK hP (hts _ mb_636) dX5_load_116 ?_
  refine lv_iload_n hx hb dX5_load_119 rfl (lv_at hl 1 rfl) ?_
  refine tr_l_keyValue hx hb hK hP (by omega) dX5_load_120 ?_
  refine kq_tl (y := (u.1 2 j)) (by simp [tm_L, tm_I, tm_D]) ?_
  refine lv_lconst (v := 1) hx hb dX5_load_121 (by decide) ?_
  refine kq_cV (st1 := [.long (tm_h (u.1 2 j) 1), .long (u.1 5 (4 * i + 0))]) ⟨hx, hb, hml, hown, hts⟩ (r_mix (tm_I (tm_I u 14 0 (nI 0)) 14 0 (nI 0)) (u.1 2 j) 1) (cwV 2 hts gX5_74_X5_mix rfl rfl rfl (by decide +kernel) ⟨Nat.le_of_ble_eq_true rfl, Nat.le_of_ble_eq_true rfl⟩) kq_okT hK hP hD hA hG hS (va_recv hK hP (ci := 5) (q0 := 0) rfl (tm_at (i := 0) (by omega) rfl)) rfl hl.1 rfl rfl (Nat.le_of_ble_eq_true rfl) dX5_load_122 ⟨Nat.le_of_ble_eq_true rfl, Nat.le_of_ble_eq_true rfl⟩ (fun H locs hP hD hS => ?_)
  refine lv_lxor hx hb dX5_load_125 ?_
  refine lv_lstore_n (lv' := [(3, .long ((u.1 5 (4 * i + 0)) ^^^ (tm_h (u.1 2 j) 1))), (0, .ref (ad 0)), (1, .int (nI j)), (2, .int (nI i))]) hx hb dX5_load_126 rfl hl (by decide) rfl (fun ls hl => ?_)
  refine lv_aload_n hx hb dX5_load_127 rfl (lv_at hl 1 rfl) ?_
  refine tr_g_blob hx hb hts inB_X5 hown hK hP (hts _ mb_633) dX5_load_128 ?_
  refine lv_iload_n hx hb dX5_load_131 rfl (lv_at hl 3 rfl) ?_
  refine lv_iconst (v := (nI 4)) hx hb dX5_load_132 (by decide) ?_
  refine lv_imul hx hb dX5_load_133 ?_
  refine kq_ti (y := (nI (4 * i))) (by rw [pk_mul, Nat.mul_comm]) ?_
  refine lv_iconst (v := (nI 1)) hx hb dX5_load_134 (by decide) ?_
  refine lv_iadd hx hb dX5_load_135 ?_
  refine kq_ti (y := (nI (4 * i + 1))) (nI_add (4 * i) 1) ?_
  refine tr_l_blob hx hb hK hP (by omega) dX5_load_136 ?_
  refine kq_tl (y := (u.1 5 (4 * i + 1))) (by simp [tm_L, tm_I, tm_D]) ?_
  refine lv_aload_n hx hb dX5_load_137 rfl (lv_at hl 1 rfl) ?_
  refine lv_aload_n hx hb dX5_load_138 rfl (lv_at hl 1 rfl) ?_
  refine tr_g_keyValue hx hb hts inB_X5 hown hK hP (hts _ mb_636) dX5_load_139 ?_
  refine lv_iload_n hx hb dX5_load_142 rfl (lv_at hl 2 rfl) ?_
  refine tr_l_keyValue hx hb hK hP (by omega) dX5_load_143 ?_
  refine kq_tl (y := (u.1 2 j)) (by simp [tm_L, tm_I, tm_D]) ?_
  refine lv_ldc2 hx hb hown (hts _ mb_753) dX5_load_144 ?_
  refine kq_cV (st1 := [.long (tm_h (u.1 2 j) 2), .long (u.1 5 (4 * i + 1))]) ⟨hx, hb, hml, hown, hts⟩ (r_mix (tm_I (tm_I u 14 0 (nI 0)) 14 0 (nI 0)) (u.1 2 j) 2) (cwV 2 hts gX5_74_X5_mix rfl rfl rfl (by decide +kernel) ⟨Nat.le_of_ble_eq_true rfl, Nat.le_of_ble_eq_true rfl⟩) kq_okT hK hP hD hA hG hS (va_recv hK hP (ci := 5) (q0 := 0) rfl (tm_at (i := 0) (by omega) rfl)) rfl hl.1 rfl rfl (Nat.le_of_ble_eq_true rfl) dX5_load_147 ⟨Nat.le_of_ble_eq_true rfl, Nat.le_of_ble_eq_true rfl⟩ (fun H locs hP hD hS => ?_)
  refine lv_lxor hx hb dX5_load_150 ?_
  refine lv_l2i (v := ((u.1 5 (4 * i + 1)) ^^^ (tm_h (u.1 2 j) 2)).toInt32) hx hb dX5_load_151 rfl ?_
  refine lv_istore (lv' := [(5, .int (((u.1 5 (4 * i + 1)) ^^^ (tm_h (u.1 2 j) 2)).toInt32)), (3, .long ((u.1 5 (4 * i + 0)) ^^^ (tm_h (u.1 2 j) 1))), (0, .ref (ad 0)), (1, .int (nI j)), (2, .int (nI i))]) hx hb dX5_load_152 hl (by decide) rfl (fun ls hl => ?_)
  refine lv_aload_n hx hb dX5_load_154 rfl (lv_at hl 2 rfl) ?_
  refine lv_aload_n hx hb dX5_load_155 rfl (lv_at hl 2 rfl) ?_
  refine lv_aload_n hx hb dX5_load_156 rfl (lv_at hl 2 rfl) ?_
  refine tr_g_keyValue hx hb hts inB_X5 hown hK hP (hts _ mb_636) dX5_load_157 ?_
  refine lv_iload_n hx hb dX5_load_160 rfl (lv_at hl 3 rfl) ?_
  refine tr_l_keyValue hx hb hK hP (by omega) dX5_load_161 ?_
  refine kq_tl (y := (u.1 2 j)) (by simp [tm_L, tm_I, tm_D]) ?_
  refine lv_aload_n hx hb dX5_load_162 rfl (lv_at hl 2 rfl) ?_
  refine tr_g_blob hx hb hts inB_X5 hown hK hP (hts _ mb_633) dX5_load_163 ?_
  refine lv_iload_n hx hb dX5_load_166 rfl (lv_at hl 4 rfl) ?_
  refine lv_iconst (v := (nI 4)) hx hb dX5_load_167 (by decide) ?_
  refine lv_imul hx hb dX5_load_168 ?_
  refine kq_ti (y := (nI (4 * i))) (by rw [pk_mul, Nat.mul_comm]) ?_
  refine lv_iconst (v := (nI 3)) hx hb dX5_load_169 (by decide) ?_
  refine lv_iadd hx hb dX5_load_170 ?_
  refine kq_ti (y := (nI (4 * i + 3))) (nI_add (4 * i) 3) ?_
  refine tr_l_blob hx hb hK hP (by omega) dX5_load_171 ?_
  refine kq_tl (y := (u.1 5 (4 * i + 3))) (by simp [tm_L, tm_I, tm_D]) ?_
  refine kq_cV (st1 := [.long (tm_h (u.1 2 j) (u.1 5 (4 * i + 3))), .ref (ad 0)]) ⟨hx, hb, hml, hown, hts⟩ (r_mix (tm_I (tm_I u 14 0 (nI 0)) 14 0 (nI 0)) (u.1 2 j) (u.1 5 (4 * i + 3))) (cwV 2 hts gX5_74_X5_mix rfl rfl rfl (by decide +kernel) ⟨Nat.le_of_ble_eq_true rfl, Nat.le_of_ble_eq_true rfl⟩) kq_okT hK hP hD hA hG hS (va_recv hK hP (ci := 5) (q0 := 0) rfl (tm_at (i := 0) (by omega) rfl)) rfl hl.1 rfl rfl (Nat.le_of_ble_eq_true rfl) dX5_load_172 ⟨Nat.le_of_ble_eq_true rfl, Nat.le_of_ble_eq_true rfl⟩ (fun H locs hP hD hS => ?_)
  refine lv_iload hx hb dX5_load_175 (lv_at hl 0 rfl) ?_
  refine lv_aload_n hx hb dX5_load_177 rfl (lv_at hl 2 rfl) ?_
  refine tr_g_blob hx hb hts inB_X5 hown hK hP (hts _ mb_633) dX5_load_178 ?_
  refine lv_iload_n hx hb dX5_load_181 rfl (lv_at hl 4 rfl) ?_
  refine lv_iconst (v := (nI 4)) hx hb dX5_load_182 (by decide) ?_
  refine lv_imul hx hb dX5_load_183 ?_
  refine kq_ti (y := (nI (4 * i))) (by rw [pk_mul, Nat.mul_comm]) ?_
  refine lv_iconst (v := (nI 2)) hx hb dX5_load_184 (by decide) ?_
  refine lv_iadd hx hb dX5_load_185 ?_
  refine kq_ti (y := (nI (4 * i + 2))) (nI_add (4 * i) 2) ?_
  refine tr_l_blob hx hb hK hP (by omega) dX5_load_186 ?_
  refine kq_tl (y := (u.1 5 (4 * i + 2))) (by simp [tm_L, tm_I, tm_D]) ?_
  refine lv_lload_n hx hb dX5_load_187 rfl (lv_at hl 1 rfl) ?_
  refine lv_lload_n hx hb dX5_load_188 rfl (lv_at hl 1 rfl) ?_
  refine lv_lconst (v := 1) hx hb dX5_load_189 (by decide) ?_
  refine lv_land hx hb dX5_load_190 ?_
  refine lv_lconst (v := 0) hx hb dX5_load_191 (by decide) ?_
  refine W.lcmp hx hb dX5_load_192 ?_
  refine lv_if_ne (tgt := 200) hx hb dX5_load_193 (by decide) (fun _ => ?_) (fun c => absurd c (fun q => he (tm_cmp0.mp q)))
  refine lv_iconst (v := (nI 0)) hx hb dX5_load_200 (by decide) ?_
  refine kq_cV (st1 := [.int (nI 0)]) ⟨hx, hb, hml, hown, hts⟩ (r_key_no (tm_I (tm_I u 14 0 (nI 0)) 14 0 (nI 0)) (tm_h (u.1 2 j) (u.1 5 (4 * i + 3))) (((u.1 5 (4 * i + 1)) ^^^ (tm_h (u.1 2 j) 2)).toInt32) (u.1 5 (4 * i + 2)) ((u.1 5 (4 * i + 0)) ^^^ (tm_h (u.1 2 j) 1)) (nI 0) (by simpa [tm_I] using hf)) (cwV 5 hts gX5_121_X5_key rfl rfl rfl (by decide +kernel) ⟨Nat.le_of_ble_eq_true rfl, Nat.le_of_ble_eq_true rfl⟩) kq_okT hK hP hD hA hG hS (va_recv hK hP (ci := 5) (q0 := 0) rfl (tm_at (i := 0) (by omega) rfl)) rfl hl.1 rfl rfl (Nat.le_of_ble_eq_true rfl) dX5_load_201 ⟨Nat.le_of_ble_eq_true rfl, Nat.le_of_ble_eq_true rfl⟩ (fun H locs hP hD hS => ?_)
  exact kq_iret hx hb hr hlk hP hD hS dX5_load_204
set_option maxHeartbeats 4000000 in
set_option maxRecDepth 100000 in
theorem p_load_odd (u : tm_S) {j i : Nat} (hj : j < 4) (hi : i < 8) (hnl : u.2.1 11 0 = 0) (hh : ¬ u.2.1 0 j = 0) (hm : ¬ u.2.1 3 i = 0) (hp : ¬ u.2.1 2 j = 0) (ht : u.1 5 (4 * i + 3) = tm_h (tm_h (u.1 2 j) 3) (tm_h (tm_h (u.1 5 (4 * i + 0)) (u.1 5 (4 * i + 1))) (u.1 5 (4 * i + 2)))) {k : Nat} (hk : k < 4) (hf : u.2.1 0 k = 0) (ha : ∀ i, i < k → ¬ u.2.1 0 i = 0) (he : ¬ ((u.1 5 (4 * i + 0)) ^^^ (tm_h (u.1 2 j) 1)) &&& 1 = 0) : kr_M l dC dI ad cc yX5_load wsX5_load { frames := 2, cells := 0, slots := 0, locals := 50 } [.ref (ad 0), .int (nI j), .int (nI i)] u (tm_I (tm_L (tm_L (tm_I (tm_L (tm_I (tm_I (tm_I u 14 0 (nI 0)) 14 0 (nI 0)) 0 k (nI 1)) 2 k (tm_h (u.1 2 j) (u.1 5 (4 * i + 3)))) 1 k (((u.1 5 (4 * i + 1)) ^^^ (tm_h (u.1 2 j) 2)).toInt32)) 3 k (u.1 5 (4 * i + 2))) 4 k ((u.1 5 (4 * i + 0)) ^^^ (tm_h (u.1 2 j) 1))) 2 k (nI 0)) (some (.int (nI k))) := by
  refine kq_ofW (cc := cX5_load) (maxL := 6) (ret := (some .int)) (R0 := RX5) (by decide) rfl rfl (Nat.le_of_ble_eq_true rfl) ?_
  intro p e s m below meth c A ls hx hb hr hlk hml hown hts hP hK hD hA hG hS hl
  have hl : lv_has ls 6 [(0, .ref (ad 0)), (1, .int (nI j)), (2, .int (nI i))] := hl
  refine lv_aload_n hx hb dX5_load_0 rfl (lv_at hl 0 rfl) ?_
  refine lv_aload_n hx hb dX5_load_1 rfl (lv_at hl 0 rfl) ?_
  refine lv_iload_n hx hb dX5_load_2 rfl (lv_at hl 1 rfl) ?_
  refine lv_iconst (v := (nI 3)) hx hb dX5_load_3 (by decide) ?_
  refine kq_cV (st1 := [.int (nI 0), .ref (ad 0)]) ⟨hx, hb, hml, hown, hts⟩ (r_out_in u (by omega) (by omega)) (cwV 2 hts gX5_109_X5_out rfl rfl rfl (by decide +kernel) ⟨Nat.le_of_ble_eq_true rfl, Nat.le_of_ble_eq_true rfl⟩) kq_okT hK hP hD hA hG hS (va_recv hK hP (ci := 5) (q0 := 0) rfl (tm_at (i := 0) (by omega) rfl)) rfl hl.1 rfl rfl (Nat.le_of_ble_eq_true rfl) dX5_load_4 ⟨Nat.le_of_ble_eq_true rfl, Nat.le_of_ble_eq_true rfl⟩ (fun H locs hP hD hS => ?_)
  refine lv_if_ne (tgt := 20) hx hb dX5_load_7 (by decide) (fun c => absurd (by decide) c) (fun _ => ?_)
  refine lv_aload_n hx hb dX5_load_10 rfl (lv_at hl 0 rfl) ?_
  refine lv_iload_n hx hb dX5_load_11 rfl (lv_at hl 2 rfl) ?_
  refine lv_bipush (v := (nI 7)) hx hb dX5_load_12 (by decide) ?_
  refine kq_cV (st1 := [.int (nI 0), .ref (ad 0)]) ⟨hx, hb, hml, hown, hts⟩ (r_out_in u (by omega) (by omega)) (cwV 2 hts gX5_109_X5_out rfl rfl rfl (by decide +kernel) ⟨Nat.le_of_ble_eq_true rfl, Nat.le_of_ble_eq_true rfl⟩) kq_okT hK hP hD hA hG hS (va_recv hK hP (ci := 5) (q0 := 0) rfl (tm_at (i := 0) (by omega) rfl)) rfl hl.1 rfl rfl (Nat.le_of_ble_eq_true rfl) dX5_load_14 ⟨Nat.le_of_ble_eq_true rfl, Nat.le_of_ble_eq_true rfl⟩ (fun H locs hP hD hS => ?_)
  refine lv_if_eq (tgt := 24) hx hb dX5_load_17 (by decide) (fun _ => ?_) (fun c => absurd (by decide) c)
  refine lv_iconst (v := (nI 0)) hx hb dX5_load_24 (by decide) ?_
  refine kq_cV (st1 := [.int (nI 1)]) ⟨hx, hb, hml, hown, hts⟩ (r_begin_ok u hnl) (cwV 1 hts gX5_113_X5_begin rfl rfl rfl (by decide +kernel) ⟨Nat.le_of_ble_eq_true rfl, Nat.le_of_ble_eq_true rfl⟩) kq_okT hK hP hD hA hG hS (va_recv hK hP (ci := 5) (q0 := 0) rfl (tm_at (i := 0) (by omega) rfl)) rfl hl.1 rfl rfl (Nat.le_of_ble_eq_true rfl) dX5_load_25 ⟨Nat.le_of_ble_eq_true rfl, Nat.le_of_ble_eq_true rfl⟩ (fun H locs hP hD hS => ?_)
  refine lv_if_ne (tgt := 33) hx hb dX5_load_28 (by decide) (fun _ => ?_) (fun c => absurd c (by decide))
  refine lv_aload_n hx hb dX5_load_33 rfl (lv_at hl 0 rfl) ?_
  refine lv_aload_n hx hb dX5_load_34 rfl (lv_at hl 0 rfl) ?_
  refine tr_g_used hx hb hts inB_X5 hown hK hP (hts _ mb_641) dX5_load_35 ?_
  refine lv_iload_n hx hb dX5_load_38 rfl (lv_at hl 1 rfl) ?_
  refine tr_l_used hx hb hK hP (by omega) dX5_load_39 ?_
  refine kq_ti (y := (u.2.1 0 j)) (by simp [tm_L, tm_I, tm_D]) ?_
  refine lv_if_eq (tgt := 52) hx hb dX5_load_40 (by decide) (fun c => absurd c hh) (fun _ => ?_)
  refine lv_aload_n hx hb dX5_load_43 rfl (lv_at hl 0 rfl) ?_
  refine tr_g_there hx hb hts inB_X5 hown hK hP (hts _ mb_643) dX5_load_44 ?_
  refine lv_iload_n hx hb dX5_load_47 rfl (lv_at hl 2 rfl) ?_
  refine tr_l_there hx hb hK hP (by omega) dX5_load_48 ?_
  refine kq_ti (y := (u.2.1 3 i)) (by simp [tm_L, tm_I, tm_D]) ?_
  refine lv_if_ne (tgt := 56) hx hb dX5_load_49 (by decide) (fun _ => ?_) (fun c => absurd c hm)
  refine lv_aload_n hx hb dX5_load_56 rfl (lv_at hl 0 rfl) ?_
  refine tr_g_isParent hx hb hts inB_X5 hown hK hP (hts _ mb_642) dX5_load_57 ?_
  refine lv_iload_n hx hb dX5_load_60 rfl (lv_at hl 1 rfl) ?_
  refine tr_l_isParent hx hb hK hP (by omega) dX5_load_61 ?_
  refine kq_ti (y := (u.2.1 2 j)) (by simp [tm_L, tm_I, tm_D]) ?_
  refine lv_if_ne (tgt := 69) hx hb dX5_load_62 (by decide) (fun _ => ?_) (fun c => absurd c hp)
  refine lv_aload_n hx hb dX5_load_69 rfl (lv_at hl 0 rfl) ?_
  refine tr_g_blob hx hb hts inB_X5 hown hK hP (hts _ mb_633) dX5_load_70 ?_
  refine lv_iload_n hx hb dX5_load_73 rfl (lv_at hl 2 rfl) ?_
  refine lv_iconst (v := (nI 4)) hx hb dX5_load_74 (by decide) ?_
  refine lv_imul hx hb dX5_load_75 ?_
  refine kq_ti (y := (nI (4 * i))) (by rw [pk_mul, Nat.mul_comm]) ?_
  refine lv_iconst (v := (nI 3)) hx hb dX5_load_76 (by decide) ?_
  refine lv_iadd hx hb dX5_load_77 ?_
  refine kq_ti (y := (nI (4 * i + 3))) (nI_add (4 * i) 3) ?_
  refine tr_l_blob hx hb hK hP (by omega) dX5_load_78 ?_
  refine kq_tl (y := (u.1 5 (4 * i + 3))) (by simp [tm_L, tm_I, tm_D]) ?_
  refine lv_aload_n hx hb dX5_load_79 rfl (lv_at hl 0 rfl) ?_
  refine lv_iload_n hx hb dX5_load_80 rfl (lv_at hl 1 rfl) ?_
  refine lv_iload_n hx hb dX5_load_81 rfl (lv_at hl 2 rfl) ?_
  refine kq_cV (st1 := [.long (tm_h (tm_h ((tm_I u 14 0 (nI 0)).1 2 j) 3) (tm_h (tm_h ((tm_I u 14 0 (nI 0)).1 5 (4 * i + 0)) ((tm_I u 14 0 (nI 0)).1 5 (4 * i + 1))) ((tm_I u 14 0 (nI 0)).1 5 (4 * i + 2)))), .long (u.1 5 (4 * i + 3)), .ref (ad 0)]) ⟨hx, hb, hml, hown, hts⟩ (r_seal (tm_I u 14 0 (nI 0)) (j := j) (k := i) (by omega) (by omega)) (cwV 2 hts gX5_129_X5_seal rfl rfl rfl (by decide +kernel) ⟨Nat.le_of_ble_eq_true rfl, Nat.le_of_ble_eq_true rfl⟩) kq_okT hK hP hD hA hG hS (va_recv hK hP (ci := 5) (q0 := 0) rfl (tm_at (i := 0) (by omega) rfl)) rfl hl.1 rfl rfl (Nat.le_of_ble_eq_true rfl) dX5_load_82 ⟨Nat.le_of_ble_eq_true rfl, Nat.le_of_ble_eq_true rfl⟩ (fun H locs hP hD hS => ?_)
  refine W.lcmp hx hb dX5_load_85 ?_
  refine lv_if_eq (tgt := 93) hx hb dX5_load_86 (by decide) (fun _ => ?_) (fun c => absurd (tm_cmp0.mpr ht) c)
  refine lv_iconst (v := (nI 0)) hx hb dX5_load_93 (by decide) ?_
  refine tr_p_thrown hx hb hts inB_X5 hown hK hP hD hS (hts _ mb_652) dX5_load_94 (fun H locs hP hD hS => ?_)
  refine lv_aload_n hx hb dX5_load_97 rfl (lv_at hl 0 rfl) ?_
  refine tr_g_thrown hx hb hts inB_X5 hown hK hP (hts _ mb_652) dX5_load_98 ?_
  refine kq_ti (y := (nI 0)) (by simp [tm_L, tm_I, tm_D]) ?_
  refine lv_if_eq (tgt := 106) hx hb dX5_load_101 (by decide) (fun _ => ?_) (fun c => absurd (by decide) c)
  refine lv_aload_n hx hb dX5_load_106 rfl (lv_at hl 0 rfl) ?_
  refine tr_g_blob hx hb hts inB_X5 hown hK hP (hts _ mb_633) dX5_load_107 ?_
  refine lv_iload_n hx hb dX5_load_110 rfl (lv_at hl 2 rfl) ?_
  refine lv_iconst (v := (nI 4)) hx hb dX5_load_111 (by decide) ?_
  refine lv_imul hx hb dX5_load_112 ?_
  refine kq_ti (y := (nI (4 * i))) (by rw [pk_mul, Nat.mul_comm]) ?_
  refine tr_l_blob hx hb hK hP (by omega) dX5_load_113 ?_
  refine kq_tl (y := (u.1 5 (4 * i + 0))) (by simp [tm_L, tm_I, tm_D]) ?_
  refine lv_aload_n hx hb dX5_load_114 rfl (lv_at hl 0 rfl) ?_
  refine lv_aload_n hx hb dX5_load_115 rfl (lv_at hl 0 rfl) ?_
  refine tr_g_keyValue hx hb hts inB_X5 hown hK hP (hts _ mb_636) dX5_load_116 ?_
  refine lv_iload_n hx hb dX5_load_119 rfl (lv_at hl 1 rfl) ?_
  refine tr_l_keyValue hx hb hK hP (by omega) dX5_load_120 ?_
  refine kq_tl (y := (u.1 2 j)) (by simp [tm_L, tm_I, tm_D]) ?_
  refine lv_lconst (v := 1) hx hb dX5_load_121 (by decide) ?_
  refine kq_cV (st1 := [.long (tm_h (u.1 2 j) 1), .long (u.1 5 (4 * i + 0))]) ⟨hx, hb, hml, hown, hts⟩ (r_mix (tm_I (tm_I u 14 0 (nI 0)) 14 0 (nI 0)) (u.1 2 j) 1) (cwV 2 hts gX5_74_X5_mix rfl rfl rfl (by decide +kernel) ⟨Nat.le_of_ble_eq_true rfl, Nat.le_of_ble_eq_true rfl⟩) kq_okT hK hP hD hA hG hS (va_recv hK hP (ci := 5) (q0 := 0) rfl (tm_at (i := 0) (by omega) rfl)) rfl hl.1 rfl rfl (Nat.le_of_ble_eq_true rfl) dX5_load_122 ⟨Nat.le_of_ble_eq_true rfl, Nat.le_of_ble_eq_true rfl⟩ (fun H locs hP hD hS => ?_)
  refine lv_lxor hx hb dX5_load_125 ?_
  refine lv_lstore_n (lv' := [(3, .long ((u.1 5 (4 * i + 0)) ^^^ (tm_h (u.1 2 j) 1))), (0, .ref (ad 0)), (1, .int (nI j)), (2, .int (nI i))]) hx hb dX5_load_126 rfl hl (by decide) rfl (fun ls hl => ?_)
  refine lv_aload_n hx hb dX5_load_127 rfl (lv_at hl 1 rfl) ?_
  refine tr_g_blob hx hb hts inB_X5 hown hK hP (hts _ mb_633) dX5_load_128 ?_
  refine lv_iload_n hx hb dX5_load_131 rfl (lv_at hl 3 rfl) ?_
  refine lv_iconst (v := (nI 4)) hx hb dX5_load_132 (by decide) ?_
  refine lv_imul hx hb dX5_load_133 ?_
  refine kq_ti (y := (nI (4 * i))) (by rw [pk_mul, Nat.mul_comm]) ?_
  refine lv_iconst (v := (nI 1)) hx hb dX5_load_134 (by decide) ?_
  refine lv_iadd hx hb dX5_load_135 ?_
  refine kq_ti (y := (nI (4 * i + 1))) (nI_add (4 * i) 1) ?_
  refine tr_l_blob hx hb hK hP (by omega) dX5_load_136 ?_
  refine kq_tl (y := (u.1 5 (4 * i + 1))) (by simp [tm_L, tm_I, tm_D]) ?_
  refine lv_aload_n hx hb dX5_load_137 rfl (lv_at hl 1 rfl) ?_
  refine lv_aload_n hx hb dX5_load_138 rfl (lv_at hl 1 rfl) ?_
  refine tr_g_keyValue hx hb hts inB_X5 hown hK hP (hts _ mb_636) dX5_load_139 ?_
  refine lv_iload_n hx hb dX5_load_142 rfl (lv_at hl 2 rfl) ?_
  refine tr_l_keyValue hx hb hK hP (by omega) dX5_load_143 ?_
  refine kq_tl (y := (u.1 2 j)) (by simp [tm_L, tm_I, tm_D]) ?_
  refine lv_ldc2 hx hb hown (hts _ mb_753) dX5_load_144 ?_
  refine kq_cV (st1 := [.long (tm_h (u.1 2 j) 2), .long (u.1 5 (4 * i + 1))]) ⟨hx, hb, hml, hown, hts⟩ (r_mix (tm_I (tm_I u 14 0 (nI 0)) 14 0 (nI 0)) (u.1 2 j) 2) (cwV 2 hts gX5_74_X5_mix rfl rfl rfl (by decide +kernel) ⟨Nat.le_of_ble_eq_true rfl, Nat.le_of_ble_eq_true rfl⟩) kq_okT hK hP hD hA hG hS (va_recv hK hP (ci := 5) (q0 := 0) rfl (tm_at (i := 0) (by omega) rfl)) rfl hl.1 rfl rfl (Nat.le_of_ble_eq_true rfl) dX5_load_147 ⟨Nat.le_of_ble_eq_true rfl, Nat.le_of_ble_eq_true rfl⟩ (fun H locs hP hD hS => ?_)
  refine lv_lxor hx hb dX5_load_150 ?_
  refine lv_l2i (v := ((u.1 5 (4 * i + 1)) ^^^ (tm_h (u.1 2 j) 2)).toInt32) hx hb dX5_load_151 rfl ?_
  refine lv_istore (lv' := [(5, .int (((u.1 5 (4 * i + 1)) ^^^ (tm_h (u.1 2 j) 2)).toInt32)), (3, .long ((u.1 5 (4 * i + 0)) ^^^ (tm_h (u.1 2 j) 1))), (0, .ref (ad 0)), (1, .int (nI j)), (2, .int (nI i))]) hx hb dX5_load_152 hl (by decide) rfl (fun ls hl => ?_)
  refine lv_aload_n hx hb dX5_load_154 rfl (lv_at hl 2 rfl) ?_
  refine lv_aload_n hx hb dX5_load_155 rfl (lv_at hl 2 rfl) ?_
  refine lv_aload_n hx hb dX5_load_156 rfl (lv_at hl 2 rfl) ?_
  refine tr_g_keyValue hx hb hts inB_X5 hown hK hP (hts _ mb_636) dX5_load_157 ?_
  refine lv_iload_n hx hb dX5_load_160 rfl (lv_at hl 3 rfl) ?_
  refine tr_l_keyValue hx hb hK hP (by omega) dX5_load_161 ?_
  refine kq_tl (y := (u.1 2 j)) (by simp [tm_L, tm_I, tm_D]) ?_
  refine lv_aload_n hx hb dX5_load_162 rfl (lv_at hl 2 rfl) ?_
  refine tr_g_blob hx hb hts inB_X5 hown hK hP (hts _ mb_633) dX5_load_163 ?_
  refine lv_iload_n hx hb dX5_load_166 rfl (lv_at hl 4 rfl) ?_
  refine lv_iconst (v := (nI 4)) hx hb dX5_load_167 (by decide) ?_
  refine lv_imul hx hb dX5_load_168 ?_
  refine kq_ti (y := (nI (4 * i))) (by rw [pk_mul, Nat.mul_comm]) ?_
  refine lv_iconst (v := (nI 3)) hx hb dX5_load_169 (by decide) ?_
  refine lv_iadd hx hb dX5_load_170 ?_
  refine kq_ti (y := (nI (4 * i + 3))) (nI_add (4 * i) 3) ?_
  refine tr_l_blob hx hb hK hP (by omega) dX5_load_171 ?_
  refine kq_tl (y := (u.1 5 (4 * i + 3))) (by simp [tm_L, tm_I, tm_D]) ?_
  refine kq_cV (st1 := [.long (tm_h (u.1 2 j) (u.1 5 (4 * i + 3))), .ref (ad 0)]) ⟨hx, hb, hml, hown, hts⟩ (r_mix (tm_I (tm_I u 14 0 (nI 0)) 14 0 (nI 0)) (u.1 2 j) (u.1 5 (4 * i + 3))) (cwV 2 hts gX5_74_X5_mix rfl rfl rfl (by decide +kernel) ⟨Nat.le_of_ble_eq_true rfl, Nat.le_of_ble_eq_true rfl⟩) kq_okT hK hP hD hA hG hS (va_recv hK hP (ci := 5) (q0 := 0) rfl (tm_at (i := 0) (by omega) rfl)) rfl hl.1 rfl rfl (Nat.le_of_ble_eq_true rfl) dX5_load_172 ⟨Nat.le_of_ble_eq_true rfl, Nat.le_of_ble_eq_true rfl⟩ (fun H locs hP hD hS => ?_)
  refine lv_iload hx hb dX5_load_175 (lv_at hl 0 rfl) ?_
  refine lv_aload_n hx hb dX5_load_177 rfl (lv_at hl 2 rfl) ?_
  refine tr_g_blob hx hb hts inB_X5 hown hK hP (hts _ mb_633) dX5_load_178 ?_
  refine lv_iload_n hx hb dX5_load_181 rfl (lv_at hl 4 rfl) ?_
  refine lv_iconst (v := (nI 4)) hx hb dX5_load_182 (by decide) ?_
  refine lv_imul hx hb dX5_load_183 ?_
  refine kq_ti (y := (nI (4 * i))) (by rw [pk_mul, Nat.mul_comm]) ?_
  refine lv_iconst (v := (nI 2)) hx hb dX5_load_184 (by decide) ?_
  refine lv_iadd hx hb dX5_load_185 ?_
  refine kq_ti (y := (nI (4 * i + 2))) (nI_add (4 * i) 2) ?_
  refine tr_l_blob hx hb hK hP (by omega) dX5_load_186 ?_
  refine kq_tl (y := (u.1 5 (4 * i + 2))) (by simp [tm_L, tm_I, tm_D]) ?_
  refine lv_lload_n hx hb dX5_load_187 rfl (lv_at hl 1 rfl) ?_
  refine lv_lload_n hx hb dX5_load_188 rfl (lv_at hl 1 rfl) ?_
  refine lv_lconst (v := 1) hx hb dX5_load_189 (by decide) ?_
  refine lv_land hx hb dX5_load_190 ?_
  refine lv_lconst (v := 0) hx hb dX5_load_191 (by decide) ?_
  refine W.lcmp hx hb dX5_load_192 ?_
  refine lv_if_ne (tgt := 200) hx hb dX5_load_193 (by decide) (fun _ => ?_) (fun c => absurd c (fun q => he (tm_cmp0.mp q)))
  refine lv_iconst (v := (nI 0)) hx hb dX5_load_200 (by decide) ?_
  refine kq_cV (st1 := [.int (nI k)]) ⟨hx, hb, hml, hown, hts⟩ (r_key_ok (tm_I (tm_I u 14 0 (nI 0)) 14 0 (nI 0)) (tm_h (u.1 2 j) (u.1 5 (4 * i + 3))) (((u.1 5 (4 * i + 1)) ^^^ (tm_h (u.1 2 j) 2)).toInt32) (u.1 5 (4 * i + 2)) ((u.1 5 (4 * i + 0)) ^^^ (tm_h (u.1 2 j) 1)) (nI 0) (Or.inl rfl) (by simp [tm_I]; rfl) (k := k) (by omega) (by simpa [tm_I] using hf) (by simpa [tm_I] using ha)) (cwV 5 hts gX5_121_X5_key rfl rfl rfl (by decide +kernel) ⟨Nat.le_of_ble_eq_true rfl, Nat.le_of_ble_eq_true rfl⟩) kq_okT hK hP hD hA hG hS (va_recv hK hP (ci := 5) (q0 := 0) rfl (tm_at (i := 0) (by omega) rfl)) rfl hl.1 rfl rfl (Nat.le_of_ble_eq_true rfl) dX5_load_201 ⟨Nat.le_of_ble_eq_true rfl, Nat.le_of_ble_eq_true rfl⟩ (fun H locs hP hD hS => ?_)
  exact kq_iret hx hb hr hlk hP hD hS dX5_load_204
set_option maxHeartbeats 4000000 in
set_option maxRecDepth 100000 in
theorem p_tamper_b1 (u : tm_S) (x : Int32) (h : x < 0 ∨ ¬ x ≤ nI 7) (i : Int32) (v : Int64) : kr_M l dC dI ad cc yX5_tamper wsX5_tamper { frames := 1, cells := 0, slots := 0, locals := 22 } [.ref (ad 0), .int x, .int i, .long v] u (tm_I u 14 0 (nI 1)) none := by
  refine kq_ofW (cc := cX5_tamper) (maxL := 5) (ret := none) (R0 := RX5) (by decide) rfl rfl (Nat.le_of_ble_eq_true rfl) ?_
  intro p e s m below meth c A ls hx hb hr hlk hml hown hts hP hK hD hA hG hS hl
  have hl : lv_has ls 5 [(0, .ref (ad 0)), (1, .int x), (2, .int i), (3, .long v)] := hl
  refine lv_aload_n hx hb dX5_tamper_0 rfl (lv_at hl 0 rfl) ?_
  refine lv_aload_n hx hb dX5_tamper_1 rfl (lv_at hl 0 rfl) ?_
  refine lv_iload_n hx hb dX5_tamper_2 rfl (lv_at hl 1 rfl) ?_
  refine lv_bipush (v := (nI 7)) hx hb dX5_tamper_3 (by decide) ?_
  refine kq_cV (st1 := [.int (nI 1), .ref (ad 0)]) ⟨hx, hb, hml, hown, hts⟩ (r_out_no u h) (cwV 2 hts gX5_109_X5_out rfl rfl rfl (by decide +kernel) ⟨Nat.le_of_ble_eq_true rfl, Nat.le_of_ble_eq_true rfl⟩) kq_okT hK hP hD hA hG hS (va_recv hK hP (ci := 5) (q0 := 0) rfl (tm_at (i := 0) (by omega) rfl)) rfl hl.1 rfl rfl (Nat.le_of_ble_eq_true rfl) dX5_tamper_5 ⟨Nat.le_of_ble_eq_true rfl, Nat.le_of_ble_eq_true rfl⟩ (fun H locs hP hD hS => ?_)
  refine lv_if_ne (tgt := 20) hx hb dX5_tamper_8 (by decide) (fun _ => ?_) (fun c => absurd c (by decide))
  refine lv_iconst (v := (nI 1)) hx hb dX5_tamper_20 (by decide) ?_
  refine lv_goto (tgt := 38) hx hb dX5_tamper_21 (by decide) ?_
  refine tr_p_thrown hx hb hts inB_X5 hown hK hP hD hS (hts _ mb_652) dX5_tamper_38 (fun H locs hP hD hS => ?_)
  refine lv_aload_n hx hb dX5_tamper_41 rfl (lv_at hl 0 rfl) ?_
  refine tr_g_thrown hx hb hts inB_X5 hown hK hP (hts _ mb_652) dX5_tamper_42 ?_
  refine kq_ti (y := (nI 1)) (by simp [tm_L, tm_I, tm_D]) ?_
  refine lv_if_ne (tgt := 62) hx hb dX5_tamper_45 (by decide) (fun _ => ?_) (fun c => absurd c (by decide))
  exact kq_vret hx hb hr hlk hP hD hS dX5_tamper_62
set_option maxHeartbeats 4000000 in
set_option maxRecDepth 100000 in
theorem p_tamper_b2 (u : tm_S) {j : Nat} (hj : j < 8) (x : Int32) (h : x < 0 ∨ ¬ x ≤ nI 3) (v : Int64) : kr_M l dC dI ad cc yX5_tamper wsX5_tamper { frames := 1, cells := 0, slots := 0, locals := 22 } [.ref (ad 0), .int (nI j), .int x, .long v] u (tm_I u 14 0 (nI 1)) none := by
  refine kq_ofW (cc := cX5_tamper) (maxL := 5) (ret := none) (R0 := RX5) (by decide) rfl rfl (Nat.le_of_ble_eq_true rfl) ?_
  intro p e s m below meth c A ls hx hb hr hlk hml hown hts hP hK hD hA hG hS hl
  have hl : lv_has ls 5 [(0, .ref (ad 0)), (1, .int (nI j)), (2, .int x), (3, .long v)] := hl
  refine lv_aload_n hx hb dX5_tamper_0 rfl (lv_at hl 0 rfl) ?_
  refine lv_aload_n hx hb dX5_tamper_1 rfl (lv_at hl 0 rfl) ?_
  refine lv_iload_n hx hb dX5_tamper_2 rfl (lv_at hl 1 rfl) ?_
  refine lv_bipush (v := (nI 7)) hx hb dX5_tamper_3 (by decide) ?_
  refine kq_cV (st1 := [.int (nI 0), .ref (ad 0)]) ⟨hx, hb, hml, hown, hts⟩ (r_out_in u (by omega) (by omega)) (cwV 2 hts gX5_109_X5_out rfl rfl rfl (by decide +kernel) ⟨Nat.le_of_ble_eq_true rfl, Nat.le_of_ble_eq_true rfl⟩) kq_okT hK hP hD hA hG hS (va_recv hK hP (ci := 5) (q0 := 0) rfl (tm_at (i := 0) (by omega) rfl)) rfl hl.1 rfl rfl (Nat.le_of_ble_eq_true rfl) dX5_tamper_5 ⟨Nat.le_of_ble_eq_true rfl, Nat.le_of_ble_eq_true rfl⟩ (fun H locs hP hD hS => ?_)
  refine lv_if_ne (tgt := 20) hx hb dX5_tamper_8 (by decide) (fun c => absurd (by decide) c) (fun _ => ?_)
  refine lv_aload_n hx hb dX5_tamper_11 rfl (lv_at hl 0 rfl) ?_
  refine lv_iload_n hx hb dX5_tamper_12 rfl (lv_at hl 2 rfl) ?_
  refine lv_iconst (v := (nI 3)) hx hb dX5_tamper_13 (by decide) ?_
  refine kq_cV (st1 := [.int (nI 1), .ref (ad 0)]) ⟨hx, hb, hml, hown, hts⟩ (r_out_no u h) (cwV 2 hts gX5_109_X5_out rfl rfl rfl (by decide +kernel) ⟨Nat.le_of_ble_eq_true rfl, Nat.le_of_ble_eq_true rfl⟩) kq_okT hK hP hD hA hG hS (va_recv hK hP (ci := 5) (q0 := 0) rfl (tm_at (i := 0) (by omega) rfl)) rfl hl.1 rfl rfl (Nat.le_of_ble_eq_true rfl) dX5_tamper_14 ⟨Nat.le_of_ble_eq_true rfl, Nat.le_of_ble_eq_true rfl⟩ (fun H locs hP hD hS => ?_)
  refine lv_if_eq (tgt := 24) hx hb dX5_tamper_17 (by decide) (fun c => absurd c (by decide)) (fun _ => ?_)
  refine lv_iconst (v := (nI 1)) hx hb dX5_tamper_20 (by decide) ?_
  refine lv_goto (tgt := 38) hx hb dX5_tamper_21 (by decide) ?_
  refine tr_p_thrown hx hb hts inB_X5 hown hK hP hD hS (hts _ mb_652) dX5_tamper_38 (fun H locs hP hD hS => ?_)
  refine lv_aload_n hx hb dX5_tamper_41 rfl (lv_at hl 0 rfl) ?_
  refine tr_g_thrown hx hb hts inB_X5 hown hK hP (hts _ mb_652) dX5_tamper_42 ?_
  refine kq_ti (y := (nI 1)) (by simp [tm_L, tm_I, tm_D]) ?_
  refine lv_if_ne (tgt := 62) hx hb dX5_tamper_45 (by decide) (fun _ => ?_) (fun c => absurd c (by decide))
  exact kq_vret hx hb hr hlk hP hD hS dX5_tamper_62
set_option maxHeartbeats 4000000 in
set_option maxRecDepth 100000 in
theorem p_tamper_none (u : tm_S) {j i : Nat} (hj : j < 8) (hi : i < 4) (v : Int64) (hm : u.2.1 3 j = 0) : kr_M l dC dI ad cc yX5_tamper wsX5_tamper { frames := 1, cells := 0, slots := 0, locals := 22 } [.ref (ad 0), .int (nI j), .int (nI i), .long v] u (tm_I u 14 0 (nI 2)) none := by
  refine kq_ofW (cc := cX5_tamper) (maxL := 5) (ret := none) (R0 := RX5) (by decide) rfl rfl (Nat.le_of_ble_eq_true rfl) ?_
  intro p e s m below meth c A ls hx hb hr hlk hml hown hts hP hK hD hA hG hS hl
  have hl : lv_has ls 5 [(0, .ref (ad 0)), (1, .int (nI j)), (2, .int (nI i)), (3, .long v)] := hl
  refine lv_aload_n hx hb dX5_tamper_0 rfl (lv_at hl 0 rfl) ?_
  refine lv_aload_n hx hb dX5_tamper_1 rfl (lv_at hl 0 rfl) ?_
  refine lv_iload_n hx hb dX5_tamper_2 rfl (lv_at hl 1 rfl) ?_
  refine lv_bipush (v := (nI 7)) hx hb dX5_tamper_3 (by decide) ?_
  refine kq_cV (st1 := [.int (nI 0), .ref (ad 0)]) ⟨hx, hb, hml, hown, hts⟩ (r_out_in u (by omega) (by omega)) (cwV 2 hts gX5_109_X5_out rfl rfl rfl (by decide +kernel) ⟨Nat.le_of_ble_eq_true rfl, Nat.le_of_ble_eq_true rfl⟩) kq_okT hK hP hD hA hG hS (va_recv hK hP (ci := 5) (q0 := 0) rfl (tm_at (i := 0) (by omega) rfl)) rfl hl.1 rfl rfl (Nat.le_of_ble_eq_true rfl) dX5_tamper_5 ⟨Nat.le_of_ble_eq_true rfl, Nat.le_of_ble_eq_true rfl⟩ (fun H locs hP hD hS => ?_)
  refine lv_if_ne (tgt := 20) hx hb dX5_tamper_8 (by decide) (fun c => absurd (by decide) c) (fun _ => ?_)
  refine lv_aload_n hx hb dX5_tamper_11 rfl (lv_at hl 0 rfl) ?_
  refine lv_iload_n hx hb dX5_tamper_12 rfl (lv_at hl 2 rfl) ?_
  refine lv_iconst (v := (nI 3)) hx hb dX5_tamper_13 (by decide) ?_
  refine kq_cV (st1 := [.int (nI 0), .ref (ad 0)]) ⟨hx, hb, hml, hown, hts⟩ (r_out_in u (by omega) (by omega)) (cwV 2 hts gX5_109_X5_out rfl rfl rfl (by decide +kernel) ⟨Nat.le_of_ble_eq_true rfl, Nat.le_of_ble_eq_true rfl⟩) kq_okT hK hP hD hA hG hS (va_recv hK hP (ci := 5) (q0 := 0) rfl (tm_at (i := 0) (by omega) rfl)) rfl hl.1 rfl rfl (Nat.le_of_ble_eq_true rfl) dX5_tamper_14 ⟨Nat.le_of_ble_eq_true rfl, Nat.le_of_ble_eq_true rfl⟩ (fun H locs hP hD hS => ?_)
  refine lv_if_eq (tgt := 24) hx hb dX5_tamper_17 (by decide) (fun _ => ?_) (fun c => absurd (by decide) c)
  refine lv_aload_n hx hb dX5_tamper_24 rfl (lv_at hl 0 rfl) ?_
  refine tr_g_there hx hb hts inB_X5 hown hK hP (hts _ mb_643) dX5_tamper_25 ?_
  refine lv_iload_n hx hb dX5_tamper_28 rfl (lv_at hl 1 rfl) ?_
  refine tr_l_there hx hb hK hP (by omega) dX5_tamper_29 ?_
  refine lv_if_ne (tgt := 37) hx hb dX5_tamper_30 (by decide) (fun c => absurd hm c) (fun _ => ?_)
  refine lv_iconst (v := (nI 2)) hx hb dX5_tamper_33 (by decide) ?_
  refine lv_goto (tgt := 38) hx hb dX5_tamper_34 (by decide) ?_
  refine tr_p_thrown hx hb hts inB_X5 hown hK hP hD hS (hts _ mb_652) dX5_tamper_38 (fun H locs hP hD hS => ?_)
  refine lv_aload_n hx hb dX5_tamper_41 rfl (lv_at hl 0 rfl) ?_
  refine tr_g_thrown hx hb hts inB_X5 hown hK hP (hts _ mb_652) dX5_tamper_42 ?_
  refine kq_ti (y := (nI 2)) (by simp [tm_L, tm_I, tm_D]) ?_
  refine lv_if_ne (tgt := 62) hx hb dX5_tamper_45 (by decide) (fun _ => ?_) (fun c => absurd c (by decide))
  exact kq_vret hx hb hr hlk hP hD hS dX5_tamper_62
set_option maxHeartbeats 4000000 in
set_option maxRecDepth 100000 in
theorem p_tamper_ok (u : tm_S) {j i : Nat} (hj : j < 8) (hi : i < 4) (v : Int64) (hm : ¬ u.2.1 3 j = 0) : kr_M l dC dI ad cc yX5_tamper wsX5_tamper { frames := 1, cells := 0, slots := 0, locals := 22 } [.ref (ad 0), .int (nI j), .int (nI i), .long v] u (tm_L (tm_I u 14 0 (nI 0)) 5 (4 * j + i) ((u.1 5 (4 * j + i)) ^^^ v)) none := by
  refine kq_ofW (cc := cX5_tamper) (maxL := 5) (ret := none) (R0 := RX5) (by decide) rfl rfl (Nat.le_of_ble_eq_true rfl) ?_
  intro p e s m below meth c A ls hx hb hr hlk hml hown hts hP hK hD hA hG hS hl
  have hl : lv_has ls 5 [(0, .ref (ad 0)), (1, .int (nI j)), (2, .int (nI i)), (3, .long v)] := hl
  refine lv_aload_n hx hb dX5_tamper_0 rfl (lv_at hl 0 rfl) ?_
  refine lv_aload_n hx hb dX5_tamper_1 rfl (lv_at hl 0 rfl) ?_
  refine lv_iload_n hx hb dX5_tamper_2 rfl (lv_at hl 1 rfl) ?_
  refine lv_bipush (v := (nI 7)) hx hb dX5_tamper_3 (by decide) ?_
  refine kq_cV (st1 := [.int (nI 0), .ref (ad 0)]) ⟨hx, hb, hml, hown, hts⟩ (r_out_in u (by omega) (by omega)) (cwV 2 hts gX5_109_X5_out rfl rfl rfl (by decide +kernel) ⟨Nat.le_of_ble_eq_true rfl, Nat.le_of_ble_eq_true rfl⟩) kq_okT hK hP hD hA hG hS (va_recv hK hP (ci := 5) (q0 := 0) rfl (tm_at (i := 0) (by omega) rfl)) rfl hl.1 rfl rfl (Nat.le_of_ble_eq_true rfl) dX5_tamper_5 ⟨Nat.le_of_ble_eq_true rfl, Nat.le_of_ble_eq_true rfl⟩ (fun H locs hP hD hS => ?_)
  refine lv_if_ne (tgt := 20) hx hb dX5_tamper_8 (by decide) (fun c => absurd (by decide) c) (fun _ => ?_)
  refine lv_aload_n hx hb dX5_tamper_11 rfl (lv_at hl 0 rfl) ?_
  refine lv_iload_n hx hb dX5_tamper_12 rfl (lv_at hl 2 rfl) ?_
  refine lv_iconst (v := (nI 3)) hx hb dX5_tamper_13 (by decide) ?_
  refine kq_cV (st1 := [.int (nI 0), .ref (ad 0)]) ⟨hx, hb, hml, hown, hts⟩ (r_out_in u (by omega) (by omega)) (cwV 2 hts gX5_109_X5_out rfl rfl rfl (by decide +kernel) ⟨Nat.le_of_ble_eq_true rfl, Nat.le_of_ble_eq_true rfl⟩) kq_okT hK hP hD hA hG hS (va_recv hK hP (ci := 5) (q0 := 0) rfl (tm_at (i := 0) (by omega) rfl)) rfl hl.1 rfl rfl (Nat.le_of_ble_eq_true rfl) dX5_tamper_14 ⟨Nat.le_of_ble_eq_true rfl, Nat.le_of_ble_eq_true rfl⟩ (fun H locs hP hD hS => ?_)
  refine lv_if_eq (tgt := 24) hx hb dX5_tamper_17 (by decide) (fun _ => ?_) (fun c => absurd (by decide) c)
  refine lv_aload_n hx hb dX5_tamper_24 rfl (lv_at hl 0 rfl) ?_
  refine tr_g_there hx hb hts inB_X5 hown hK hP (hts _ mb_643) dX5_tamper_25 ?_
  refine lv_iload_n hx hb dX5_tamper_28 rfl (lv_at hl 1 rfl) ?_
  refine tr_l_there hx hb hK hP (by omega) dX5_tamper_29 ?_
  refine lv_if_ne (tgt := 37) hx hb dX5_tamper_30 (by decide) (fun _ => ?_) (fun c => absurd c hm)
  refine lv_iconst (v := (nI 0)) hx hb dX5_tamper_37 (by decide) ?_
  refine tr_p_thrown hx hb hts inB_X5 hown hK hP hD hS (hts _ mb_652) dX5_tamper_38 (fun H locs hP hD hS => ?_)
  refine lv_aload_n hx hb dX5_tamper_41 rfl (lv_at hl 0 rfl) ?_
  refine tr_g_thrown hx hb hts inB_X5 hown hK hP (hts _ mb_652) dX5_tamper_42 ?_
  refine kq_ti (y := (nI 0)) (by simp [tm_L, tm_I, tm_D]) ?_
  refine lv_if_ne (tgt := 62) hx hb dX5_tamper_45 (by decide) (fun c => absurd (by decide) c) (fun _ => ?_)
  refine lv_aload_n hx hb dX5_tamper_48 rfl (lv_at hl 0 rfl) ?_
  refine tr_g_blob hx hb hts inB_X5 hown hK hP (hts _ mb_633) dX5_tamper_49 ?_
  refine lv_iload_n hx hb dX5_tamper_52 rfl (lv_at hl 1 rfl) ?_
  refine lv_iconst (v := (nI 4)) hx hb dX5_tamper_53 (by decide) ?_
  refine lv_imul hx hb dX5_tamper_54 ?_
  refine kq_ti (y := (nI (4 * j))) (by rw [pk_mul, Nat.mul_comm]) ?_
  refine lv_iload_n hx hb dX5_tamper_55 rfl (lv_at hl 2 rfl) ?_
  refine lv_iadd hx hb dX5_tamper_56 ?_
  refine kq_ti (y := (nI (4 * j + i))) (nI_add (4 * j) i) ?_
  refine lv_dup2_11 hx hb dX5_tamper_57 rfl rfl ?_
  refine tr_l_blob hx hb hK hP (by omega) dX5_tamper_58 ?_
  refine kq_tl (y := (u.1 5 (4 * j + i))) (by simp [tm_L, tm_I, tm_D]) ?_
  refine lv_lload_n hx hb dX5_tamper_59 rfl (lv_at hl 3 rfl) ?_
  refine lv_lxor hx hb dX5_tamper_60 ?_
  refine tr_t_blob hx hb hK hP hD hS (by omega) dX5_tamper_61 (fun H locs hP hD hS => ?_)
  exact kq_vret hx hb hr hlk hP hD hS dX5_tamper_62
set_option maxHeartbeats 4000000 in
set_option maxRecDepth 100000 in
theorem p_flush_b1 (u : tm_S) (x : Int32) (h : x < 0 ∨ ¬ x ≤ nI 3)  : kr_M l dC dI ad cc yX5_flush wsX5_flush { frames := 1, cells := 0, slots := 0, locals := 22 } [.ref (ad 0), .int x] u (tm_I u 14 0 (nI 1)) none := by
  refine kq_ofW (cc := cX5_flush) (maxL := 2) (ret := none) (R0 := RX5) (by decide) rfl rfl (Nat.le_of_ble_eq_true rfl) ?_
  intro p e s m below meth c A ls hx hb hr hlk hml hown hts hP hK hD hA hG hS hl
  have hl : lv_has ls 2 [(0, .ref (ad 0)), (1, .int x)] := hl
  refine lv_aload_n hx hb dX5_flush_0 rfl (lv_at hl 0 rfl) ?_
  refine lv_aload_n hx hb dX5_flush_1 rfl (lv_at hl 0 rfl) ?_
  refine lv_iload_n hx hb dX5_flush_2 rfl (lv_at hl 1 rfl) ?_
  refine lv_iconst (v := (nI 3)) hx hb dX5_flush_3 (by decide) ?_
  refine kq_cV (st1 := [.int (nI 1), .ref (ad 0)]) ⟨hx, hb, hml, hown, hts⟩ (r_out_no u h) (cwV 2 hts gX5_109_X5_out rfl rfl rfl (by decide +kernel) ⟨Nat.le_of_ble_eq_true rfl, Nat.le_of_ble_eq_true rfl⟩) kq_okT hK hP hD hA hG hS (va_recv hK hP (ci := 5) (q0 := 0) rfl (tm_at (i := 0) (by omega) rfl)) rfl hl.1 rfl rfl (Nat.le_of_ble_eq_true rfl) dX5_flush_4 ⟨Nat.le_of_ble_eq_true rfl, Nat.le_of_ble_eq_true rfl⟩ (fun H locs hP hD hS => ?_)
  refine kq_cV (st1 := [.int (nI 0)]) ⟨hx, hb, hml, hown, hts⟩ (r_begin_bad u) (cwV 1 hts gX5_113_X5_begin rfl rfl rfl (by decide +kernel) ⟨Nat.le_of_ble_eq_true rfl, Nat.le_of_ble_eq_true rfl⟩) kq_okT hK hP hD hA hG hS (va_recv hK hP (ci := 5) (q0 := 0) rfl (tm_at (i := 0) (by omega) rfl)) rfl hl.1 rfl rfl (Nat.le_of_ble_eq_true rfl) dX5_flush_7 ⟨Nat.le_of_ble_eq_true rfl, Nat.le_of_ble_eq_true rfl⟩ (fun H locs hP hD hS => ?_)
  refine lv_if_ne (tgt := 14) hx hb dX5_flush_10 (by decide) (fun c => absurd (by decide) c) (fun _ => ?_)
  exact kq_vret hx hb hr hlk hP hD hS dX5_flush_13
set_option maxHeartbeats 4000000 in
set_option maxRecDepth 100000 in
theorem p_flush_lo (u : tm_S) {j : Nat} (hj : j < 4) (hlo : ¬ u.2.1 11 0 = 0)  : kr_M l dC dI ad cc yX5_flush wsX5_flush { frames := 1, cells := 0, slots := 0, locals := 22 } [.ref (ad 0), .int (nI j)] u (tm_I u 14 0 (nI 2)) none := by
  refine kq_ofW (cc := cX5_flush) (maxL := 2) (ret := none) (R0 := RX5) (by decide) rfl rfl (Nat.le_of_ble_eq_true rfl) ?_
  intro p e s m below meth c A ls hx hb hr hlk hml hown hts hP hK hD hA hG hS hl
  have hl : lv_has ls 2 [(0, .ref (ad 0)), (1, .int (nI j))] := hl
  refine lv_aload_n hx hb dX5_flush_0 rfl (lv_at hl 0 rfl) ?_
  refine lv_aload_n hx hb dX5_flush_1 rfl (lv_at hl 0 rfl) ?_
  refine lv_iload_n hx hb dX5_flush_2 rfl (lv_at hl 1 rfl) ?_
  refine lv_iconst (v := (nI 3)) hx hb dX5_flush_3 (by decide) ?_
  refine kq_cV (st1 := [.int (nI 0), .ref (ad 0)]) ⟨hx, hb, hml, hown, hts⟩ (r_out_in u (by omega) (by omega)) (cwV 2 hts gX5_109_X5_out rfl rfl rfl (by decide +kernel) ⟨Nat.le_of_ble_eq_true rfl, Nat.le_of_ble_eq_true rfl⟩) kq_okT hK hP hD hA hG hS (va_recv hK hP (ci := 5) (q0 := 0) rfl (tm_at (i := 0) (by omega) rfl)) rfl hl.1 rfl rfl (Nat.le_of_ble_eq_true rfl) dX5_flush_4 ⟨Nat.le_of_ble_eq_true rfl, Nat.le_of_ble_eq_true rfl⟩ (fun H locs hP hD hS => ?_)
  refine kq_cV (st1 := [.int (nI 0)]) ⟨hx, hb, hml, hown, hts⟩ (r_begin_lost u hlo) (cwV 1 hts gX5_113_X5_begin rfl rfl rfl (by decide +kernel) ⟨Nat.le_of_ble_eq_true rfl, Nat.le_of_ble_eq_true rfl⟩) kq_okT hK hP hD hA hG hS (va_recv hK hP (ci := 5) (q0 := 0) rfl (tm_at (i := 0) (by omega) rfl)) rfl hl.1 rfl rfl (Nat.le_of_ble_eq_true rfl) dX5_flush_7 ⟨Nat.le_of_ble_eq_true rfl, Nat.le_of_ble_eq_true rfl⟩ (fun H locs hP hD hS => ?_)
  refine lv_if_ne (tgt := 14) hx hb dX5_flush_10 (by decide) (fun c => absurd (by decide) c) (fun _ => ?_)
  exact kq_vret hx hb hr hlk hP hD hS dX5_flush_13
set_option maxHeartbeats 4000000 in
set_option maxRecDepth 100000 in
theorem p_flush_free (u : tm_S) {j : Nat} (hj : j < 4) (hnl : u.2.1 11 0 = 0) (hh : u.2.1 0 j = 0) : kr_M l dC dI ad cc yX5_flush wsX5_flush { frames := 1, cells := 0, slots := 0, locals := 22 } [.ref (ad 0), .int (nI j)] u (tm_I (tm_I u 14 0 (nI 0)) 14 0 (nI 3)) none := by
  refine kq_ofW (cc := cX5_flush) (maxL := 2) (ret := none) (R0 := RX5) (by decide) rfl rfl (Nat.le_of_ble_eq_true rfl) ?_
  intro p e s m below meth c A ls hx hb hr hlk hml hown hts hP hK hD hA hG hS hl
  have hl : lv_has ls 2 [(0, .ref (ad 0)), (1, .int (nI j))] := hl
  refine lv_aload_n hx hb dX5_flush_0 rfl (lv_at hl 0 rfl) ?_
  refine lv_aload_n hx hb dX5_flush_1 rfl (lv_at hl 0 rfl) ?_
  refine lv_iload_n hx hb dX5_flush_2 rfl (lv_at hl 1 rfl) ?_
  refine lv_iconst (v := (nI 3)) hx hb dX5_flush_3 (by decide) ?_
  refine kq_cV (st1 := [.int (nI 0), .ref (ad 0)]) ⟨hx, hb, hml, hown, hts⟩ (r_out_in u (by omega) (by omega)) (cwV 2 hts gX5_109_X5_out rfl rfl rfl (by decide +kernel) ⟨Nat.le_of_ble_eq_true rfl, Nat.le_of_ble_eq_true rfl⟩) kq_okT hK hP hD hA hG hS (va_recv hK hP (ci := 5) (q0 := 0) rfl (tm_at (i := 0) (by omega) rfl)) rfl hl.1 rfl rfl (Nat.le_of_ble_eq_true rfl) dX5_flush_4 ⟨Nat.le_of_ble_eq_true rfl, Nat.le_of_ble_eq_true rfl⟩ (fun H locs hP hD hS => ?_)
  refine kq_cV (st1 := [.int (nI 1)]) ⟨hx, hb, hml, hown, hts⟩ (r_begin_ok u hnl) (cwV 1 hts gX5_113_X5_begin rfl rfl rfl (by decide +kernel) ⟨Nat.le_of_ble_eq_true rfl, Nat.le_of_ble_eq_true rfl⟩) kq_okT hK hP hD hA hG hS (va_recv hK hP (ci := 5) (q0 := 0) rfl (tm_at (i := 0) (by omega) rfl)) rfl hl.1 rfl rfl (Nat.le_of_ble_eq_true rfl) dX5_flush_7 ⟨Nat.le_of_ble_eq_true rfl, Nat.le_of_ble_eq_true rfl⟩ (fun H locs hP hD hS => ?_)
  refine lv_if_ne (tgt := 14) hx hb dX5_flush_10 (by decide) (fun _ => ?_) (fun c => absurd c (by decide))
  refine lv_aload_n hx hb dX5_flush_14 rfl (lv_at hl 0 rfl) ?_
  refine tr_g_used hx hb hts inB_X5 hown hK hP (hts _ mb_641) dX5_flush_15 ?_
  refine lv_iload_n hx hb dX5_flush_18 rfl (lv_at hl 1 rfl) ?_
  refine tr_l_used hx hb hK hP (by omega) dX5_flush_19 ?_
  refine kq_ti (y := (u.2.1 0 j)) (by simp [tm_L, tm_I, tm_D]) ?_
  refine lv_if_ne (tgt := 31) hx hb dX5_flush_20 (by decide) (fun c => absurd hh c) (fun _ => ?_)
  refine lv_aload_n hx hb dX5_flush_23 rfl (lv_at hl 0 rfl) ?_
  refine lv_iconst (v := (nI 3)) hx hb dX5_flush_24 (by decide) ?_
  refine tr_p_thrown hx hb hts inB_X5 hown hK hP hD hS (hts _ mb_652) dX5_flush_25 (fun H locs hP hD hS => ?_)
  refine lv_goto (tgt := 38) hx hb dX5_flush_28 (by decide) ?_
  exact kq_vret hx hb hr hlk hP hD hS dX5_flush_38
set_option maxHeartbeats 4000000 in
set_option maxRecDepth 100000 in
theorem p_flush_ok (u : tm_S) {j : Nat} (hj : j < 4) (hnl : u.2.1 11 0 = 0) (hh : ¬ u.2.1 0 j = 0)  : kr_M l dC dI ad cc yX5_flush wsX5_flush { frames := 1, cells := 0, slots := 0, locals := 22 } [.ref (ad 0), .int (nI j)] u (tm_I (tm_I u 14 0 (nI 0)) 0 j (nI 0)) none := by
  refine kq_ofW (cc := cX5_flush) (maxL := 2) (ret := none) (R0 := RX5) (by decide) rfl rfl (Nat.le_of_ble_eq_true rfl) ?_
  intro p e s m below meth c A ls hx hb hr hlk hml hown hts hP hK hD hA hG hS hl
  have hl : lv_has ls 2 [(0, .ref (ad 0)), (1, .int (nI j))] := hl
  refine lv_aload_n hx hb dX5_flush_0 rfl (lv_at hl 0 rfl) ?_
  refine lv_aload_n hx hb dX5_flush_1 rfl (lv_at hl 0 rfl) ?_
  refine lv_iload_n hx hb dX5_flush_2 rfl (lv_at hl 1 rfl) ?_
  refine lv_iconst (v := (nI 3)) hx hb dX5_flush_3 (by decide) ?_
  refine kq_cV (st1 := [.int (nI 0), .ref (ad 0)]) ⟨hx, hb, hml, hown, hts⟩ (r_out_in u (by omega) (by omega)) (cwV 2 hts gX5_109_X5_out rfl rfl rfl (by decide +kernel) ⟨Nat.le_of_ble_eq_true rfl, Nat.le_of_ble_eq_true rfl⟩) kq_okT hK hP hD hA hG hS (va_recv hK hP (ci := 5) (q0 := 0) rfl (tm_at (i := 0) (by omega) rfl)) rfl hl.1 rfl rfl (Nat.le_of_ble_eq_true rfl) dX5_flush_4 ⟨Nat.le_of_ble_eq_true rfl, Nat.le_of_ble_eq_true rfl⟩ (fun H locs hP hD hS => ?_)
  refine kq_cV (st1 := [.int (nI 1)]) ⟨hx, hb, hml, hown, hts⟩ (r_begin_ok u hnl) (cwV 1 hts gX5_113_X5_begin rfl rfl rfl (by decide +kernel) ⟨Nat.le_of_ble_eq_true rfl, Nat.le_of_ble_eq_true rfl⟩) kq_okT hK hP hD hA hG hS (va_recv hK hP (ci := 5) (q0 := 0) rfl (tm_at (i := 0) (by omega) rfl)) rfl hl.1 rfl rfl (Nat.le_of_ble_eq_true rfl) dX5_flush_7 ⟨Nat.le_of_ble_eq_true rfl, Nat.le_of_ble_eq_true rfl⟩ (fun H locs hP hD hS => ?_)
  refine lv_if_ne (tgt := 14) hx hb dX5_flush_10 (by decide) (fun _ => ?_) (fun c => absurd c (by decide))
  refine lv_aload_n hx hb dX5_flush_14 rfl (lv_at hl 0 rfl) ?_
  refine tr_g_used hx hb hts inB_X5 hown hK hP (hts _ mb_641) dX5_flush_15 ?_
  refine lv_iload_n hx hb dX5_flush_18 rfl (lv_at hl 1 rfl) ?_
  refine tr_l_used hx hb hK hP (by omega) dX5_flush_19 ?_
  refine kq_ti (y := (u.2.1 0 j)) (by simp [tm_L, tm_I, tm_D]) ?_
  refine lv_if_ne (tgt := 31) hx hb dX5_flush_20 (by decide) (fun _ => ?_) (fun c => absurd c hh)
  refine lv_aload_n hx hb dX5_flush_31 rfl (lv_at hl 0 rfl) ?_
  refine tr_g_used hx hb hts inB_X5 hown hK hP (hts _ mb_641) dX5_flush_32 ?_
  refine lv_iload_n hx hb dX5_flush_35 rfl (lv_at hl 1 rfl) ?_
  refine lv_iconst (v := (nI 0)) hx hb dX5_flush_36 (by decide) ?_
  refine tr_t_used hx hb hK hP hD hS (by omega) (by first | rfl | decide) dX5_flush_37 (fun H locs hP hD hS => ?_)
  exact kq_vret hx hb hr hlk hP hD hS dX5_flush_38
set_option maxHeartbeats 4000000 in
set_option maxRecDepth 100000 in
theorem p_open_b1 (u : tm_S) (x : Int32) (h : x < 0 ∨ ¬ x ≤ nI 3) (wd : Int32)  : kr_M l dC dI ad cc yX5_open wsX5_open { frames := 1, cells := 0, slots := 0, locals := 22 } [.ref (ad 0), .int x, .int wd] u (tm_I u 14 0 (nI 1)) (some (.long 0)) := by
  refine kq_ofW (cc := cX5_open) (maxL := 3) (ret := (some .long)) (R0 := RX5) (by decide) rfl rfl (Nat.le_of_ble_eq_true rfl) ?_
  intro p e s m below meth c A ls hx hb hr hlk hml hown hts hP hK hD hA hG hS hl
  have hl : lv_has ls 3 [(0, .ref (ad 0)), (1, .int x), (2, .int wd)] := hl
  refine lv_aload_n hx hb dX5_open_0 rfl (lv_at hl 0 rfl) ?_
  refine lv_aload_n hx hb dX5_open_1 rfl (lv_at hl 0 rfl) ?_
  refine lv_iload_n hx hb dX5_open_2 rfl (lv_at hl 1 rfl) ?_
  refine lv_iconst (v := (nI 3)) hx hb dX5_open_3 (by decide) ?_
  refine kq_cV (st1 := [.int (nI 1), .ref (ad 0)]) ⟨hx, hb, hml, hown, hts⟩ (r_out_no u h) (cwV 2 hts gX5_109_X5_out rfl rfl rfl (by decide +kernel) ⟨Nat.le_of_ble_eq_true rfl, Nat.le_of_ble_eq_true rfl⟩) kq_okT hK hP hD hA hG hS (va_recv hK hP (ci := 5) (q0 := 0) rfl (tm_at (i := 0) (by omega) rfl)) rfl hl.1 rfl rfl (Nat.le_of_ble_eq_true rfl) dX5_open_4 ⟨Nat.le_of_ble_eq_true rfl, Nat.le_of_ble_eq_true rfl⟩ (fun H locs hP hD hS => ?_)
  refine kq_cV (st1 := [.int (nI 0)]) ⟨hx, hb, hml, hown, hts⟩ (r_begin_bad u) (cwV 1 hts gX5_113_X5_begin rfl rfl rfl (by decide +kernel) ⟨Nat.le_of_ble_eq_true rfl, Nat.le_of_ble_eq_true rfl⟩) kq_okT hK hP hD hA hG hS (va_recv hK hP (ci := 5) (q0 := 0) rfl (tm_at (i := 0) (by omega) rfl)) rfl hl.1 rfl rfl (Nat.le_of_ble_eq_true rfl) dX5_open_7 ⟨Nat.le_of_ble_eq_true rfl, Nat.le_of_ble_eq_true rfl⟩ (fun H locs hP hD hS => ?_)
  refine lv_if_ne (tgt := 15) hx hb dX5_open_10 (by decide) (fun c => absurd (by decide) c) (fun _ => ?_)
  refine lv_lconst (v := 0) hx hb dX5_open_13 (by decide) ?_
  exact kq_lret hx hb hr hlk hP hD hS dX5_open_14
set_option maxHeartbeats 4000000 in
set_option maxRecDepth 100000 in
theorem p_open_lo (u : tm_S) {j : Nat} (hj : j < 4) (wd : Int32) (hlo : ¬ u.2.1 11 0 = 0)  : kr_M l dC dI ad cc yX5_open wsX5_open { frames := 1, cells := 0, slots := 0, locals := 22 } [.ref (ad 0), .int (nI j), .int wd] u (tm_I u 14 0 (nI 2)) (some (.long 0)) := by
  refine kq_ofW (cc := cX5_open) (maxL := 3) (ret := (some .long)) (R0 := RX5) (by decide) rfl rfl (Nat.le_of_ble_eq_true rfl) ?_
  intro p e s m below meth c A ls hx hb hr hlk hml hown hts hP hK hD hA hG hS hl
  have hl : lv_has ls 3 [(0, .ref (ad 0)), (1, .int (nI j)), (2, .int wd)] := hl
  refine lv_aload_n hx hb dX5_open_0 rfl (lv_at hl 0 rfl) ?_
  refine lv_aload_n hx hb dX5_open_1 rfl (lv_at hl 0 rfl) ?_
  refine lv_iload_n hx hb dX5_open_2 rfl (lv_at hl 1 rfl) ?_
  refine lv_iconst (v := (nI 3)) hx hb dX5_open_3 (by decide) ?_
  refine kq_cV (st1 := [.int (nI 0), .ref (ad 0)]) ⟨hx, hb, hml, hown, hts⟩ (r_out_in u (by omega) (by omega)) (cwV 2 hts gX5_109_X5_out rfl rfl rfl (by decide +kernel) ⟨Nat.le_of_ble_eq_true rfl, Nat.le_of_ble_eq_true rfl⟩) kq_okT hK hP hD hA hG hS (va_recv hK hP (ci := 5) (q0 := 0) rfl (tm_at (i := 0) (by omega) rfl)) rfl hl.1 rfl rfl (Nat.le_of_ble_eq_true rfl) dX5_open_4 ⟨Nat.le_of_ble_eq_true rfl, Nat.le_of_ble_eq_true rfl⟩ (fun H locs hP hD hS => ?_)
  refine kq_cV (st1 := [.int (nI 0)]) ⟨hx, hb, hml, hown, hts⟩ (r_begin_lost u hlo) (cwV 1 hts gX5_113_X5_begin rfl rfl rfl (by decide +kernel) ⟨Nat.le_of_ble_eq_true rfl, Nat.le_of_ble_eq_true rfl⟩) kq_okT hK hP hD hA hG hS (va_recv hK hP (ci := 5) (q0 := 0) rfl (tm_at (i := 0) (by omega) rfl)) rfl hl.1 rfl rfl (Nat.le_of_ble_eq_true rfl) dX5_open_7 ⟨Nat.le_of_ble_eq_true rfl, Nat.le_of_ble_eq_true rfl⟩ (fun H locs hP hD hS => ?_)
  refine lv_if_ne (tgt := 15) hx hb dX5_open_10 (by decide) (fun c => absurd (by decide) c) (fun _ => ?_)
  refine lv_lconst (v := 0) hx hb dX5_open_13 (by decide) ?_
  exact kq_lret hx hb hr hlk hP hD hS dX5_open_14
set_option maxHeartbeats 4000000 in
set_option maxRecDepth 100000 in
theorem p_open_free (u : tm_S) {j : Nat} (hj : j < 4) (wd : Int32) (hnl : u.2.1 11 0 = 0) (hh : u.2.1 0 j = 0) : kr_M l dC dI ad cc yX5_open wsX5_open { frames := 1, cells := 0, slots := 0, locals := 22 } [.ref (ad 0), .int (nI j), .int wd] u (tm_I (tm_I u 14 0 (nI 0)) 14 0 (nI 3)) (some (.long 0)) := by
  refine kq_ofW (cc := cX5_open) (maxL := 3) (ret := (some .long)) (R0 := RX5) (by decide) rfl rfl (Nat.le_of_ble_eq_true rfl) ?_
  intro p e s m below meth c A ls hx hb hr hlk hml hown hts hP hK hD hA hG hS hl
  have hl : lv_has ls 3 [(0, .ref (ad 0)), (1, .int (nI j)), (2, .int wd)] := hl
  refine lv_aload_n hx hb dX5_open_0 rfl (lv_at hl 0 rfl) ?_
  refine lv_aload_n hx hb dX5_open_1 rfl (lv_at hl 0 rfl) ?_
  refine lv_iload_n hx hb dX5_open_2 rfl (lv_at hl 1 rfl) ?_
  refine lv_iconst (v := (nI 3)) hx hb dX5_open_3 (by decide) ?_
  refine kq_cV (st1 := [.int (nI 0), .ref (ad 0)]) ⟨hx, hb, hml, hown, hts⟩ (r_out_in u (by omega) (by omega)) (cwV 2 hts gX5_109_X5_out rfl rfl rfl (by decide +kernel) ⟨Nat.le_of_ble_eq_true rfl, Nat.le_of_ble_eq_true rfl⟩) kq_okT hK hP hD hA hG hS (va_recv hK hP (ci := 5) (q0 := 0) rfl (tm_at (i := 0) (by omega) rfl)) rfl hl.1 rfl rfl (Nat.le_of_ble_eq_true rfl) dX5_open_4 ⟨Nat.le_of_ble_eq_true rfl, Nat.le_of_ble_eq_true rfl⟩ (fun H locs hP hD hS => ?_)
  refine kq_cV (st1 := [.int (nI 1)]) ⟨hx, hb, hml, hown, hts⟩ (r_begin_ok u hnl) (cwV 1 hts gX5_113_X5_begin rfl rfl rfl (by decide +kernel) ⟨Nat.le_of_ble_eq_true rfl, Nat.le_of_ble_eq_true rfl⟩) kq_okT hK hP hD hA hG hS (va_recv hK hP (ci := 5) (q0 := 0) rfl (tm_at (i := 0) (by omega) rfl)) rfl hl.1 rfl rfl (Nat.le_of_ble_eq_true rfl) dX5_open_7 ⟨Nat.le_of_ble_eq_true rfl, Nat.le_of_ble_eq_true rfl⟩ (fun H locs hP hD hS => ?_)
  refine lv_if_ne (tgt := 15) hx hb dX5_open_10 (by decide) (fun _ => ?_) (fun c => absurd c (by decide))
  refine lv_aload_n hx hb dX5_open_15 rfl (lv_at hl 0 rfl) ?_
  refine lv_aload_n hx hb dX5_open_16 rfl (lv_at hl 0 rfl) ?_
  refine tr_g_used hx hb hts inB_X5 hown hK hP (hts _ mb_641) dX5_open_17 ?_
  refine lv_iload_n hx hb dX5_open_20 rfl (lv_at hl 1 rfl) ?_
  refine tr_l_used hx hb hK hP (by omega) dX5_open_21 ?_
  refine kq_ti (y := (u.2.1 0 j)) (by simp [tm_L, tm_I, tm_D]) ?_
  refine lv_if_ne (tgt := 29) hx hb dX5_open_22 (by decide) (fun c => absurd hh c) (fun _ => ?_)
  refine lv_iconst (v := (nI 3)) hx hb dX5_open_25 (by decide) ?_
  refine lv_goto (tgt := 35) hx hb dX5_open_26 (by decide) ?_
  refine tr_p_thrown hx hb hts inB_X5 hown hK hP hD hS (hts _ mb_652) dX5_open_35 (fun H locs hP hD hS => ?_)
  refine lv_aload_n hx hb dX5_open_38 rfl (lv_at hl 0 rfl) ?_
  refine tr_g_thrown hx hb hts inB_X5 hown hK hP (hts _ mb_652) dX5_open_39 ?_
  refine kq_ti (y := (nI 3)) (by simp [tm_L, tm_I, tm_D]) ?_
  refine lv_if_ne (tgt := 54) hx hb dX5_open_42 (by decide) (fun _ => ?_) (fun c => absurd c (by decide))
  refine lv_lconst (v := 0) hx hb dX5_open_54 (by decide) ?_
  exact kq_lret hx hb hr hlk hP hD hS dX5_open_55
set_option maxHeartbeats 4000000 in
set_option maxRecDepth 100000 in
theorem p_open_w0 (u : tm_S) {j : Nat} (hj : j < 4) (wd : Int32) (hnl : u.2.1 11 0 = 0) (hh : ¬ u.2.1 0 j = 0) (hw : u.2.1 1 j = 0) : kr_M l dC dI ad cc yX5_open wsX5_open { frames := 1, cells := 0, slots := 0, locals := 22 } [.ref (ad 0), .int (nI j), .int wd] u (tm_I (tm_I u 14 0 (nI 0)) 14 0 (nI 0)) (some (.long (u.1 4 j))) := by
  refine kq_ofW (cc := cX5_open) (maxL := 3) (ret := (some .long)) (R0 := RX5) (by decide) rfl rfl (Nat.le_of_ble_eq_true rfl) ?_
  intro p e s m below meth c A ls hx hb hr hlk hml hown hts hP hK hD hA hG hS hl
  have hl : lv_has ls 3 [(0, .ref (ad 0)), (1, .int (nI j)), (2, .int wd)] := hl
  refine lv_aload_n hx hb dX5_open_0 rfl (lv_at hl 0 rfl) ?_
  refine lv_aload_n hx hb dX5_open_1 rfl (lv_at hl 0 rfl) ?_
  refine lv_iload_n hx hb dX5_open_2 rfl (lv_at hl 1 rfl) ?_
  refine lv_iconst (v := (nI 3)) hx hb dX5_open_3 (by decide) ?_
  refine kq_cV (st1 := [.int (nI 0), .ref (ad 0)]) ⟨hx, hb, hml, hown, hts⟩ (r_out_in u (by omega) (by omega)) (cwV 2 hts gX5_109_X5_out rfl rfl rfl (by decide +kernel) ⟨Nat.le_of_ble_eq_true rfl, Nat.le_of_ble_eq_true rfl⟩) kq_okT hK hP hD hA hG hS (va_recv hK hP (ci := 5) (q0 := 0) rfl (tm_at (i := 0) (by omega) rfl)) rfl hl.1 rfl rfl (Nat.le_of_ble_eq_true rfl) dX5_open_4 ⟨Nat.le_of_ble_eq_true rfl, Nat.le_of_ble_eq_true rfl⟩ (fun H locs hP hD hS => ?_)
  refine kq_cV (st1 := [.int (nI 1)]) ⟨hx, hb, hml, hown, hts⟩ (r_begin_ok u hnl) (cwV 1 hts gX5_113_X5_begin rfl rfl rfl (by decide +kernel) ⟨Nat.le_of_ble_eq_true rfl, Nat.le_of_ble_eq_true rfl⟩) kq_okT hK hP hD hA hG hS (va_recv hK hP (ci := 5) (q0 := 0) rfl (tm_at (i := 0) (by omega) rfl)) rfl hl.1 rfl rfl (Nat.le_of_ble_eq_true rfl) dX5_open_7 ⟨Nat.le_of_ble_eq_true rfl, Nat.le_of_ble_eq_true rfl⟩ (fun H locs hP hD hS => ?_)
  refine lv_if_ne (tgt := 15) hx hb dX5_open_10 (by decide) (fun _ => ?_) (fun c => absurd c (by decide))
  refine lv_aload_n hx hb dX5_open_15 rfl (lv_at hl 0 rfl) ?_
  refine lv_aload_n hx hb dX5_open_16 rfl (lv_at hl 0 rfl) ?_
  refine tr_g_used hx hb hts inB_X5 hown hK hP (hts _ mb_641) dX5_open_17 ?_
  refine lv_iload_n hx hb dX5_open_20 rfl (lv_at hl 1 rfl) ?_
  refine tr_l_used hx hb hK hP (by omega) dX5_open_21 ?_
  refine kq_ti (y := (u.2.1 0 j)) (by simp [tm_L, tm_I, tm_D]) ?_
  refine lv_if_ne (tgt := 29) hx hb dX5_open_22 (by decide) (fun _ => ?_) (fun c => absurd c hh)
  refine lv_aload_n hx hb dX5_open_29 rfl (lv_at hl 0 rfl) ?_
  refine lv_iload_n hx hb dX5_open_30 rfl (lv_at hl 1 rfl) ?_
  refine lv_iload_n hx hb dX5_open_31 rfl (lv_at hl 2 rfl) ?_
  refine kq_cV (st1 := [.int (nI 0), .ref (ad 0)]) ⟨hx, hb, hml, hown, hts⟩ (r_allowed_0 (tm_I u 14 0 (nI 0)) (k := j) (by omega) wd (by simpa [tm_I] using hw)) (cwV 2 hts gX5_136_X5_allowed rfl rfl rfl (by decide +kernel) ⟨Nat.le_of_ble_eq_true rfl, Nat.le_of_ble_eq_true rfl⟩) kq_okT hK hP hD hA hG hS (va_recv hK hP (ci := 5) (q0 := 0) rfl (tm_at (i := 0) (by omega) rfl)) rfl hl.1 rfl rfl (Nat.le_of_ble_eq_true rfl) dX5_open_32 ⟨Nat.le_of_ble_eq_true rfl, Nat.le_of_ble_eq_true rfl⟩ (fun H locs hP hD hS => ?_)
  refine tr_p_thrown hx hb hts inB_X5 hown hK hP hD hS (hts _ mb_652) dX5_open_35 (fun H locs hP hD hS => ?_)
  refine lv_aload_n hx hb dX5_open_38 rfl (lv_at hl 0 rfl) ?_
  refine tr_g_thrown hx hb hts inB_X5 hown hK hP (hts _ mb_652) dX5_open_39 ?_
  refine kq_ti (y := (nI 0)) (by simp [tm_L, tm_I, tm_D]) ?_
  refine lv_if_ne (tgt := 54) hx hb dX5_open_42 (by decide) (fun c => absurd (by decide) c) (fun _ => ?_)
  refine lv_aload_n hx hb dX5_open_45 rfl (lv_at hl 0 rfl) ?_
  refine tr_g_secret hx hb hts inB_X5 hown hK hP (hts _ mb_638) dX5_open_46 ?_
  refine lv_iload_n hx hb dX5_open_49 rfl (lv_at hl 1 rfl) ?_
  refine tr_l_secret hx hb hK hP (by omega) dX5_open_50 ?_
  refine kq_tl (y := (u.1 4 j)) (by simp [tm_L, tm_I, tm_D]) ?_
  refine lv_goto (tgt := 55) hx hb dX5_open_51 (by decide) ?_
  exact kq_lret hx hb hr hlk hP hD hS dX5_open_55
set_option maxHeartbeats 4000000 in
set_option maxRecDepth 100000 in
theorem p_open_lock (u : tm_S) {j : Nat} (hj : j < 4) (wd : Int32) (hnl : u.2.1 11 0 = 0) (hh : ¬ u.2.1 0 j = 0) (hw : ¬ u.2.1 1 j = 0) (hg : ¬ u.2.1 13 0 < nI 3) : kr_M l dC dI ad cc yX5_open wsX5_open { frames := 1, cells := 0, slots := 0, locals := 22 } [.ref (ad 0), .int (nI j), .int wd] u (tm_I (tm_I u 14 0 (nI 0)) 14 0 (nI 2)) (some (.long 0)) := by
  refine kq_ofW (cc := cX5_open) (maxL := 3) (ret := (some .long)) (R0 := RX5) (by decide) rfl rfl (Nat.le_of_ble_eq_true rfl) ?_
  intro p e s m below meth c A ls hx hb hr hlk hml hown hts hP hK hD hA hG hS hl
  have hl : lv_has ls 3 [(0, .ref (ad 0)), (1, .int (nI j)), (2, .int wd)] := hl
  refine lv_aload_n hx hb dX5_open_0 rfl (lv_at hl 0 rfl) ?_
  refine lv_aload_n hx hb dX5_open_1 rfl (lv_at hl 0 rfl) ?_
  refine lv_iload_n hx hb dX5_open_2 rfl (lv_at hl 1 rfl) ?_
  refine lv_iconst (v := (nI 3)) hx hb dX5_open_3 (by decide) ?_
  refine kq_cV (st1 := [.int (nI 0), .ref (ad 0)]) ⟨hx, hb, hml, hown, hts⟩ (r_out_in u (by omega) (by omega)) (cwV 2 hts gX5_109_X5_out rfl rfl rfl (by decide +kernel) ⟨Nat.le_of_ble_eq_true rfl, Nat.le_of_ble_eq_true rfl⟩) kq_okT hK hP hD hA hG hS (va_recv hK hP (ci := 5) (q0 := 0) rfl (tm_at (i := 0) (by omega) rfl)) rfl hl.1 rfl rfl (Nat.le_of_ble_eq_true rfl) dX5_open_4 ⟨Nat.le_of_ble_eq_true rfl, Nat.le_of_ble_eq_true rfl⟩ (fun H locs hP hD hS => ?_)
  refine kq_cV (st1 := [.int (nI 1)]) ⟨hx, hb, hml, hown, hts⟩ (r_begin_ok u hnl) (cwV 1 hts gX5_113_X5_begin rfl rfl rfl (by decide +kernel) ⟨Nat.le_of_ble_eq_true rfl, Nat.le_of_ble_eq_true rfl⟩) kq_okT hK hP hD hA hG hS (va_recv hK hP (ci := 5) (q0 := 0) rfl (tm_at (i := 0) (by omega) rfl)) rfl hl.1 rfl rfl (Nat.le_of_ble_eq_true rfl) dX5_open_7 ⟨Nat.le_of_ble_eq_true rfl, Nat.le_of_ble_eq_true rfl⟩ (fun H locs hP hD hS => ?_)
  refine lv_if_ne (tgt := 15) hx hb dX5_open_10 (by decide) (fun _ => ?_) (fun c => absurd c (by decide))
  refine lv_aload_n hx hb dX5_open_15 rfl (lv_at hl 0 rfl) ?_
  refine lv_aload_n hx hb dX5_open_16 rfl (lv_at hl 0 rfl) ?_
  refine tr_g_used hx hb hts inB_X5 hown hK hP (hts _ mb_641) dX5_open_17 ?_
  refine lv_iload_n hx hb dX5_open_20 rfl (lv_at hl 1 rfl) ?_
  refine tr_l_used hx hb hK hP (by omega) dX5_open_21 ?_
  refine kq_ti (y := (u.2.1 0 j)) (by simp [tm_L, tm_I, tm_D]) ?_
  refine lv_if_ne (tgt := 29) hx hb dX5_open_22 (by decide) (fun _ => ?_) (fun c => absurd c hh)
  refine lv_aload_n hx hb dX5_open_29 rfl (lv_at hl 0 rfl) ?_
  refine lv_iload_n hx hb dX5_open_30 rfl (lv_at hl 1 rfl) ?_
  refine lv_iload_n hx hb dX5_open_31 rfl (lv_at hl 2 rfl) ?_
  refine kq_cV (st1 := [.int (nI 2), .ref (ad 0)]) ⟨hx, hb, hml, hown, hts⟩ (r_allowed_lock (tm_I u 14 0 (nI 0)) (k := j) (by omega) wd (by simpa [tm_I] using hw) (by simpa [tm_I] using hg)) (cwV 2 hts gX5_136_X5_allowed rfl rfl rfl (by decide +kernel) ⟨Nat.le_of_ble_eq_true rfl, Nat.le_of_ble_eq_true rfl⟩) kq_okT hK hP hD hA hG hS (va_recv hK hP (ci := 5) (q0 := 0) rfl (tm_at (i := 0) (by omega) rfl)) rfl hl.1 rfl rfl (Nat.le_of_ble_eq_true rfl) dX5_open_32 ⟨Nat.le_of_ble_eq_true rfl, Nat.le_of_ble_eq_true rfl⟩ (fun H locs hP hD hS => ?_)
  refine tr_p_thrown hx hb hts inB_X5 hown hK hP hD hS (hts _ mb_652) dX5_open_35 (fun H locs hP hD hS => ?_)
  refine lv_aload_n hx hb dX5_open_38 rfl (lv_at hl 0 rfl) ?_
  refine tr_g_thrown hx hb hts inB_X5 hown hK hP (hts _ mb_652) dX5_open_39 ?_
  refine kq_ti (y := (nI 2)) (by simp [tm_L, tm_I, tm_D]) ?_
  refine lv_if_ne (tgt := 54) hx hb dX5_open_42 (by decide) (fun _ => ?_) (fun c => absurd c (by decide))
  refine lv_lconst (v := 0) hx hb dX5_open_54 (by decide) ?_
  exact kq_lret hx hb hr hlk hP hD hS dX5_open_55
set_option maxHeartbeats 4000000 in
set_option maxRecDepth 100000 in
theorem p_open_wok (u : tm_S) {j : Nat} (hj : j < 4) (wd : Int32) (hnl : u.2.1 11 0 = 0) (hh : ¬ u.2.1 0 j = 0) (hw : ¬ u.2.1 1 j = 0) (hg : u.2.1 13 0 < nI 3) (he : wd = u.2.1 1 j) : kr_M l dC dI ad cc yX5_open wsX5_open { frames := 1, cells := 0, slots := 0, locals := 22 } [.ref (ad 0), .int (nI j), .int wd] u (tm_I (tm_I u 14 0 (nI 0)) 14 0 (nI 0)) (some (.long (u.1 4 j))) := by
  refine kq_ofW (cc := cX5_open) (maxL := 3) (ret := (some .long)) (R0 := RX5) (by decide) rfl rfl (Nat.le_of_ble_eq_true rfl) ?_
  intro p e s m below meth c A ls hx hb hr hlk hml hown hts hP hK hD hA hG hS hl
  have hl : lv_has ls 3 [(0, .ref (ad 0)), (1, .int (nI j)), (2, .int wd)] := hl
  refine lv_aload_n hx hb dX5_open_0 rfl (lv_at hl 0 rfl) ?_
  refine lv_aload_n hx hb dX5_open_1 rfl (lv_at hl 0 rfl) ?_
  refine lv_iload_n hx hb dX5_open_2 rfl (lv_at hl 1 rfl) ?_
  refine lv_iconst (v := (nI 3)) hx hb dX5_open_3 (by decide) ?_
  refine kq_cV (st1 := [.int (nI 0), .ref (ad 0)]) ⟨hx, hb, hml, hown, hts⟩ (r_out_in u (by omega) (by omega)) (cwV 2 hts gX5_109_X5_out rfl rfl rfl (by decide +kernel) ⟨Nat.le_of_ble_eq_true rfl, Nat.le_of_ble_eq_true rfl⟩) kq_okT hK hP hD hA hG hS (va_recv hK hP (ci := 5) (q0 := 0) rfl (tm_at (i := 0) (by omega) rfl)) rfl hl.1 rfl rfl (Nat.le_of_ble_eq_true rfl) dX5_open_4 ⟨Nat.le_of_ble_eq_true rfl, Nat.le_of_ble_eq_true rfl⟩ (fun H locs hP hD hS => ?_)
  refine kq_cV (st1 := [.int (nI 1)]) ⟨hx, hb, hml, hown, hts⟩ (r_begin_ok u hnl) (cwV 1 hts gX5_113_X5_begin rfl rfl rfl (by decide +kernel) ⟨Nat.le_of_ble_eq_true rfl, Nat.le_of_ble_eq_true rfl⟩) kq_okT hK hP hD hA hG hS (va_recv hK hP (ci := 5) (q0 := 0) rfl (tm_at (i := 0) (by omega) rfl)) rfl hl.1 rfl rfl (Nat.le_of_ble_eq_true rfl) dX5_open_7 ⟨Nat.le_of_ble_eq_true rfl, Nat.le_of_ble_eq_true rfl⟩ (fun H locs hP hD hS => ?_)
  refine lv_if_ne (tgt := 15) hx hb dX5_open_10 (by decide) (fun _ => ?_) (fun c => absurd c (by decide))
  refine lv_aload_n hx hb dX5_open_15 rfl (lv_at hl 0 rfl) ?_
  refine lv_aload_n hx hb dX5_open_16 rfl (lv_at hl 0 rfl) ?_
  refine tr_g_used hx hb hts inB_X5 hown hK hP (hts _ mb_641) dX5_open_17 ?_
  refine lv_iload_n hx hb dX5_open_20 rfl (lv_at hl 1 rfl) ?_
  refine tr_l_used hx hb hK hP (by omega) dX5_open_21 ?_
  refine kq_ti (y := (u.2.1 0 j)) (by simp [tm_L, tm_I, tm_D]) ?_
  refine lv_if_ne (tgt := 29) hx hb dX5_open_22 (by decide) (fun _ => ?_) (fun c => absurd c hh)
  refine lv_aload_n hx hb dX5_open_29 rfl (lv_at hl 0 rfl) ?_
  refine lv_iload_n hx hb dX5_open_30 rfl (lv_at hl 1 rfl) ?_
  refine lv_iload_n hx hb dX5_open_31 rfl (lv_at hl 2 rfl) ?_
  refine kq_cV (st1 := [.int (nI 0), .ref (ad 0)]) ⟨hx, hb, hml, hown, hts⟩ (r_allowed_ok (tm_I u 14 0 (nI 0)) (k := j) (by omega) wd (by simpa [tm_I] using hw) (by simpa [tm_I] using hg) (by simpa [tm_I] using he)) (cwV 2 hts gX5_136_X5_allowed rfl rfl rfl (by decide +kernel) ⟨Nat.le_of_ble_eq_true rfl, Nat.le_of_ble_eq_true rfl⟩) kq_okT hK hP hD hA hG hS (va_recv hK hP (ci := 5) (q0 := 0) rfl (tm_at (i := 0) (by omega) rfl)) rfl hl.1 rfl rfl (Nat.le_of_ble_eq_true rfl) dX5_open_32 ⟨Nat.le_of_ble_eq_true rfl, Nat.le_of_ble_eq_true rfl⟩ (fun H locs hP hD hS => ?_)
  refine tr_p_thrown hx hb hts inB_X5 hown hK hP hD hS (hts _ mb_652) dX5_open_35 (fun H locs hP hD hS => ?_)
  refine lv_aload_n hx hb dX5_open_38 rfl (lv_at hl 0 rfl) ?_
  refine tr_g_thrown hx hb hts inB_X5 hown hK hP (hts _ mb_652) dX5_open_39 ?_
  refine kq_ti (y := (nI 0)) (by simp [tm_L, tm_I, tm_D]) ?_
  refine lv_if_ne (tgt := 54) hx hb dX5_open_42 (by decide) (fun c => absurd (by decide) c) (fun _ => ?_)
  refine lv_aload_n hx hb dX5_open_45 rfl (lv_at hl 0 rfl) ?_
  refine tr_g_secret hx hb hts inB_X5 hown hK hP (hts _ mb_638) dX5_open_46 ?_
  refine lv_iload_n hx hb dX5_open_49 rfl (lv_at hl 1 rfl) ?_
  refine tr_l_secret hx hb hK hP (by omega) dX5_open_50 ?_
  refine kq_tl (y := (u.1 4 j)) (by simp [tm_L, tm_I, tm_D]) ?_
  refine lv_goto (tgt := 55) hx hb dX5_open_51 (by decide) ?_
  exact kq_lret hx hb hr hlk hP hD hS dX5_open_55
set_option maxHeartbeats 4000000 in
set_option maxRecDepth 100000 in
theorem p_open_wno (u : tm_S) {j : Nat} (hj : j < 4) (wd : Int32) (hnl : u.2.1 11 0 = 0) (hh : ¬ u.2.1 0 j = 0) (hw : ¬ u.2.1 1 j = 0) (hg : u.2.1 13 0 < nI 3) (he : ¬ wd = u.2.1 1 j) : kr_M l dC dI ad cc yX5_open wsX5_open { frames := 1, cells := 0, slots := 0, locals := 22 } [.ref (ad 0), .int (nI j), .int wd] u (tm_I (tm_D (tm_I (tm_I u 14 0 (nI 0)) 13 0 (((tm_I u 14 0 (nI 0)).2.1 13 0) + (nI 1))) 0 ((tm_I u 14 0 (nI 0)).2.2 1)) 14 0 (nI 4)) (some (.long 0)) := by
  refine kq_ofW (cc := cX5_open) (maxL := 3) (ret := (some .long)) (R0 := RX5) (by decide) rfl rfl (Nat.le_of_ble_eq_true rfl) ?_
  intro p e s m below meth c A ls hx hb hr hlk hml hown hts hP hK hD hA hG hS hl
  have hl : lv_has ls 3 [(0, .ref (ad 0)), (1, .int (nI j)), (2, .int wd)] := hl
  refine lv_aload_n hx hb dX5_open_0 rfl (lv_at hl 0 rfl) ?_
  refine lv_aload_n hx hb dX5_open_1 rfl (lv_at hl 0 rfl) ?_
  refine lv_iload_n hx hb dX5_open_2 rfl (lv_at hl 1 rfl) ?_
  refine lv_iconst (v := (nI 3)) hx hb dX5_open_3 (by decide) ?_
  refine kq_cV (st1 := [.int (nI 0), .ref (ad 0)]) ⟨hx, hb, hml, hown, hts⟩ (r_out_in u (by omega) (by omega)) (cwV 2 hts gX5_109_X5_out rfl rfl rfl (by decide +kernel) ⟨Nat.le_of_ble_eq_true rfl, Nat.le_of_ble_eq_true rfl⟩) kq_okT hK hP hD hA hG hS (va_recv hK hP (ci := 5) (q0 := 0) rfl (tm_at (i := 0) (by omega) rfl)) rfl hl.1 rfl rfl (Nat.le_of_ble_eq_true rfl) dX5_open_4 ⟨Nat.le_of_ble_eq_true rfl, Nat.le_of_ble_eq_true rfl⟩ (fun H locs hP hD hS => ?_)
  refine kq_cV (st1 := [.int (nI 1)]) ⟨hx, hb, hml, hown, hts⟩ (r_begin_ok u hnl) (cwV 1 hts gX5_113_X5_begin rfl rfl rfl (by decide +kernel) ⟨Nat.le_of_ble_eq_true rfl, Nat.le_of_ble_eq_true rfl⟩) kq_okT hK hP hD hA hG hS (va_recv hK hP (ci := 5) (q0 := 0) rfl (tm_at (i := 0) (by omega) rfl)) rfl hl.1 rfl rfl (Nat.le_of_ble_eq_true rfl) dX5_open_7 ⟨Nat.le_of_ble_eq_true rfl, Nat.le_of_ble_eq_true rfl⟩ (fun H locs hP hD hS => ?_)
  refine lv_if_ne (tgt := 15) hx hb dX5_open_10 (by decide) (fun _ => ?_) (fun c => absurd c (by decide))
  refine lv_aload_n hx hb dX5_open_15 rfl (lv_at hl 0 rfl) ?_
  refine lv_aload_n hx hb dX5_open_16 rfl (lv_at hl 0 rfl) ?_
  refine tr_g_used hx hb hts inB_X5 hown hK hP (hts _ mb_641) dX5_open_17 ?_
  refine lv_iload_n hx hb dX5_open_20 rfl (lv_at hl 1 rfl) ?_
  refine tr_l_used hx hb hK hP (by omega) dX5_open_21 ?_
  refine kq_ti (y := (u.2.1 0 j)) (by simp [tm_L, tm_I, tm_D]) ?_
  refine lv_if_ne (tgt := 29) hx hb dX5_open_22 (by decide) (fun _ => ?_) (fun c => absurd c hh)
  refine lv_aload_n hx hb dX5_open_29 rfl (lv_at hl 0 rfl) ?_
  refine lv_iload_n hx hb dX5_open_30 rfl (lv_at hl 1 rfl) ?_
  refine lv_iload_n hx hb dX5_open_31 rfl (lv_at hl 2 rfl) ?_
  refine kq_cV (st1 := [.int (nI 4), .ref (ad 0)]) ⟨hx, hb, hml, hown, hts⟩ (r_allowed_no (tm_I u 14 0 (nI 0)) (k := j) (by omega) wd (by simpa [tm_I] using hw) (by simpa [tm_I] using hg) (by simpa [tm_I] using he)) (cwV 2 hts gX5_136_X5_allowed rfl rfl rfl (by decide +kernel) ⟨Nat.le_of_ble_eq_true rfl, Nat.le_of_ble_eq_true rfl⟩) kq_okT hK hP hD hA hG hS (va_recv hK hP (ci := 5) (q0 := 0) rfl (tm_at (i := 0) (by omega) rfl)) rfl hl.1 rfl rfl (Nat.le_of_ble_eq_true rfl) dX5_open_32 ⟨Nat.le_of_ble_eq_true rfl, Nat.le_of_ble_eq_true rfl⟩ (fun H locs hP hD hS => ?_)
  refine tr_p_thrown hx hb hts inB_X5 hown hK hP hD hS (hts _ mb_652) dX5_open_35 (fun H locs hP hD hS => ?_)
  refine lv_aload_n hx hb dX5_open_38 rfl (lv_at hl 0 rfl) ?_
  refine tr_g_thrown hx hb hts inB_X5 hown hK hP (hts _ mb_652) dX5_open_39 ?_
  refine kq_ti (y := (nI 4)) (by simp [tm_L, tm_I, tm_D]) ?_
  refine lv_if_ne (tgt := 54) hx hb dX5_open_42 (by decide) (fun _ => ?_) (fun c => absurd c (by decide))
  refine lv_lconst (v := 0) hx hb dX5_open_54 (by decide) ?_
  exact kq_lret hx hb hr hlk hP hD hS dX5_open_55
set_option maxHeartbeats 4000000 in
set_option maxRecDepth 100000 in
theorem p_unseal_b1 (u : tm_S) (x : Int32) (h : x < 0 ∨ ¬ x ≤ nI 3) (i : Int32) : kr_M l dC dI ad cc yX5_unseal wsX5_unseal { frames := 1, cells := 0, slots := 0, locals := 23 } [.ref (ad 0), .int x, .int i] u (tm_I u 14 0 (nI 1)) (some (.long 0)) := by
  refine kq_ofW (cc := cX5_unseal) (maxL := 3) (ret := (some .long)) (R0 := RX5) (by decide) rfl rfl (Nat.le_of_ble_eq_true rfl) ?_
  intro p e s m below meth c A ls hx hb hr hlk hml hown hts hP hK hD hA hG hS hl
  have hl : lv_has ls 3 [(0, .ref (ad 0)), (1, .int x), (2, .int i)] := hl
  refine lv_aload_n hx hb dX5_unseal_0 rfl (lv_at hl 0 rfl) ?_
  refine lv_aload_n hx hb dX5_unseal_1 rfl (lv_at hl 0 rfl) ?_
  refine lv_iload_n hx hb dX5_unseal_2 rfl (lv_at hl 1 rfl) ?_
  refine lv_iconst (v := (nI 3)) hx hb dX5_unseal_3 (by decide) ?_
  refine kq_cV (st1 := [.int (nI 1), .ref (ad 0)]) ⟨hx, hb, hml, hown, hts⟩ (r_out_no u h) (cwV 2 hts gX5_109_X5_out rfl rfl rfl (by decide +kernel) ⟨Nat.le_of_ble_eq_true rfl, Nat.le_of_ble_eq_true rfl⟩) kq_okT hK hP hD hA hG hS (va_recv hK hP (ci := 5) (q0 := 0) rfl (tm_at (i := 0) (by omega) rfl)) rfl hl.1 rfl rfl (Nat.le_of_ble_eq_true rfl) dX5_unseal_4 ⟨Nat.le_of_ble_eq_true rfl, Nat.le_of_ble_eq_true rfl⟩ (fun H locs hP hD hS => ?_)
  refine lv_if_ne (tgt := 19) hx hb dX5_unseal_7 (by decide) (fun _ => ?_) (fun c => absurd c (by decide))
  refine lv_iconst (v := (nI 1)) hx hb dX5_unseal_19 (by decide) ?_
  refine lv_goto (tgt := 24) hx hb dX5_unseal_20 (by decide) ?_
  refine kq_cV (st1 := [.int (nI 0)]) ⟨hx, hb, hml, hown, hts⟩ (r_begin_bad u) (cwV 1 hts gX5_113_X5_begin rfl rfl rfl (by decide +kernel) ⟨Nat.le_of_ble_eq_true rfl, Nat.le_of_ble_eq_true rfl⟩) kq_okT hK hP hD hA hG hS (va_recv hK hP (ci := 5) (q0 := 0) rfl (tm_at (i := 0) (by omega) rfl)) rfl hl.1 rfl rfl (Nat.le_of_ble_eq_true rfl) dX5_unseal_24 ⟨Nat.le_of_ble_eq_true rfl, Nat.le_of_ble_eq_true rfl⟩ (fun H locs hP hD hS => ?_)
  refine lv_if_ne (tgt := 32) hx hb dX5_unseal_27 (by decide) (fun c => absurd (by decide) c) (fun _ => ?_)
  refine lv_lconst (v := 0) hx hb dX5_unseal_30 (by decide) ?_
  exact kq_lret hx hb hr hlk hP hD hS dX5_unseal_31
set_option maxHeartbeats 4000000 in
set_option maxRecDepth 100000 in
theorem p_unseal_b2 (u : tm_S) {j : Nat} (hj : j < 4) (x : Int32) (h : x < 0 ∨ ¬ x ≤ nI 2)  : kr_M l dC dI ad cc yX5_unseal wsX5_unseal { frames := 1, cells := 0, slots := 0, locals := 23 } [.ref (ad 0), .int (nI j), .int x] u (tm_I u 14 0 (nI 1)) (some (.long 0)) := by
  refine kq_ofW (cc := cX5_unseal) (maxL := 3) (ret := (some .long)) (R0 := RX5) (by decide) rfl rfl (Nat.le_of_ble_eq_true rfl) ?_
  intro p e s m below meth c A ls hx hb hr hlk hml hown hts hP hK hD hA hG hS hl
  have hl : lv_has ls 3 [(0, .ref (ad 0)), (1, .int (nI j)), (2, .int x)] := hl
  refine lv_aload_n hx hb dX5_unseal_0 rfl (lv_at hl 0 rfl) ?_
  refine lv_aload_n hx hb dX5_unseal_1 rfl (lv_at hl 0 rfl) ?_
  refine lv_iload_n hx hb dX5_unseal_2 rfl (lv_at hl 1 rfl) ?_
  refine lv_iconst (v := (nI 3)) hx hb dX5_unseal_3 (by decide) ?_
  refine kq_cV (st1 := [.int (nI 0), .ref (ad 0)]) ⟨hx, hb, hml, hown, hts⟩ (r_out_in u (by omega) (by omega)) (cwV 2 hts gX5_109_X5_out rfl rfl rfl (by decide +kernel) ⟨Nat.le_of_ble_eq_true rfl, Nat.le_of_ble_eq_true rfl⟩) kq_okT hK hP hD hA hG hS (va_recv hK hP (ci := 5) (q0 := 0) rfl (tm_at (i := 0) (by omega) rfl)) rfl hl.1 rfl rfl (Nat.le_of_ble_eq_true rfl) dX5_unseal_4 ⟨Nat.le_of_ble_eq_true rfl, Nat.le_of_ble_eq_true rfl⟩ (fun H locs hP hD hS => ?_)
  refine lv_if_ne (tgt := 19) hx hb dX5_unseal_7 (by decide) (fun c => absurd (by decide) c) (fun _ => ?_)
  refine lv_aload_n hx hb dX5_unseal_10 rfl (lv_at hl 0 rfl) ?_
  refine lv_iload_n hx hb dX5_unseal_11 rfl (lv_at hl 2 rfl) ?_
  refine lv_iconst (v := (nI 2)) hx hb dX5_unseal_12 (by decide) ?_
  refine kq_cV (st1 := [.int (nI 1), .ref (ad 0)]) ⟨hx, hb, hml, hown, hts⟩ (r_out_no u h) (cwV 2 hts gX5_109_X5_out rfl rfl rfl (by decide +kernel) ⟨Nat.le_of_ble_eq_true rfl, Nat.le_of_ble_eq_true rfl⟩) kq_okT hK hP hD hA hG hS (va_recv hK hP (ci := 5) (q0 := 0) rfl (tm_at (i := 0) (by omega) rfl)) rfl hl.1 rfl rfl (Nat.le_of_ble_eq_true rfl) dX5_unseal_13 ⟨Nat.le_of_ble_eq_true rfl, Nat.le_of_ble_eq_true rfl⟩ (fun H locs hP hD hS => ?_)
  refine lv_if_eq (tgt := 23) hx hb dX5_unseal_16 (by decide) (fun c => absurd c (by decide)) (fun _ => ?_)
  refine lv_iconst (v := (nI 1)) hx hb dX5_unseal_19 (by decide) ?_
  refine lv_goto (tgt := 24) hx hb dX5_unseal_20 (by decide) ?_
  refine kq_cV (st1 := [.int (nI 0)]) ⟨hx, hb, hml, hown, hts⟩ (r_begin_bad u) (cwV 1 hts gX5_113_X5_begin rfl rfl rfl (by decide +kernel) ⟨Nat.le_of_ble_eq_true rfl, Nat.le_of_ble_eq_true rfl⟩) kq_okT hK hP hD hA hG hS (va_recv hK hP (ci := 5) (q0 := 0) rfl (tm_at (i := 0) (by omega) rfl)) rfl hl.1 rfl rfl (Nat.le_of_ble_eq_true rfl) dX5_unseal_24 ⟨Nat.le_of_ble_eq_true rfl, Nat.le_of_ble_eq_true rfl⟩ (fun H locs hP hD hS => ?_)
  refine lv_if_ne (tgt := 32) hx hb dX5_unseal_27 (by decide) (fun c => absurd (by decide) c) (fun _ => ?_)
  refine lv_lconst (v := 0) hx hb dX5_unseal_30 (by decide) ?_
  exact kq_lret hx hb hr hlk hP hD hS dX5_unseal_31
set_option maxHeartbeats 4000000 in
set_option maxRecDepth 100000 in
theorem p_unseal_lo (u : tm_S) {j i : Nat} (hj : j < 4) (hi : i < 3) (hlo : ¬ u.2.1 11 0 = 0)  : kr_M l dC dI ad cc yX5_unseal wsX5_unseal { frames := 1, cells := 0, slots := 0, locals := 23 } [.ref (ad 0), .int (nI j), .int (nI i)] u (tm_I u 14 0 (nI 2)) (some (.long 0)) := by
  refine kq_ofW (cc := cX5_unseal) (maxL := 3) (ret := (some .long)) (R0 := RX5) (by decide) rfl rfl (Nat.le_of_ble_eq_true rfl) ?_
  intro p e s m below meth c A ls hx hb hr hlk hml hown hts hP hK hD hA hG hS hl
  have hl : lv_has ls 3 [(0, .ref (ad 0)), (1, .int (nI j)), (2, .int (nI i))] := hl
  refine lv_aload_n hx hb dX5_unseal_0 rfl (lv_at hl 0 rfl) ?_
  refine lv_aload_n hx hb dX5_unseal_1 rfl (lv_at hl 0 rfl) ?_
  refine lv_iload_n hx hb dX5_unseal_2 rfl (lv_at hl 1 rfl) ?_
  refine lv_iconst (v := (nI 3)) hx hb dX5_unseal_3 (by decide) ?_
  refine kq_cV (st1 := [.int (nI 0), .ref (ad 0)]) ⟨hx, hb, hml, hown, hts⟩ (r_out_in u (by omega) (by omega)) (cwV 2 hts gX5_109_X5_out rfl rfl rfl (by decide +kernel) ⟨Nat.le_of_ble_eq_true rfl, Nat.le_of_ble_eq_true rfl⟩) kq_okT hK hP hD hA hG hS (va_recv hK hP (ci := 5) (q0 := 0) rfl (tm_at (i := 0) (by omega) rfl)) rfl hl.1 rfl rfl (Nat.le_of_ble_eq_true rfl) dX5_unseal_4 ⟨Nat.le_of_ble_eq_true rfl, Nat.le_of_ble_eq_true rfl⟩ (fun H locs hP hD hS => ?_)
  refine lv_if_ne (tgt := 19) hx hb dX5_unseal_7 (by decide) (fun c => absurd (by decide) c) (fun _ => ?_)
  refine lv_aload_n hx hb dX5_unseal_10 rfl (lv_at hl 0 rfl) ?_
  refine lv_iload_n hx hb dX5_unseal_11 rfl (lv_at hl 2 rfl) ?_
  refine lv_iconst (v := (nI 2)) hx hb dX5_unseal_12 (by decide) ?_
  refine kq_cV (st1 := [.int (nI 0), .ref (ad 0)]) ⟨hx, hb, hml, hown, hts⟩ (r_out_in u (by omega) (by omega)) (cwV 2 hts gX5_109_X5_out rfl rfl rfl (by decide +kernel) ⟨Nat.le_of_ble_eq_true rfl, Nat.le_of_ble_eq_true rfl⟩) kq_okT hK hP hD hA hG hS (va_recv hK hP (ci := 5) (q0 := 0) rfl (tm_at (i := 0) (by omega) rfl)) rfl hl.1 rfl rfl (Nat.le_of_ble_eq_true rfl) dX5_unseal_13 ⟨Nat.le_of_ble_eq_true rfl, Nat.le_of_ble_eq_true rfl⟩ (fun H locs hP hD hS => ?_)
  refine lv_if_eq (tgt := 23) hx hb dX5_unseal_16 (by decide) (fun _ => ?_) (fun c => absurd (by decide) c)
  refine lv_iconst (v := (nI 0)) hx hb dX5_unseal_23 (by decide) ?_
  refine kq_cV (st1 := [.int (nI 0)]) ⟨hx, hb, hml, hown, hts⟩ (r_begin_lost u hlo) (cwV 1 hts gX5_113_X5_begin rfl rfl rfl (by decide +kernel) ⟨Nat.le_of_ble_eq_true rfl, Nat.le_of_ble_eq_true rfl⟩) kq_okT hK hP hD hA hG hS (va_recv hK hP (ci := 5) (q0 := 0) rfl (tm_at (i := 0) (by omega) rfl)) rfl hl.1 rfl rfl (Nat.le_of_ble_eq_true rfl) dX5_unseal_24 ⟨Nat.le_of_ble_eq_true rfl, Nat.le_of_ble_eq_true rfl⟩ (fun H locs hP hD hS => ?_)
  refine lv_if_ne (tgt := 32) hx hb dX5_unseal_27 (by decide) (fun c => absurd (by decide) c) (fun _ => ?_)
  refine lv_lconst (v := 0) hx hb dX5_unseal_30 (by decide) ?_
  exact kq_lret hx hb hr hlk hP hD hS dX5_unseal_31
set_option maxHeartbeats 4000000 in
set_option maxRecDepth 100000 in
theorem p_unseal_free (u : tm_S) {j i : Nat} (hj : j < 4) (hi : i < 3) (hnl : u.2.1 11 0 = 0) (hh : u.2.1 0 j = 0) : kr_M l dC dI ad cc yX5_unseal wsX5_unseal { frames := 1, cells := 0, slots := 0, locals := 23 } [.ref (ad 0), .int (nI j), .int (nI i)] u (tm_I (tm_I u 14 0 (nI 0)) 14 0 (nI 3)) (some (.long 0)) := by
  refine kq_ofW (cc := cX5_unseal) (maxL := 3) (ret := (some .long)) (R0 := RX5) (by decide) rfl rfl (Nat.le_of_ble_eq_true rfl) ?_
  intro p e s m below meth c A ls hx hb hr hlk hml hown hts hP hK hD hA hG hS hl
  have hl : lv_has ls 3 [(0, .ref (ad 0)), (1, .int (nI j)), (2, .int (nI i))] := hl
  refine lv_aload_n hx hb dX5_unseal_0 rfl (lv_at hl 0 rfl) ?_
  refine lv_aload_n hx hb dX5_unseal_1 rfl (lv_at hl 0 rfl) ?_
  refine lv_iload_n hx hb dX5_unseal_2 rfl (lv_at hl 1 rfl) ?_
  refine lv_iconst (v := (nI 3)) hx hb dX5_unseal_3 (by decide) ?_
  refine kq_cV (st1 := [.int (nI 0), .ref (ad 0)]) ⟨hx, hb, hml, hown, hts⟩ (r_out_in u (by omega) (by omega)) (cwV 2 hts gX5_109_X5_out rfl rfl rfl (by decide +kernel) ⟨Nat.le_of_ble_eq_true rfl, Nat.le_of_ble_eq_true rfl⟩) kq_okT hK hP hD hA hG hS (va_recv hK hP (ci := 5) (q0 := 0) rfl (tm_at (i := 0) (by omega) rfl)) rfl hl.1 rfl rfl (Nat.le_of_ble_eq_true rfl) dX5_unseal_4 ⟨Nat.le_of_ble_eq_true rfl, Nat.le_of_ble_eq_true rfl⟩ (fun H locs hP hD hS => ?_)
  refine lv_if_ne (tgt := 19) hx hb dX5_unseal_7 (by decide) (fun c => absurd (by decide) c) (fun _ => ?_)
  refine lv_aload_n hx hb dX5_unseal_10 rfl (lv_at hl 0 rfl) ?_
  refine lv_iload_n hx hb dX5_unseal_11 rfl (lv_at hl 2 rfl) ?_
  refine lv_iconst (v := (nI 2)) hx hb dX5_unseal_12 (by decide) ?_
  refine kq_cV (st1 := [.int (nI 0), .ref (ad 0)]) ⟨hx, hb, hml, hown, hts⟩ (r_out_in u (by omega) (by omega)) (cwV 2 hts gX5_109_X5_out rfl rfl rfl (by decide +kernel) ⟨Nat.le_of_ble_eq_true rfl, Nat.le_of_ble_eq_true rfl⟩) kq_okT hK hP hD hA hG hS (va_recv hK hP (ci := 5) (q0 := 0) rfl (tm_at (i := 0) (by omega) rfl)) rfl hl.1 rfl rfl (Nat.le_of_ble_eq_true rfl) dX5_unseal_13 ⟨Nat.le_of_ble_eq_true rfl, Nat.le_of_ble_eq_true rfl⟩ (fun H locs hP hD hS => ?_)
  refine lv_if_eq (tgt := 23) hx hb dX5_unseal_16 (by decide) (fun _ => ?_) (fun c => absurd (by decide) c)
  refine lv_iconst (v := (nI 0)) hx hb dX5_unseal_23 (by decide) ?_
  refine kq_cV (st1 := [.int (nI 1)]) ⟨hx, hb, hml, hown, hts⟩ (r_begin_ok u hnl) (cwV 1 hts gX5_113_X5_begin rfl rfl rfl (by decide +kernel) ⟨Nat.le_of_ble_eq_true rfl, Nat.le_of_ble_eq_true rfl⟩) kq_okT hK hP hD hA hG hS (va_recv hK hP (ci := 5) (q0 := 0) rfl (tm_at (i := 0) (by omega) rfl)) rfl hl.1 rfl rfl (Nat.le_of_ble_eq_true rfl) dX5_unseal_24 ⟨Nat.le_of_ble_eq_true rfl, Nat.le_of_ble_eq_true rfl⟩ (fun H locs hP hD hS => ?_)
  refine lv_if_ne (tgt := 32) hx hb dX5_unseal_27 (by decide) (fun _ => ?_) (fun c => absurd c (by decide))
  refine lv_aload_n hx hb dX5_unseal_32 rfl (lv_at hl 0 rfl) ?_
  refine lv_aload_n hx hb dX5_unseal_33 rfl (lv_at hl 0 rfl) ?_
  refine tr_g_used hx hb hts inB_X5 hown hK hP (hts _ mb_641) dX5_unseal_34 ?_
  refine lv_iload_n hx hb dX5_unseal_37 rfl (lv_at hl 1 rfl) ?_
  refine tr_l_used hx hb hK hP (by omega) dX5_unseal_38 ?_
  refine kq_ti (y := (u.2.1 0 j)) (by simp [tm_L, tm_I, tm_D]) ?_
  refine lv_if_ne (tgt := 46) hx hb dX5_unseal_39 (by decide) (fun c => absurd hh c) (fun _ => ?_)
  refine lv_iconst (v := (nI 3)) hx hb dX5_unseal_42 (by decide) ?_
  refine lv_goto (tgt := 57) hx hb dX5_unseal_43 (by decide) ?_
  refine tr_p_thrown hx hb hts inB_X5 hown hK hP hD hS (hts _ mb_652) dX5_unseal_57 (fun H locs hP hD hS => ?_)
  refine lv_aload_n hx hb dX5_unseal_60 rfl (lv_at hl 0 rfl) ?_
  refine tr_g_thrown hx hb hts inB_X5 hown hK hP (hts _ mb_652) dX5_unseal_61 ?_
  refine kq_ti (y := (nI 3)) (by simp [tm_L, tm_I, tm_D]) ?_
  refine lv_if_eq (tgt := 69) hx hb dX5_unseal_64 (by decide) (fun c => absurd c (by decide)) (fun _ => ?_)
  refine lv_lconst (v := 0) hx hb dX5_unseal_67 (by decide) ?_
  exact kq_lret hx hb hr hlk hP hD hS dX5_unseal_68
set_option maxHeartbeats 4000000 in
set_option maxRecDepth 100000 in
theorem p_unseal_n1 (u : tm_S) {j i : Nat} (hj : j < 4) (hi : i < 3) (hnl : u.2.1 11 0 = 0) (hh : ¬ u.2.1 0 j = 0) (ho : u.1 3 j = 0) : kr_M l dC dI ad cc yX5_unseal wsX5_unseal { frames := 1, cells := 0, slots := 0, locals := 23 } [.ref (ad 0), .int (nI j), .int (nI i)] u (tm_I (tm_I u 14 0 (nI 0)) 14 0 (nI 4)) (some (.long 0)) := by
  refine kq_ofW (cc := cX5_unseal) (maxL := 3) (ret := (some .long)) (R0 := RX5) (by decide) rfl rfl (Nat.le_of_ble_eq_true rfl) ?_
  intro p e s m below meth c A ls hx hb hr hlk hml hown hts hP hK hD hA hG hS hl
  have hl : lv_has ls 3 [(0, .ref (ad 0)), (1, .int (nI j)), (2, .int (nI i))] := hl
  refine lv_aload_n hx hb dX5_unseal_0 rfl (lv_at hl 0 rfl) ?_
  refine lv_aload_n hx hb dX5_unseal_1 rfl (lv_at hl 0 rfl) ?_
  refine lv_iload_n hx hb dX5_unseal_2 rfl (lv_at hl 1 rfl) ?_
  refine lv_iconst (v := (nI 3)) hx hb dX5_unseal_3 (by decide) ?_
  refine kq_cV (st1 := [.int (nI 0), .ref (ad 0)]) ⟨hx, hb, hml, hown, hts⟩ (r_out_in u (by omega) (by omega)) (cwV 2 hts gX5_109_X5_out rfl rfl rfl (by decide +kernel) ⟨Nat.le_of_ble_eq_true rfl, Nat.le_of_ble_eq_true rfl⟩) kq_okT hK hP hD hA hG hS (va_recv hK hP (ci := 5) (q0 := 0) rfl (tm_at (i := 0) (by omega) rfl)) rfl hl.1 rfl rfl (Nat.le_of_ble_eq_true rfl) dX5_unseal_4 ⟨Nat.le_of_ble_eq_true rfl, Nat.le_of_ble_eq_true rfl⟩ (fun H locs hP hD hS => ?_)
  refine lv_if_ne (tgt := 19) hx hb dX5_unseal_7 (by decide) (fun c => absurd (by decide) c) (fun _ => ?_)
  refine lv_aload_n hx hb dX5_unseal_10 rfl (lv_at hl 0 rfl) ?_
  refine lv_iload_n hx hb dX5_unseal_11 rfl (lv_at hl 2 rfl) ?_
  refine lv_iconst (v := (nI 2)) hx hb dX5_unseal_12 (by decide) ?_
  refine kq_cV (st1 := [.int (nI 0), .ref (ad 0)]) ⟨hx, hb, hml, hown, hts⟩ (r_out_in u (by omega) (by omega)) (cwV 2 hts gX5_109_X5_out rfl rfl rfl (by decide +kernel) ⟨Nat.le_of_ble_eq_true rfl, Nat.le_of_ble_eq_true rfl⟩) kq_okT hK hP hD hA hG hS (va_recv hK hP (ci := 5) (q0 := 0) rfl (tm_at (i := 0) (by omega) rfl)) rfl hl.1 rfl rfl (Nat.le_of_ble_eq_true rfl) dX5_unseal_13 ⟨Nat.le_of_ble_eq_true rfl, Nat.le_of_ble_eq_true rfl⟩ (fun H locs hP hD hS => ?_)
  refine lv_if_eq (tgt := 23) hx hb dX5_unseal_16 (by decide) (fun _ => ?_) (fun c => absurd (by decide) c)
  refine lv_iconst (v := (nI 0)) hx hb dX5_unseal_23 (by decide) ?_
  refine kq_cV (st1 := [.int (nI 1)]) ⟨hx, hb, hml, hown, hts⟩ (r_begin_ok u hnl) (cwV 1 hts gX5_113_X5_begin rfl rfl rfl (by decide +kernel) ⟨Nat.le_of_ble_eq_true rfl, Nat.le_of_ble_eq_true rfl⟩) kq_okT hK hP hD hA hG hS (va_recv hK hP (ci := 5) (q0 := 0) rfl (tm_at (i := 0) (by omega) rfl)) rfl hl.1 rfl rfl (Nat.le_of_ble_eq_true rfl) dX5_unseal_24 ⟨Nat.le_of_ble_eq_true rfl, Nat.le_of_ble_eq_true rfl⟩ (fun H locs hP hD hS => ?_)
  refine lv_if_ne (tgt := 32) hx hb dX5_unseal_27 (by decide) (fun _ => ?_) (fun c => absurd c (by decide))
  refine lv_aload_n hx hb dX5_unseal_32 rfl (lv_at hl 0 rfl) ?_
  refine lv_aload_n hx hb dX5_unseal_33 rfl (lv_at hl 0 rfl) ?_
  refine tr_g_used hx hb hts inB_X5 hown hK hP (hts _ mb_641) dX5_unseal_34 ?_
  refine lv_iload_n hx hb dX5_unseal_37 rfl (lv_at hl 1 rfl) ?_
  refine tr_l_used hx hb hK hP (by omega) dX5_unseal_38 ?_
  refine kq_ti (y := (u.2.1 0 j)) (by simp [tm_L, tm_I, tm_D]) ?_
  refine lv_if_ne (tgt := 46) hx hb dX5_unseal_39 (by decide) (fun _ => ?_) (fun c => absurd c hh)
  refine lv_aload_n hx hb dX5_unseal_46 rfl (lv_at hl 0 rfl) ?_
  refine lv_iload_n hx hb dX5_unseal_47 rfl (lv_at hl 2 rfl) ?_
  refine lv_aload_n hx hb dX5_unseal_48 rfl (lv_at hl 0 rfl) ?_
  refine tr_g_policy hx hb hts inB_X5 hown hK hP (hts _ mb_637) dX5_unseal_49 ?_
  refine lv_iload_n hx hb dX5_unseal_52 rfl (lv_at hl 1 rfl) ?_
  refine tr_l_policy hx hb hK hP (by omega) dX5_unseal_53 ?_
  refine kq_tl (y := (u.1 3 j)) (by simp [tm_L, tm_I, tm_D]) ?_
  refine kq_cV (st1 := [.int (nI 4), .ref (ad 0)]) ⟨hx, hb, hml, hown, hts⟩ (r_sat_n1 (tm_I u 14 0 (nI 0)) (k := i) (by omega) (u.1 3 j) (by simpa [tm_I] using ho)) (cwV 2 hts gX5_140_X5_satisfied rfl rfl rfl (by decide +kernel) ⟨Nat.le_of_ble_eq_true rfl, Nat.le_of_ble_eq_true rfl⟩) kq_okT hK hP hD hA hG hS (va_recv hK hP (ci := 5) (q0 := 0) rfl (tm_at (i := 0) (by omega) rfl)) rfl hl.1 rfl rfl (Nat.le_of_ble_eq_true rfl) dX5_unseal_54 ⟨Nat.le_of_ble_eq_true rfl, Nat.le_of_ble_eq_true rfl⟩ (fun H locs hP hD hS => ?_)
  refine tr_p_thrown hx hb hts inB_X5 hown hK hP hD hS (hts _ mb_652) dX5_unseal_57 (fun H locs hP hD hS => ?_)
  refine lv_aload_n hx hb dX5_unseal_60 rfl (lv_at hl 0 rfl) ?_
  refine tr_g_thrown hx hb hts inB_X5 hown hK hP (hts _ mb_652) dX5_unseal_61 ?_
  refine kq_ti (y := (nI 4)) (by simp [tm_L, tm_I, tm_D]) ?_
  refine lv_if_eq (tgt := 69) hx hb dX5_unseal_64 (by decide) (fun c => absurd c (by decide)) (fun _ => ?_)
  refine lv_lconst (v := 0) hx hb dX5_unseal_67 (by decide) ?_
  exact kq_lret hx hb hr hlk hP hD hS dX5_unseal_68
set_option maxHeartbeats 4000000 in
set_option maxRecDepth 100000 in
theorem p_unseal_n2 (u : tm_S) {j i : Nat} (hj : j < 4) (hi : i < 3) (hnl : u.2.1 11 0 = 0) (hh : ¬ u.2.1 0 j = 0) (ho : ¬ u.1 3 j = 0) (hd : ¬ u.1 6 i = u.1 3 j) : kr_M l dC dI ad cc yX5_unseal wsX5_unseal { frames := 1, cells := 0, slots := 0, locals := 23 } [.ref (ad 0), .int (nI j), .int (nI i)] u (tm_I (tm_I u 14 0 (nI 0)) 14 0 (nI 4)) (some (.long 0)) := by
  refine kq_ofW (cc := cX5_unseal) (maxL := 3) (ret := (some .long)) (R0 := RX5) (by decide) rfl rfl (Nat.le_of_ble_eq_true rfl) ?_
  intro p e s m below meth c A ls hx hb hr hlk hml hown hts hP hK hD hA hG hS hl
  have hl : lv_has ls 3 [(0, .ref (ad 0)), (1, .int (nI j)), (2, .int (nI i))] := hl
  refine lv_aload_n hx hb dX5_unseal_0 rfl (lv_at hl 0 rfl) ?_
  refine lv_aload_n hx hb dX5_unseal_1 rfl (lv_at hl 0 rfl) ?_
  refine lv_iload_n hx hb dX5_unseal_2 rfl (lv_at hl 1 rfl) ?_
  refine lv_iconst (v := (nI 3)) hx hb dX5_unseal_3 (by decide) ?_
  refine kq_cV (st1 := [.int (nI 0), .ref (ad 0)]) ⟨hx, hb, hml, hown, hts⟩ (r_out_in u (by omega) (by omega)) (cwV 2 hts gX5_109_X5_out rfl rfl rfl (by decide +kernel) ⟨Nat.le_of_ble_eq_true rfl, Nat.le_of_ble_eq_true rfl⟩) kq_okT hK hP hD hA hG hS (va_recv hK hP (ci := 5) (q0 := 0) rfl (tm_at (i := 0) (by omega) rfl)) rfl hl.1 rfl rfl (Nat.le_of_ble_eq_true rfl) dX5_unseal_4 ⟨Nat.le_of_ble_eq_true rfl, Nat.le_of_ble_eq_true rfl⟩ (fun H locs hP hD hS => ?_)
  refine lv_if_ne (tgt := 19) hx hb dX5_unseal_7 (by decide) (fun c => absurd (by decide) c) (fun _ => ?_)
  refine lv_aload_n hx hb dX5_unseal_10 rfl (lv_at hl 0 rfl) ?_
  refine lv_iload_n hx hb dX5_unseal_11 rfl (lv_at hl 2 rfl) ?_
  refine lv_iconst (v := (nI 2)) hx hb dX5_unseal_12 (by decide) ?_
  refine kq_cV (st1 := [.int (nI 0), .ref (ad 0)]) ⟨hx, hb, hml, hown, hts⟩ (r_out_in u (by omega) (by omega)) (cwV 2 hts gX5_109_X5_out rfl rfl rfl (by decide +kernel) ⟨Nat.le_of_ble_eq_true rfl, Nat.le_of_ble_eq_true rfl⟩) kq_okT hK hP hD hA hG hS (va_recv hK hP (ci := 5) (q0 := 0) rfl (tm_at (i := 0) (by omega) rfl)) rfl hl.1 rfl rfl (Nat.le_of_ble_eq_true rfl) dX5_unseal_13 ⟨Nat.le_of_ble_eq_true rfl, Nat.le_of_ble_eq_true rfl⟩ (fun H locs hP hD hS => ?_)
  refine lv_if_eq (tgt := 23) hx hb dX5_unseal_16 (by decide) (fun _ => ?_) (fun c => absurd (by decide) c)
  refine lv_iconst (v := (nI 0)) hx hb dX5_unseal_23 (by decide) ?_
  refine kq_cV (st1 := [.int (nI 1)]) ⟨hx, hb, hml, hown, hts⟩ (r_begin_ok u hnl) (cwV 1 hts gX5_113_X5_begin rfl rfl rfl (by decide +kernel) ⟨Nat.le_of_ble_eq_true rfl, Nat.le_of_ble_eq_true rfl⟩) kq_okT hK hP hD hA hG hS (va_recv hK hP (ci := 5) (q0 := 0) rfl (tm_at (i := 0) (by omega) rfl)) rfl hl.1 rfl rfl (Nat.le_of_ble_eq_true rfl) dX5_unseal_24 ⟨Nat.le_of_ble_eq_true rfl, Nat.le_of_ble_eq_true rfl⟩ (fun H locs hP hD hS => ?_)
  refine lv_if_ne (tgt := 32) hx hb dX5_unseal_27 (by decide) (fun _ => ?_) (fun c => absurd c (by decide))
  refine lv_aload_n hx hb dX5_unseal_32 rfl (lv_at hl 0 rfl) ?_
  refine lv_aload_n hx hb dX5_unseal_33 rfl (lv_at hl 0 rfl) ?_
  refine tr_g_used hx hb hts inB_X5 hown hK hP (hts _ mb_641) dX5_unseal_34 ?_
  refine lv_iload_n hx hb dX5_unseal_37 rfl (lv_at hl 1 rfl) ?_
  refine tr_l_used hx hb hK hP (by omega) dX5_unseal_38 ?_
  refine kq_ti (y := (u.2.1 0 j)) (by simp [tm_L, tm_I, tm_D]) ?_
  refine lv_if_ne (tgt := 46) hx hb dX5_unseal_39 (by decide) (fun _ => ?_) (fun c => absurd c hh)
  refine lv_aload_n hx hb dX5_unseal_46 rfl (lv_at hl 0 rfl) ?_
  refine lv_iload_n hx hb dX5_unseal_47 rfl (lv_at hl 2 rfl) ?_
  refine lv_aload_n hx hb dX5_unseal_48 rfl (lv_at hl 0 rfl) ?_
  refine tr_g_policy hx hb hts inB_X5 hown hK hP (hts _ mb_637) dX5_unseal_49 ?_
  refine lv_iload_n hx hb dX5_unseal_52 rfl (lv_at hl 1 rfl) ?_
  refine tr_l_policy hx hb hK hP (by omega) dX5_unseal_53 ?_
  refine kq_tl (y := (u.1 3 j)) (by simp [tm_L, tm_I, tm_D]) ?_
  refine kq_cV (st1 := [.int (nI 4), .ref (ad 0)]) ⟨hx, hb, hml, hown, hts⟩ (r_sat_n2 (tm_I u 14 0 (nI 0)) (k := i) (by omega) (u.1 3 j) (by simpa [tm_I] using ho) (by simpa [tm_I] using hd)) (cwV 2 hts gX5_140_X5_satisfied rfl rfl rfl (by decide +kernel) ⟨Nat.le_of_ble_eq_true rfl, Nat.le_of_ble_eq_true rfl⟩) kq_okT hK hP hD hA hG hS (va_recv hK hP (ci := 5) (q0 := 0) rfl (tm_at (i := 0) (by omega) rfl)) rfl hl.1 rfl rfl (Nat.le_of_ble_eq_true rfl) dX5_unseal_54 ⟨Nat.le_of_ble_eq_true rfl, Nat.le_of_ble_eq_true rfl⟩ (fun H locs hP hD hS => ?_)
  refine tr_p_thrown hx hb hts inB_X5 hown hK hP hD hS (hts _ mb_652) dX5_unseal_57 (fun H locs hP hD hS => ?_)
  refine lv_aload_n hx hb dX5_unseal_60 rfl (lv_at hl 0 rfl) ?_
  refine tr_g_thrown hx hb hts inB_X5 hown hK hP (hts _ mb_652) dX5_unseal_61 ?_
  refine kq_ti (y := (nI 4)) (by simp [tm_L, tm_I, tm_D]) ?_
  refine lv_if_eq (tgt := 69) hx hb dX5_unseal_64 (by decide) (fun c => absurd c (by decide)) (fun _ => ?_)
  refine lv_lconst (v := 0) hx hb dX5_unseal_67 (by decide) ?_
  exact kq_lret hx hb hr hlk hP hD hS dX5_unseal_68
set_option maxHeartbeats 4000000 in
set_option maxRecDepth 100000 in
theorem p_unseal_ch (u : tm_S) {j i : Nat} (hj : j < 4) (hi : i < 3) (hnl : u.2.1 11 0 = 0) (hh : ¬ u.2.1 0 j = 0) (ho : ¬ u.1 3 j = 0) (hd : u.1 6 i = u.1 3 j) (hq : ¬ u.2.1 4 i = 0) (hc : ¬ u.2.1 5 i = u.2.1 9 0) : kr_M l dC dI ad cc yX5_unseal wsX5_unseal { frames := 1, cells := 0, slots := 0, locals := 23 } [.ref (ad 0), .int (nI j), .int (nI i)] u (tm_I (tm_I u 14 0 (nI 0)) 14 0 (nI 2)) (some (.long 0)) := by
  refine kq_ofW (cc := cX5_unseal) (maxL := 3) (ret := (some .long)) (R0 := RX5) (by decide) rfl rfl (Nat.le_of_ble_eq_true rfl) ?_
  intro p e s m below meth c A ls hx hb hr hlk hml hown hts hP hK hD hA hG hS hl
  have hl : lv_has ls 3 [(0, .ref (ad 0)), (1, .int (nI j)), (2, .int (nI i))] := hl
  refine lv_aload_n hx hb dX5_unseal_0 rfl (lv_at hl 0 rfl) ?_
  refine lv_aload_n hx hb dX5_unseal_1 rfl (lv_at hl 0 rfl) ?_
  refine lv_iload_n hx hb dX5_unseal_2 rfl (lv_at hl 1 rfl) ?_
  refine lv_iconst (v := (nI 3)) hx hb dX5_unseal_3 (by decide) ?_
  refine kq_cV (st1 := [.int (nI 0), .ref (ad 0)]) ⟨hx, hb, hml, hown, hts⟩ (r_out_in u (by omega) (by omega)) (cwV 2 hts gX5_109_X5_out rfl rfl rfl (by decide +kernel) ⟨Nat.le_of_ble_eq_true rfl, Nat.le_of_ble_eq_true rfl⟩) kq_okT hK hP hD hA hG hS (va_recv hK hP (ci := 5) (q0 := 0) rfl (tm_at (i := 0) (by omega) rfl)) rfl hl.1 rfl rfl (Nat.le_of_ble_eq_true rfl) dX5_unseal_4 ⟨Nat.le_of_ble_eq_true rfl, Nat.le_of_ble_eq_true rfl⟩ (fun H locs hP hD hS => ?_)
  refine lv_if_ne (tgt := 19) hx hb dX5_unseal_7 (by decide) (fun c => absurd (by decide) c) (fun _ => ?_)
  refine lv_aload_n hx hb dX5_unseal_10 rfl (lv_at hl 0 rfl) ?_
  refine lv_iload_n hx hb dX5_unseal_11 rfl (lv_at hl 2 rfl) ?_
  refine lv_iconst (v := (nI 2)) hx hb dX5_unseal_12 (by decide) ?_
  refine kq_cV (st1 := [.int (nI 0), .ref (ad 0)]) ⟨hx, hb, hml, hown, hts⟩ (r_out_in u (by omega) (by omega)) (cwV 2 hts gX5_109_X5_out rfl rfl rfl (by decide +kernel) ⟨Nat.le_of_ble_eq_true rfl, Nat.le_of_ble_eq_true rfl⟩) kq_okT hK hP hD hA hG hS (va_recv hK hP (ci := 5) (q0 := 0) rfl (tm_at (i := 0) (by omega) rfl)) rfl hl.1 rfl rfl (Nat.le_of_ble_eq_true rfl) dX5_unseal_13 ⟨Nat.le_of_ble_eq_true rfl, Nat.le_of_ble_eq_true rfl⟩ (fun H locs hP hD hS => ?_)
  refine lv_if_eq (tgt := 23) hx hb dX5_unseal_16 (by decide) (fun _ => ?_) (fun c => absurd (by decide) c)
  refine lv_iconst (v := (nI 0)) hx hb dX5_unseal_23 (by decide) ?_
  refine kq_cV (st1 := [.int (nI 1)]) ⟨hx, hb, hml, hown, hts⟩ (r_begin_ok u hnl) (cwV 1 hts gX5_113_X5_begin rfl rfl rfl (by decide +kernel) ⟨Nat.le_of_ble_eq_true rfl, Nat.le_of_ble_eq_true rfl⟩) kq_okT hK hP hD hA hG hS (va_recv hK hP (ci := 5) (q0 := 0) rfl (tm_at (i := 0) (by omega) rfl)) rfl hl.1 rfl rfl (Nat.le_of_ble_eq_true rfl) dX5_unseal_24 ⟨Nat.le_of_ble_eq_true rfl, Nat.le_of_ble_eq_true rfl⟩ (fun H locs hP hD hS => ?_)
  refine lv_if_ne (tgt := 32) hx hb dX5_unseal_27 (by decide) (fun _ => ?_) (fun c => absurd c (by decide))
  refine lv_aload_n hx hb dX5_unseal_32 rfl (lv_at hl 0 rfl) ?_
  refine lv_aload_n hx hb dX5_unseal_33 rfl (lv_at hl 0 rfl) ?_
  refine tr_g_used hx hb hts inB_X5 hown hK hP (hts _ mb_641) dX5_unseal_34 ?_
  refine lv_iload_n hx hb dX5_unseal_37 rfl (lv_at hl 1 rfl) ?_
  refine tr_l_used hx hb hK hP (by omega) dX5_unseal_38 ?_
  refine kq_ti (y := (u.2.1 0 j)) (by simp [tm_L, tm_I, tm_D]) ?_
  refine lv_if_ne (tgt := 46) hx hb dX5_unseal_39 (by decide) (fun _ => ?_) (fun c => absurd c hh)
  refine lv_aload_n hx hb dX5_unseal_46 rfl (lv_at hl 0 rfl) ?_
  refine lv_iload_n hx hb dX5_unseal_47 rfl (lv_at hl 2 rfl) ?_
  refine lv_aload_n hx hb dX5_unseal_48 rfl (lv_at hl 0 rfl) ?_
  refine tr_g_policy hx hb hts inB_X5 hown hK hP (hts _ mb_637) dX5_unseal_49 ?_
  refine lv_iload_n hx hb dX5_unseal_52 rfl (lv_at hl 1 rfl) ?_
  refine tr_l_policy hx hb hK hP (by omega) dX5_unseal_53 ?_
  refine kq_tl (y := (u.1 3 j)) (by simp [tm_L, tm_I, tm_D]) ?_
  refine kq_cV (st1 := [.int (nI 2), .ref (ad 0)]) ⟨hx, hb, hml, hown, hts⟩ (r_sat_ch (tm_I u 14 0 (nI 0)) (k := i) (by omega) (u.1 3 j) (by simpa [tm_I] using ho) (by simpa [tm_I] using hd) (by simpa [tm_I] using hq) (by simpa [tm_I] using hc)) (cwV 2 hts gX5_140_X5_satisfied rfl rfl rfl (by decide +kernel) ⟨Nat.le_of_ble_eq_true rfl, Nat.le_of_ble_eq_true rfl⟩) kq_okT hK hP hD hA hG hS (va_recv hK hP (ci := 5) (q0 := 0) rfl (tm_at (i := 0) (by omega) rfl)) rfl hl.1 rfl rfl (Nat.le_of_ble_eq_true rfl) dX5_unseal_54 ⟨Nat.le_of_ble_eq_true rfl, Nat.le_of_ble_eq_true rfl⟩ (fun H locs hP hD hS => ?_)
  refine tr_p_thrown hx hb hts inB_X5 hown hK hP hD hS (hts _ mb_652) dX5_unseal_57 (fun H locs hP hD hS => ?_)
  refine lv_aload_n hx hb dX5_unseal_60 rfl (lv_at hl 0 rfl) ?_
  refine tr_g_thrown hx hb hts inB_X5 hown hK hP (hts _ mb_652) dX5_unseal_61 ?_
  refine kq_ti (y := (nI 2)) (by simp [tm_L, tm_I, tm_D]) ?_
  refine lv_if_eq (tgt := 69) hx hb dX5_unseal_64 (by decide) (fun c => absurd c (by decide)) (fun _ => ?_)
  refine lv_lconst (v := 0) hx hb dX5_unseal_67 (by decide) ?_
  exact kq_lret hx hb hr hlk hP hD hS dX5_unseal_68
set_option maxHeartbeats 4000000 in
set_option maxRecDepth 100000 in
theorem p_unseal_ok (u : tm_S) {j i : Nat} (hj : j < 4) (hi : i < 3) (hnl : u.2.1 11 0 = 0) (hh : ¬ u.2.1 0 j = 0) (ho : ¬ u.1 3 j = 0) (hd : u.1 6 i = u.1 3 j) (hq : ¬ u.2.1 4 i = 0 → u.2.1 5 i = u.2.1 9 0) : kr_M l dC dI ad cc yX5_unseal wsX5_unseal { frames := 1, cells := 0, slots := 0, locals := 23 } [.ref (ad 0), .int (nI j), .int (nI i)] u (tm_I (tm_L (tm_I (tm_I u 14 0 (nI 0)) 14 0 (nI 0)) 6 i 0) 4 i (nI 0)) (some (.long (u.1 4 j))) := by
  refine kq_ofW (cc := cX5_unseal) (maxL := 3) (ret := (some .long)) (R0 := RX5) (by decide) rfl rfl (Nat.le_of_ble_eq_true rfl) ?_
  intro p e s m below meth c A ls hx hb hr hlk hml hown hts hP hK hD hA hG hS hl
  have hl : lv_has ls 3 [(0, .ref (ad 0)), (1, .int (nI j)), (2, .int (nI i))] := hl
  refine lv_aload_n hx hb dX5_unseal_0 rfl (lv_at hl 0 rfl) ?_
  refine lv_aload_n hx hb dX5_unseal_1 rfl (lv_at hl 0 rfl) ?_
  refine lv_iload_n hx hb dX5_unseal_2 rfl (lv_at hl 1 rfl) ?_
  refine lv_iconst (v := (nI 3)) hx hb dX5_unseal_3 (by decide) ?_
  refine kq_cV (st1 := [.int (nI 0), .ref (ad 0)]) ⟨hx, hb, hml, hown, hts⟩ (r_out_in u (by omega) (by omega)) (cwV 2 hts gX5_109_X5_out rfl rfl rfl (by decide +kernel) ⟨Nat.le_of_ble_eq_true rfl, Nat.le_of_ble_eq_true rfl⟩) kq_okT hK hP hD hA hG hS (va_recv hK hP (ci := 5) (q0 := 0) rfl (tm_at (i := 0) (by omega) rfl)) rfl hl.1 rfl rfl (Nat.le_of_ble_eq_true rfl) dX5_unseal_4 ⟨Nat.le_of_ble_eq_true rfl, Nat.le_of_ble_eq_true rfl⟩ (fun H locs hP hD hS => ?_)
  refine lv_if_ne (tgt := 19) hx hb dX5_unseal_7 (by decide) (fun c => absurd (by decide) c) (fun _ => ?_)
  refine lv_aload_n hx hb dX5_unseal_10 rfl (lv_at hl 0 rfl) ?_
  refine lv_iload_n hx hb dX5_unseal_11 rfl (lv_at hl 2 rfl) ?_
  refine lv_iconst (v := (nI 2)) hx hb dX5_unseal_12 (by decide) ?_
  refine kq_cV (st1 := [.int (nI 0), .ref (ad 0)]) ⟨hx, hb, hml, hown, hts⟩ (r_out_in u (by omega) (by omega)) (cwV 2 hts gX5_109_X5_out rfl rfl rfl (by decide +kernel) ⟨Nat.le_of_ble_eq_true rfl, Nat.le_of_ble_eq_true rfl⟩) kq_okT hK hP hD hA hG hS (va_recv hK hP (ci := 5) (q0 := 0) rfl (tm_at (i := 0) (by omega) rfl)) rfl hl.1 rfl rfl (Nat.le_of_ble_eq_true rfl) dX5_unseal_13 ⟨Nat.le_of_ble_eq_true rfl, Nat.le_of_ble_eq_true rfl⟩ (fun H locs hP hD hS => ?_)
  refine lv_if_eq (tgt := 23) hx hb dX5_unseal_16 (by decide) (fun _ => ?_) (fun c => absurd (by decide) c)
  refine lv_iconst (v := (nI 0)) hx hb dX5_unseal_23 (by decide) ?_
  refine kq_cV (st1 := [.int (nI 1)]) ⟨hx, hb, hml, hown, hts⟩ (r_begin_ok u hnl) (cwV 1 hts gX5_113_X5_begin rfl rfl rfl (by decide +kernel) ⟨Nat.le_of_ble_eq_true rfl, Nat.le_of_ble_eq_true rfl⟩) kq_okT hK hP hD hA hG hS (va_recv hK hP (ci := 5) (q0 := 0) rfl (tm_at (i := 0) (by omega) rfl)) rfl hl.1 rfl rfl (Nat.le_of_ble_eq_true rfl) dX5_unseal_24 ⟨Nat.le_of_ble_eq_true rfl, Nat.le_of_ble_eq_true rfl⟩ (fun H locs hP hD hS => ?_)
  refine lv_if_ne (tgt := 32) hx hb dX5_unseal_27 (by decide) (fun _ => ?_) (fun c => absurd c (by decide))
  refine lv_aload_n hx hb dX5_unseal_32 rfl (lv_at hl 0 rfl) ?_
  refine lv_aload_n hx hb dX5_unseal_33 rfl (lv_at hl 0 rfl) ?_
  refine tr_g_used hx hb hts inB_X5 hown hK hP (hts _ mb_641) dX5_unseal_34 ?_
  refine lv_iload_n hx hb dX5_unseal_37 rfl (lv_at hl 1 rfl) ?_
  refine tr_l_used hx hb hK hP (by omega) dX5_unseal_38 ?_
  refine kq_ti (y := (u.2.1 0 j)) (by simp [tm_L, tm_I, tm_D]) ?_
  refine lv_if_ne (tgt := 46) hx hb dX5_unseal_39 (by decide) (fun _ => ?_) (fun c => absurd c hh)
  refine lv_aload_n hx hb dX5_unseal_46 rfl (lv_at hl 0 rfl) ?_
  refine lv_iload_n hx hb dX5_unseal_47 rfl (lv_at hl 2 rfl) ?_
  refine lv_aload_n hx hb dX5_unseal_48 rfl (lv_at hl 0 rfl) ?_
  refine tr_g_policy hx hb hts inB_X5 hown hK hP (hts _ mb_637) dX5_unseal_49 ?_
  refine lv_iload_n hx hb dX5_unseal_52 rfl (lv_at hl 1 rfl) ?_
  refine tr_l_policy hx hb hK hP (by omega) dX5_unseal_53 ?_
  refine kq_tl (y := (u.1 3 j)) (by simp [tm_L, tm_I, tm_D]) ?_
  refine kq_cV (st1 := [.int (nI 0), .ref (ad 0)]) ⟨hx, hb, hml, hown, hts⟩ (r_sat_ok (tm_I u 14 0 (nI 0)) (k := i) (by omega) (u.1 3 j) (by simpa [tm_I] using ho) (by simpa [tm_I] using hd) (by simpa [tm_I] using hq)) (cwV 2 hts gX5_140_X5_satisfied rfl rfl rfl (by decide +kernel) ⟨Nat.le_of_ble_eq_true rfl, Nat.le_of_ble_eq_true rfl⟩) kq_okT hK hP hD hA hG hS (va_recv hK hP (ci := 5) (q0 := 0) rfl (tm_at (i := 0) (by omega) rfl)) rfl hl.1 rfl rfl (Nat.le_of_ble_eq_true rfl) dX5_unseal_54 ⟨Nat.le_of_ble_eq_true rfl, Nat.le_of_ble_eq_true rfl⟩ (fun H locs hP hD hS => ?_)
  refine tr_p_thrown hx hb hts inB_X5 hown hK hP hD hS (hts _ mb_652) dX5_unseal_57 (fun H locs hP hD hS => ?_)
  refine lv_aload_n hx hb dX5_unseal_60 rfl (lv_at hl 0 rfl) ?_
  refine tr_g_thrown hx hb hts inB_X5 hown hK hP (hts _ mb_652) dX5_unseal_61 ?_
  refine kq_ti (y := (nI 0)) (by simp [tm_L, tm_I, tm_D]) ?_
  refine lv_if_eq (tgt := 69) hx hb dX5_unseal_64 (by decide) (fun _ => ?_) (fun c => absurd (by decide) c)
  refine lv_aload_n hx hb dX5_unseal_69 rfl (lv_at hl 0 rfl) ?_
  refine lv_iload_n hx hb dX5_unseal_70 rfl (lv_at hl 2 rfl) ?_
  refine kq_cV (st1 := []) ⟨hx, hb, hml, hown, hts⟩ (r_anew (tm_I (tm_I u 14 0 (nI 0)) 14 0 (nI 0)) (k := i) (by omega)) (cwV 1 hts gX5_105_X5_anew rfl rfl rfl (by decide +kernel) ⟨Nat.le_of_ble_eq_true rfl, Nat.le_of_ble_eq_true rfl⟩) kq_okT hK hP hD hA hG hS (va_recv hK hP (ci := 5) (q0 := 0) rfl (tm_at (i := 0) (by omega) rfl)) rfl hl.1 rfl rfl (Nat.le_of_ble_eq_true rfl) dX5_unseal_71 ⟨Nat.le_of_ble_eq_true rfl, Nat.le_of_ble_eq_true rfl⟩ (fun H locs hP hD hS => ?_)
  refine lv_aload_n hx hb dX5_unseal_74 rfl (lv_at hl 0 rfl) ?_
  refine tr_g_secret hx hb hts inB_X5 hown hK hP (hts _ mb_638) dX5_unseal_75 ?_
  refine lv_iload_n hx hb dX5_unseal_78 rfl (lv_at hl 1 rfl) ?_
  refine tr_l_secret hx hb hK hP (by omega) dX5_unseal_79 ?_
  refine kq_tl (y := (u.1 4 j)) (by simp [tm_L, tm_I, tm_D]) ?_
  exact kq_lret hx hb hr hlk hP hD hS dX5_unseal_80
set_option maxHeartbeats 4000000 in
set_option maxRecDepth 100000 in
theorem p_session_b1 (u : tm_S) (x : Int32) (h : x < 0 ∨ ¬ x ≤ nI 2)  : kr_M l dC dI ad cc yX5_session wsX5_session { frames := 1, cells := 0, slots := 0, locals := 22 } [.ref (ad 0), .int x] u (tm_I u 14 0 (nI 1)) none := by
  refine kq_ofW (cc := cX5_session) (maxL := 2) (ret := none) (R0 := RX5) (by decide) rfl rfl (Nat.le_of_ble_eq_true rfl) ?_
  intro p e s m below meth c A ls hx hb hr hlk hml hown hts hP hK hD hA hG hS hl
  have hl : lv_has ls 2 [(0, .ref (ad 0)), (1, .int x)] := hl
  refine lv_aload_n hx hb dX5_session_0 rfl (lv_at hl 0 rfl) ?_
  refine lv_aload_n hx hb dX5_session_1 rfl (lv_at hl 0 rfl) ?_
  refine lv_iload_n hx hb dX5_session_2 rfl (lv_at hl 1 rfl) ?_
  refine lv_iconst (v := (nI 2)) hx hb dX5_session_3 (by decide) ?_
  refine kq_cV (st1 := [.int (nI 1), .ref (ad 0)]) ⟨hx, hb, hml, hown, hts⟩ (r_out_no u h) (cwV 2 hts gX5_109_X5_out rfl rfl rfl (by decide +kernel) ⟨Nat.le_of_ble_eq_true rfl, Nat.le_of_ble_eq_true rfl⟩) kq_okT hK hP hD hA hG hS (va_recv hK hP (ci := 5) (q0 := 0) rfl (tm_at (i := 0) (by omega) rfl)) rfl hl.1 rfl rfl (Nat.le_of_ble_eq_true rfl) dX5_session_4 ⟨Nat.le_of_ble_eq_true rfl, Nat.le_of_ble_eq_true rfl⟩ (fun H locs hP hD hS => ?_)
  refine kq_cV (st1 := [.int (nI 0)]) ⟨hx, hb, hml, hown, hts⟩ (r_begin_bad u) (cwV 1 hts gX5_113_X5_begin rfl rfl rfl (by decide +kernel) ⟨Nat.le_of_ble_eq_true rfl, Nat.le_of_ble_eq_true rfl⟩) kq_okT hK hP hD hA hG hS (va_recv hK hP (ci := 5) (q0 := 0) rfl (tm_at (i := 0) (by omega) rfl)) rfl hl.1 rfl rfl (Nat.le_of_ble_eq_true rfl) dX5_session_7 ⟨Nat.le_of_ble_eq_true rfl, Nat.le_of_ble_eq_true rfl⟩ (fun H locs hP hD hS => ?_)
  refine lv_if_eq (tgt := 18) hx hb dX5_session_10 (by decide) (fun _ => ?_) (fun c => absurd (by decide) c)
  exact kq_vret hx hb hr hlk hP hD hS dX5_session_18
set_option maxHeartbeats 4000000 in
set_option maxRecDepth 100000 in
theorem p_session_lo (u : tm_S) {j : Nat} (hj : j < 3) (hlo : ¬ u.2.1 11 0 = 0)  : kr_M l dC dI ad cc yX5_session wsX5_session { frames := 1, cells := 0, slots := 0, locals := 22 } [.ref (ad 0), .int (nI j)] u (tm_I u 14 0 (nI 2)) none := by
  refine kq_ofW (cc := cX5_session) (maxL := 2) (ret := none) (R0 := RX5) (by decide) rfl rfl (Nat.le_of_ble_eq_true rfl) ?_
  intro p e s m below meth c A ls hx hb hr hlk hml hown hts hP hK hD hA hG hS hl
  have hl : lv_has ls 2 [(0, .ref (ad 0)), (1, .int (nI j))] := hl
  refine lv_aload_n hx hb dX5_session_0 rfl (lv_at hl 0 rfl) ?_
  refine lv_aload_n hx hb dX5_session_1 rfl (lv_at hl 0 rfl) ?_
  refine lv_iload_n hx hb dX5_session_2 rfl (lv_at hl 1 rfl) ?_
  refine lv_iconst (v := (nI 2)) hx hb dX5_session_3 (by decide) ?_
  refine kq_cV (st1 := [.int (nI 0), .ref (ad 0)]) ⟨hx, hb, hml, hown, hts⟩ (r_out_in u (by omega) (by omega)) (cwV 2 hts gX5_109_X5_out rfl rfl rfl (by decide +kernel) ⟨Nat.le_of_ble_eq_true rfl, Nat.le_of_ble_eq_true rfl⟩) kq_okT hK hP hD hA hG hS (va_recv hK hP (ci := 5) (q0 := 0) rfl (tm_at (i := 0) (by omega) rfl)) rfl hl.1 rfl rfl (Nat.le_of_ble_eq_true rfl) dX5_session_4 ⟨Nat.le_of_ble_eq_true rfl, Nat.le_of_ble_eq_true rfl⟩ (fun H locs hP hD hS => ?_)
  refine kq_cV (st1 := [.int (nI 0)]) ⟨hx, hb, hml, hown, hts⟩ (r_begin_lost u hlo) (cwV 1 hts gX5_113_X5_begin rfl rfl rfl (by decide +kernel) ⟨Nat.le_of_ble_eq_true rfl, Nat.le_of_ble_eq_true rfl⟩) kq_okT hK hP hD hA hG hS (va_recv hK hP (ci := 5) (q0 := 0) rfl (tm_at (i := 0) (by omega) rfl)) rfl hl.1 rfl rfl (Nat.le_of_ble_eq_true rfl) dX5_session_7 ⟨Nat.le_of_ble_eq_true rfl, Nat.le_of_ble_eq_true rfl⟩ (fun H locs hP hD hS => ?_)
  refine lv_if_eq (tgt := 18) hx hb dX5_session_10 (by decide) (fun _ => ?_) (fun c => absurd (by decide) c)
  exact kq_vret hx hb hr hlk hP hD hS dX5_session_18
set_option maxHeartbeats 4000000 in
set_option maxRecDepth 100000 in
theorem p_session_ok (u : tm_S) {j : Nat} (hj : j < 3) (hnl : u.2.1 11 0 = 0)  : kr_M l dC dI ad cc yX5_session wsX5_session { frames := 1, cells := 0, slots := 0, locals := 22 } [.ref (ad 0), .int (nI j)] u (tm_I (tm_L (tm_I u 14 0 (nI 0)) 6 j 0) 4 j (nI 0)) none := by
  refine kq_ofW (cc := cX5_session) (maxL := 2) (ret := none) (R0 := RX5) (by decide) rfl rfl (Nat.le_of_ble_eq_true rfl) ?_
  intro p e s m below meth c A ls hx hb hr hlk hml hown hts hP hK hD hA hG hS hl
  have hl : lv_has ls 2 [(0, .ref (ad 0)), (1, .int (nI j))] := hl
  refine lv_aload_n hx hb dX5_session_0 rfl (lv_at hl 0 rfl) ?_
  refine lv_aload_n hx hb dX5_session_1 rfl (lv_at hl 0 rfl) ?_
  refine lv_iload_n hx hb dX5_session_2 rfl (lv_at hl 1 rfl) ?_
  refine lv_iconst (v := (nI 2)) hx hb dX5_session_3 (by decide) ?_
  refine kq_cV (st1 := [.int (nI 0), .ref (ad 0)]) ⟨hx, hb, hml, hown, hts⟩ (r_out_in u (by omega) (by omega)) (cwV 2 hts gX5_109_X5_out rfl rfl rfl (by decide +kernel) ⟨Nat.le_of_ble_eq_true rfl, Nat.le_of_ble_eq_true rfl⟩) kq_okT hK hP hD hA hG hS (va_recv hK hP (ci := 5) (q0 := 0) rfl (tm_at (i := 0) (by omega) rfl)) rfl hl.1 rfl rfl (Nat.le_of_ble_eq_true rfl) dX5_session_4 ⟨Nat.le_of_ble_eq_true rfl, Nat.le_of_ble_eq_true rfl⟩ (fun H locs hP hD hS => ?_)
  refine kq_cV (st1 := [.int (nI 1)]) ⟨hx, hb, hml, hown, hts⟩ (r_begin_ok u hnl) (cwV 1 hts gX5_113_X5_begin rfl rfl rfl (by decide +kernel) ⟨Nat.le_of_ble_eq_true rfl, Nat.le_of_ble_eq_true rfl⟩) kq_okT hK hP hD hA hG hS (va_recv hK hP (ci := 5) (q0 := 0) rfl (tm_at (i := 0) (by omega) rfl)) rfl hl.1 rfl rfl (Nat.le_of_ble_eq_true rfl) dX5_session_7 ⟨Nat.le_of_ble_eq_true rfl, Nat.le_of_ble_eq_true rfl⟩ (fun H locs hP hD hS => ?_)
  refine lv_if_eq (tgt := 18) hx hb dX5_session_10 (by decide) (fun c => absurd c (by decide)) (fun _ => ?_)
  refine lv_aload_n hx hb dX5_session_13 rfl (lv_at hl 0 rfl) ?_
  refine lv_iload_n hx hb dX5_session_14 rfl (lv_at hl 1 rfl) ?_
  refine kq_cV (st1 := []) ⟨hx, hb, hml, hown, hts⟩ (r_anew (tm_I u 14 0 (nI 0)) (k := j) (by omega)) (cwV 1 hts gX5_105_X5_anew rfl rfl rfl (by decide +kernel) ⟨Nat.le_of_ble_eq_true rfl, Nat.le_of_ble_eq_true rfl⟩) kq_okT hK hP hD hA hG hS (va_recv hK hP (ci := 5) (q0 := 0) rfl (tm_at (i := 0) (by omega) rfl)) rfl hl.1 rfl rfl (Nat.le_of_ble_eq_true rfl) dX5_session_15 ⟨Nat.le_of_ble_eq_true rfl, Nat.le_of_ble_eq_true rfl⟩ (fun H locs hP hD hS => ?_)
  exact kq_vret hx hb hr hlk hP hD hS dX5_session_18
set_option maxHeartbeats 4000000 in
set_option maxRecDepth 100000 in
theorem p_either_b1 (u : tm_S) (x : Int32) (h : x < 0 ∨ ¬ x ≤ nI 2) (a b : Int64)  : kr_M l dC dI ad cc yX5_either wsX5_either { frames := 1, cells := 0, slots := 0, locals := 26 } [.ref (ad 0), .int x, .long a, .long b] u (tm_I u 14 0 (nI 1)) (some (.long 0)) := by
  refine kq_ofW (cc := cX5_either) (maxL := 6) (ret := (some .long)) (R0 := RX5) (by decide) rfl rfl (Nat.le_of_ble_eq_true rfl) ?_
  intro p e s m below meth c A ls hx hb hr hlk hml hown hts hP hK hD hA hG hS hl
  have hl : lv_has ls 6 [(0, .ref (ad 0)), (1, .int x), (2, .long a), (4, .long b)] := hl
  refine lv_aload_n hx hb dX5_either_0 rfl (lv_at hl 0 rfl) ?_
  refine lv_aload_n hx hb dX5_either_1 rfl (lv_at hl 0 rfl) ?_
  refine lv_iload_n hx hb dX5_either_2 rfl (lv_at hl 1 rfl) ?_
  refine lv_iconst (v := (nI 2)) hx hb dX5_either_3 (by decide) ?_
  refine kq_cV (st1 := [.int (nI 1), .ref (ad 0)]) ⟨hx, hb, hml, hown, hts⟩ (r_out_no u h) (cwV 2 hts gX5_109_X5_out rfl rfl rfl (by decide +kernel) ⟨Nat.le_of_ble_eq_true rfl, Nat.le_of_ble_eq_true rfl⟩) kq_okT hK hP hD hA hG hS (va_recv hK hP (ci := 5) (q0 := 0) rfl (tm_at (i := 0) (by omega) rfl)) rfl hl.1 rfl rfl (Nat.le_of_ble_eq_true rfl) dX5_either_4 ⟨Nat.le_of_ble_eq_true rfl, Nat.le_of_ble_eq_true rfl⟩ (fun H locs hP hD hS => ?_)
  refine kq_cV (st1 := [.int (nI 0)]) ⟨hx, hb, hml, hown, hts⟩ (r_begin_bad u) (cwV 1 hts gX5_113_X5_begin rfl rfl rfl (by decide +kernel) ⟨Nat.le_of_ble_eq_true rfl, Nat.le_of_ble_eq_true rfl⟩) kq_okT hK hP hD hA hG hS (va_recv hK hP (ci := 5) (q0 := 0) rfl (tm_at (i := 0) (by omega) rfl)) rfl hl.1 rfl rfl (Nat.le_of_ble_eq_true rfl) dX5_either_7 ⟨Nat.le_of_ble_eq_true rfl, Nat.le_of_ble_eq_true rfl⟩ (fun H locs hP hD hS => ?_)
  refine lv_if_ne (tgt := 15) hx hb dX5_either_10 (by decide) (fun c => absurd (by decide) c) (fun _ => ?_)
  refine lv_lconst (v := 0) hx hb dX5_either_13 (by decide) ?_
  exact kq_lret hx hb hr hlk hP hD hS dX5_either_14
set_option maxHeartbeats 4000000 in
set_option maxRecDepth 100000 in
theorem p_either_lo (u : tm_S) {j : Nat} (hj : j < 3) (a b : Int64) (hlo : ¬ u.2.1 11 0 = 0)  : kr_M l dC dI ad cc yX5_either wsX5_either { frames := 1, cells := 0, slots := 0, locals := 26 } [.ref (ad 0), .int (nI j), .long a, .long b] u (tm_I u 14 0 (nI 2)) (some (.long 0)) := by
  refine kq_ofW (cc := cX5_either) (maxL := 6) (ret := (some .long)) (R0 := RX5) (by decide) rfl rfl (Nat.le_of_ble_eq_true rfl) ?_
  intro p e s m below meth c A ls hx hb hr hlk hml hown hts hP hK hD hA hG hS hl
  have hl : lv_has ls 6 [(0, .ref (ad 0)), (1, .int (nI j)), (2, .long a), (4, .long b)] := hl
  refine lv_aload_n hx hb dX5_either_0 rfl (lv_at hl 0 rfl) ?_
  refine lv_aload_n hx hb dX5_either_1 rfl (lv_at hl 0 rfl) ?_
  refine lv_iload_n hx hb dX5_either_2 rfl (lv_at hl 1 rfl) ?_
  refine lv_iconst (v := (nI 2)) hx hb dX5_either_3 (by decide) ?_
  refine kq_cV (st1 := [.int (nI 0), .ref (ad 0)]) ⟨hx, hb, hml, hown, hts⟩ (r_out_in u (by omega) (by omega)) (cwV 2 hts gX5_109_X5_out rfl rfl rfl (by decide +kernel) ⟨Nat.le_of_ble_eq_true rfl, Nat.le_of_ble_eq_true rfl⟩) kq_okT hK hP hD hA hG hS (va_recv hK hP (ci := 5) (q0 := 0) rfl (tm_at (i := 0) (by omega) rfl)) rfl hl.1 rfl rfl (Nat.le_of_ble_eq_true rfl) dX5_either_4 ⟨Nat.le_of_ble_eq_true rfl, Nat.le_of_ble_eq_true rfl⟩ (fun H locs hP hD hS => ?_)
  refine kq_cV (st1 := [.int (nI 0)]) ⟨hx, hb, hml, hown, hts⟩ (r_begin_lost u hlo) (cwV 1 hts gX5_113_X5_begin rfl rfl rfl (by decide +kernel) ⟨Nat.le_of_ble_eq_true rfl, Nat.le_of_ble_eq_true rfl⟩) kq_okT hK hP hD hA hG hS (va_recv hK hP (ci := 5) (q0 := 0) rfl (tm_at (i := 0) (by omega) rfl)) rfl hl.1 rfl rfl (Nat.le_of_ble_eq_true rfl) dX5_either_7 ⟨Nat.le_of_ble_eq_true rfl, Nat.le_of_ble_eq_true rfl⟩ (fun H locs hP hD hS => ?_)
  refine lv_if_ne (tgt := 15) hx hb dX5_either_10 (by decide) (fun c => absurd (by decide) c) (fun _ => ?_)
  refine lv_lconst (v := 0) hx hb dX5_either_13 (by decide) ?_
  exact kq_lret hx hb hr hlk hP hD hS dX5_either_14
set_option maxHeartbeats 4000000 in
set_option maxRecDepth 100000 in
theorem p_either_no (u : tm_S) {j : Nat} (hj : j < 3) (a b : Int64) (hnl : u.2.1 11 0 = 0) (h1 : ¬ u.1 6 j = a) (h2 : ¬ u.1 6 j = b) : kr_M l dC dI ad cc yX5_either wsX5_either { frames := 1, cells := 0, slots := 0, locals := 26 } [.ref (ad 0), .int (nI j), .long a, .long b] u (tm_I (tm_I u 14 0 (nI 0)) 14 0 (nI 3)) (some (.long 0)) := by
  refine kq_ofW (cc := cX5_either) (maxL := 6) (ret := (some .long)) (R0 := RX5) (by decide) rfl rfl (Nat.le_of_ble_eq_true rfl) ?_
  intro p e s m below meth c A ls hx hb hr hlk hml hown hts hP hK hD hA hG hS hl
  have hl : lv_has ls 6 [(0, .ref (ad 0)), (1, .int (nI j)), (2, .long a), (4, .long b)] := hl
  refine lv_aload_n hx hb dX5_either_0 rfl (lv_at hl 0 rfl) ?_
  refine lv_aload_n hx hb dX5_either_1 rfl (lv_at hl 0 rfl) ?_
  refine lv_iload_n hx hb dX5_either_2 rfl (lv_at hl 1 rfl) ?_
  refine lv_iconst (v := (nI 2)) hx hb dX5_either_3 (by decide) ?_
  refine kq_cV (st1 := [.int (nI 0), .ref (ad 0)]) ⟨hx, hb, hml, hown, hts⟩ (r_out_in u (by omega) (by omega)) (cwV 2 hts gX5_109_X5_out rfl rfl rfl (by decide +kernel) ⟨Nat.le_of_ble_eq_true rfl, Nat.le_of_ble_eq_true rfl⟩) kq_okT hK hP hD hA hG hS (va_recv hK hP (ci := 5) (q0 := 0) rfl (tm_at (i := 0) (by omega) rfl)) rfl hl.1 rfl rfl (Nat.le_of_ble_eq_true rfl) dX5_either_4 ⟨Nat.le_of_ble_eq_true rfl, Nat.le_of_ble_eq_true rfl⟩ (fun H locs hP hD hS => ?_)
  refine kq_cV (st1 := [.int (nI 1)]) ⟨hx, hb, hml, hown, hts⟩ (r_begin_ok u hnl) (cwV 1 hts gX5_113_X5_begin rfl rfl rfl (by decide +kernel) ⟨Nat.le_of_ble_eq_true rfl, Nat.le_of_ble_eq_true rfl⟩) kq_okT hK hP hD hA hG hS (va_recv hK hP (ci := 5) (q0 := 0) rfl (tm_at (i := 0) (by omega) rfl)) rfl hl.1 rfl rfl (Nat.le_of_ble_eq_true rfl) dX5_either_7 ⟨Nat.le_of_ble_eq_true rfl, Nat.le_of_ble_eq_true rfl⟩ (fun H locs hP hD hS => ?_)
  refine lv_if_ne (tgt := 15) hx hb dX5_either_10 (by decide) (fun _ => ?_) (fun c => absurd c (by decide))
  refine lv_aload_n hx hb dX5_either_15 rfl (lv_at hl 0 rfl) ?_
  refine lv_aload_n hx hb dX5_either_16 rfl (lv_at hl 0 rfl) ?_
  refine tr_g_digest hx hb hts inB_X5 hown hK hP (hts _ mb_632) dX5_either_17 ?_
  refine lv_iload_n hx hb dX5_either_20 rfl (lv_at hl 1 rfl) ?_
  refine tr_l_digest hx hb hK hP (by omega) dX5_either_21 ?_
  refine kq_tl (y := (u.1 6 j)) (by simp [tm_L, tm_I, tm_D]) ?_
  refine lv_lload_n hx hb dX5_either_22 rfl (lv_at hl 2 rfl) ?_
  refine W.lcmp hx hb dX5_either_23 ?_
  refine lv_if_eq (tgt := 43) hx hb dX5_either_24 (by decide) (fun c => absurd c (fun q => h1 (tm_cmp0.mp q))) (fun _ => ?_)
  refine lv_aload_n hx hb dX5_either_27 rfl (lv_at hl 0 rfl) ?_
  refine tr_g_digest hx hb hts inB_X5 hown hK hP (hts _ mb_632) dX5_either_28 ?_
  refine lv_iload_n hx hb dX5_either_31 rfl (lv_at hl 1 rfl) ?_
  refine tr_l_digest hx hb hK hP (by omega) dX5_either_32 ?_
  refine kq_tl (y := (u.1 6 j)) (by simp [tm_L, tm_I, tm_D]) ?_
  refine lv_lload hx hb dX5_either_33 (lv_at hl 3 rfl) ?_
  refine W.lcmp hx hb dX5_either_35 ?_
  refine lv_if_eq (tgt := 43) hx hb dX5_either_36 (by decide) (fun c => absurd c (fun q => h2 (tm_cmp0.mp q))) (fun _ => ?_)
  refine lv_iconst (v := (nI 3)) hx hb dX5_either_39 (by decide) ?_
  refine lv_goto (tgt := 44) hx hb dX5_either_40 (by decide) ?_
  refine tr_p_thrown hx hb hts inB_X5 hown hK hP hD hS (hts _ mb_652) dX5_either_44 (fun H locs hP hD hS => ?_)
  refine lv_aload_n hx hb dX5_either_47 rfl (lv_at hl 0 rfl) ?_
  refine tr_g_thrown hx hb hts inB_X5 hown hK hP (hts _ mb_652) dX5_either_48 ?_
  refine kq_ti (y := (nI 3)) (by simp [tm_L, tm_I, tm_D]) ?_
  refine lv_if_eq (tgt := 56) hx hb dX5_either_51 (by decide) (fun c => absurd c (by decide)) (fun _ => ?_)
  refine lv_lconst (v := 0) hx hb dX5_either_54 (by decide) ?_
  exact kq_lret hx hb hr hlk hP hD hS dX5_either_55
set_option maxHeartbeats 4000000 in
set_option maxRecDepth 100000 in
theorem p_either_a (u : tm_S) {j : Nat} (hj : j < 3) (a b : Int64) (hnl : u.2.1 11 0 = 0) (h1 : u.1 6 j = a) : kr_M l dC dI ad cc yX5_either wsX5_either { frames := 1, cells := 0, slots := 0, locals := 26 } [.ref (ad 0), .int (nI j), .long a, .long b] u (tm_L (tm_I (tm_I u 14 0 (nI 0)) 14 0 (nI 0)) 6 j (tm_h 12 (tm_h a b))) (some (.long (tm_h 12 (tm_h a b)))) := by
  refine kq_ofW (cc := cX5_either) (maxL := 6) (ret := (some .long)) (R0 := RX5) (by decide) rfl rfl (Nat.le_of_ble_eq_true rfl) ?_
  intro p e s m below meth c A ls hx hb hr hlk hml hown hts hP hK hD hA hG hS hl
  have hl : lv_has ls 6 [(0, .ref (ad 0)), (1, .int (nI j)), (2, .long a), (4, .long b)] := hl
  refine lv_aload_n hx hb dX5_either_0 rfl (lv_at hl 0 rfl) ?_
  refine lv_aload_n hx hb dX5_either_1 rfl (lv_at hl 0 rfl) ?_
  refine lv_iload_n hx hb dX5_either_2 rfl (lv_at hl 1 rfl) ?_
  refine lv_iconst (v := (nI 2)) hx hb dX5_either_3 (by decide) ?_
  refine kq_cV (st1 := [.int (nI 0), .ref (ad 0)]) ⟨hx, hb, hml, hown, hts⟩ (r_out_in u (by omega) (by omega)) (cwV 2 hts gX5_109_X5_out rfl rfl rfl (by decide +kernel) ⟨Nat.le_of_ble_eq_true rfl, Nat.le_of_ble_eq_true rfl⟩) kq_okT hK hP hD hA hG hS (va_recv hK hP (ci := 5) (q0 := 0) rfl (tm_at (i := 0) (by omega) rfl)) rfl hl.1 rfl rfl (Nat.le_of_ble_eq_true rfl) dX5_either_4 ⟨Nat.le_of_ble_eq_true rfl, Nat.le_of_ble_eq_true rfl⟩ (fun H locs hP hD hS => ?_)
  refine kq_cV (st1 := [.int (nI 1)]) ⟨hx, hb, hml, hown, hts⟩ (r_begin_ok u hnl) (cwV 1 hts gX5_113_X5_begin rfl rfl rfl (by decide +kernel) ⟨Nat.le_of_ble_eq_true rfl, Nat.le_of_ble_eq_true rfl⟩) kq_okT hK hP hD hA hG hS (va_recv hK hP (ci := 5) (q0 := 0) rfl (tm_at (i := 0) (by omega) rfl)) rfl hl.1 rfl rfl (Nat.le_of_ble_eq_true rfl) dX5_either_7 ⟨Nat.le_of_ble_eq_true rfl, Nat.le_of_ble_eq_true rfl⟩ (fun H locs hP hD hS => ?_)
  refine lv_if_ne (tgt := 15) hx hb dX5_either_10 (by decide) (fun _ => ?_) (fun c => absurd c (by decide))
  refine lv_aload_n hx hb dX5_either_15 rfl (lv_at hl 0 rfl) ?_
  refine lv_aload_n hx hb dX5_either_16 rfl (lv_at hl 0 rfl) ?_
  refine tr_g_digest hx hb hts inB_X5 hown hK hP (hts _ mb_632) dX5_either_17 ?_
  refine lv_iload_n hx hb dX5_either_20 rfl (lv_at hl 1 rfl) ?_
  refine tr_l_digest hx hb hK hP (by omega) dX5_either_21 ?_
  refine kq_tl (y := (u.1 6 j)) (by simp [tm_L, tm_I, tm_D]) ?_
  refine lv_lload_n hx hb dX5_either_22 rfl (lv_at hl 2 rfl) ?_
  refine W.lcmp hx hb dX5_either_23 ?_
  refine lv_if_eq (tgt := 43) hx hb dX5_either_24 (by decide) (fun _ => ?_) (fun c => absurd (tm_cmp0.mpr h1) c)
  refine lv_iconst (v := (nI 0)) hx hb dX5_either_43 (by decide) ?_
  refine tr_p_thrown hx hb hts inB_X5 hown hK hP hD hS (hts _ mb_652) dX5_either_44 (fun H locs hP hD hS => ?_)
  refine lv_aload_n hx hb dX5_either_47 rfl (lv_at hl 0 rfl) ?_
  refine tr_g_thrown hx hb hts inB_X5 hown hK hP (hts _ mb_652) dX5_either_48 ?_
  refine kq_ti (y := (nI 0)) (by simp [tm_L, tm_I, tm_D]) ?_
  refine lv_if_eq (tgt := 56) hx hb dX5_either_51 (by decide) (fun _ => ?_) (fun c => absurd (by decide) c)
  refine lv_aload_n hx hb dX5_either_56 rfl (lv_at hl 0 rfl) ?_
  refine tr_g_digest hx hb hts inB_X5 hown hK hP (hts _ mb_632) dX5_either_57 ?_
  refine lv_iload_n hx hb dX5_either_60 rfl (lv_at hl 1 rfl) ?_
  refine lv_aload_n hx hb dX5_either_61 rfl (lv_at hl 0 rfl) ?_
  refine lv_ldc2 hx hb hown (hts _ mb_800) dX5_either_62 ?_
  refine lv_aload_n hx hb dX5_either_65 rfl (lv_at hl 0 rfl) ?_
  refine lv_lload_n hx hb dX5_either_66 rfl (lv_at hl 2 rfl) ?_
  refine lv_lload hx hb dX5_either_67 (lv_at hl 3 rfl) ?_
  refine kq_cV (st1 := [.long (tm_h a b), .long 12, .ref (ad 0), .int (nI j), .ref (ad 3)]) ⟨hx, hb, hml, hown, hts⟩ (r_mix (tm_I (tm_I u 14 0 (nI 0)) 14 0 (nI 0)) a b) (cwV 2 hts gX5_74_X5_mix rfl rfl rfl (by decide +kernel) ⟨Nat.le_of_ble_eq_true rfl, Nat.le_of_ble_eq_true rfl⟩) kq_okT hK hP hD hA hG hS (va_recv hK hP (ci := 5) (q0 := 0) rfl (tm_at (i := 0) (by omega) rfl)) rfl hl.1 rfl rfl (Nat.le_of_ble_eq_true rfl) dX5_either_69 ⟨Nat.le_of_ble_eq_true rfl, Nat.le_of_ble_eq_true rfl⟩ (fun H locs hP hD hS => ?_)
  refine kq_cV (st1 := [.long (tm_h 12 (tm_h a b)), .int (nI j), .ref (ad 3)]) ⟨hx, hb, hml, hown, hts⟩ (r_mix (tm_I (tm_I u 14 0 (nI 0)) 14 0 (nI 0)) 12 (tm_h a b)) (cwV 2 hts gX5_74_X5_mix rfl rfl rfl (by decide +kernel) ⟨Nat.le_of_ble_eq_true rfl, Nat.le_of_ble_eq_true rfl⟩) kq_okT hK hP hD hA hG hS (va_recv hK hP (ci := 5) (q0 := 0) rfl (tm_at (i := 0) (by omega) rfl)) rfl hl.1 rfl rfl (Nat.le_of_ble_eq_true rfl) dX5_either_72 ⟨Nat.le_of_ble_eq_true rfl, Nat.le_of_ble_eq_true rfl⟩ (fun H locs hP hD hS => ?_)
  refine tr_t_digest hx hb hK hP hD hS (by omega) dX5_either_75 (fun H locs hP hD hS => ?_)
  refine lv_aload_n hx hb dX5_either_76 rfl (lv_at hl 0 rfl) ?_
  refine tr_g_digest hx hb hts inB_X5 hown hK hP (hts _ mb_632) dX5_either_77 ?_
  refine lv_iload_n hx hb dX5_either_80 rfl (lv_at hl 1 rfl) ?_
  refine tr_l_digest hx hb hK hP (by omega) dX5_either_81 ?_
  refine kq_tl (y := (tm_h 12 (tm_h a b))) (by simp [tm_L, tm_I, tm_D]) ?_
  exact kq_lret hx hb hr hlk hP hD hS dX5_either_82
set_option maxHeartbeats 4000000 in
set_option maxRecDepth 100000 in
theorem p_either_b (u : tm_S) {j : Nat} (hj : j < 3) (a b : Int64) (hnl : u.2.1 11 0 = 0) (h1 : ¬ u.1 6 j = a) (h2 : u.1 6 j = b) : kr_M l dC dI ad cc yX5_either wsX5_either { frames := 1, cells := 0, slots := 0, locals := 26 } [.ref (ad 0), .int (nI j), .long a, .long b] u (tm_L (tm_I (tm_I u 14 0 (nI 0)) 14 0 (nI 0)) 6 j (tm_h 12 (tm_h a b))) (some (.long (tm_h 12 (tm_h a b)))) := by
  refine kq_ofW (cc := cX5_either) (maxL := 6) (ret := (some .long)) (R0 := RX5) (by decide) rfl rfl (Nat.le_of_ble_eq_true rfl) ?_
  intro p e s m below meth c A ls hx hb hr hlk hml hown hts hP hK hD hA hG hS hl
  have hl : lv_has ls 6 [(0, .ref (ad 0)), (1, .int (nI j)), (2, .long a), (4, .long b)] := hl
  refine lv_aload_n hx hb dX5_either_0 rfl (lv_at hl 0 rfl) ?_
  refine lv_aload_n hx hb dX5_either_1 rfl (lv_at hl 0 rfl) ?_
  refine lv_iload_n hx hb dX5_either_2 rfl (lv_at hl 1 rfl) ?_
  refine lv_iconst (v := (nI 2)) hx hb dX5_either_3 (by decide) ?_
  refine kq_cV (st1 := [.int (nI 0), .ref (ad 0)]) ⟨hx, hb, hml, hown, hts⟩ (r_out_in u (by omega) (by omega)) (cwV 2 hts gX5_109_X5_out rfl rfl rfl (by decide +kernel) ⟨Nat.le_of_ble_eq_true rfl, Nat.le_of_ble_eq_true rfl⟩) kq_okT hK hP hD hA hG hS (va_recv hK hP (ci := 5) (q0 := 0) rfl (tm_at (i := 0) (by omega) rfl)) rfl hl.1 rfl rfl (Nat.le_of_ble_eq_true rfl) dX5_either_4 ⟨Nat.le_of_ble_eq_true rfl, Nat.le_of_ble_eq_true rfl⟩ (fun H locs hP hD hS => ?_)
  refine kq_cV (st1 := [.int (nI 1)]) ⟨hx, hb, hml, hown, hts⟩ (r_begin_ok u hnl) (cwV 1 hts gX5_113_X5_begin rfl rfl rfl (by decide +kernel) ⟨Nat.le_of_ble_eq_true rfl, Nat.le_of_ble_eq_true rfl⟩) kq_okT hK hP hD hA hG hS (va_recv hK hP (ci := 5) (q0 := 0) rfl (tm_at (i := 0) (by omega) rfl)) rfl hl.1 rfl rfl (Nat.le_of_ble_eq_true rfl) dX5_either_7 ⟨Nat.le_of_ble_eq_true rfl, Nat.le_of_ble_eq_true rfl⟩ (fun H locs hP hD hS => ?_)
  refine lv_if_ne (tgt := 15) hx hb dX5_either_10 (by decide) (fun _ => ?_) (fun c => absurd c (by decide))
  refine lv_aload_n hx hb dX5_either_15 rfl (lv_at hl 0 rfl) ?_
  refine lv_aload_n hx hb dX5_either_16 rfl (lv_at hl 0 rfl) ?_
  refine tr_g_digest hx hb hts inB_X5 hown hK hP (hts _ mb_632) dX5_either_17 ?_
  refine lv_iload_n hx hb dX5_either_20 rfl (lv_at hl 1 rfl) ?_
  refine tr_l_digest hx hb hK hP (by omega) dX5_either_21 ?_
  refine kq_tl (y := (u.1 6 j)) (by simp [tm_L, tm_I, tm_D]) ?_
  refine lv_lload_n hx hb dX5_either_22 rfl (lv_at hl 2 rfl) ?_
  refine W.lcmp hx hb dX5_either_23 ?_
  refine lv_if_eq (tgt := 43) hx hb dX5_either_24 (by decide) (fun c => absurd c (fun q => h1 (tm_cmp0.mp q))) (fun _ => ?_)
  refine lv_aload_n hx hb dX5_either_27 rfl (lv_at hl 0 rfl) ?_
  refine tr_g_digest hx hb hts inB_X5 hown hK hP (hts _ mb_632) dX5_either_28 ?_
  refine lv_iload_n hx hb dX5_either_31 rfl (lv_at hl 1 rfl) ?_
  refine tr_l_digest hx hb hK hP (by omega) dX5_either_32 ?_
  refine kq_tl (y := (u.1 6 j)) (by simp [tm_L, tm_I, tm_D]) ?_
  refine lv_lload hx hb dX5_either_33 (lv_at hl 3 rfl) ?_
  refine W.lcmp hx hb dX5_either_35 ?_
  refine lv_if_eq (tgt := 43) hx hb dX5_either_36 (by decide) (fun _ => ?_) (fun c => absurd (tm_cmp0.mpr h2) c)
  refine lv_iconst (v := (nI 0)) hx hb dX5_either_43 (by decide) ?_
  refine tr_p_thrown hx hb hts inB_X5 hown hK hP hD hS (hts _ mb_652) dX5_either_44 (fun H locs hP hD hS => ?_)
  refine lv_aload_n hx hb dX5_either_47 rfl (lv_at hl 0 rfl) ?_
  refine tr_g_thrown hx hb hts inB_X5 hown hK hP (hts _ mb_652) dX5_either_48 ?_
  refine kq_ti (y := (nI 0)) (by simp [tm_L, tm_I, tm_D]) ?_
  refine lv_if_eq (tgt := 56) hx hb dX5_either_51 (by decide) (fun _ => ?_) (fun c => absurd (by decide) c)
  refine lv_aload_n hx hb dX5_either_56 rfl (lv_at hl 0 rfl) ?_
  refine tr_g_digest hx hb hts inB_X5 hown hK hP (hts _ mb_632) dX5_either_57 ?_
  refine lv_iload_n hx hb dX5_either_60 rfl (lv_at hl 1 rfl) ?_
  refine lv_aload_n hx hb dX5_either_61 rfl (lv_at hl 0 rfl) ?_
  refine lv_ldc2 hx hb hown (hts _ mb_800) dX5_either_62 ?_
  refine lv_aload_n hx hb dX5_either_65 rfl (lv_at hl 0 rfl) ?_
  refine lv_lload_n hx hb dX5_either_66 rfl (lv_at hl 2 rfl) ?_
  refine lv_lload hx hb dX5_either_67 (lv_at hl 3 rfl) ?_
  refine kq_cV (st1 := [.long (tm_h a b), .long 12, .ref (ad 0), .int (nI j), .ref (ad 3)]) ⟨hx, hb, hml, hown, hts⟩ (r_mix (tm_I (tm_I u 14 0 (nI 0)) 14 0 (nI 0)) a b) (cwV 2 hts gX5_74_X5_mix rfl rfl rfl (by decide +kernel) ⟨Nat.le_of_ble_eq_true rfl, Nat.le_of_ble_eq_true rfl⟩) kq_okT hK hP hD hA hG hS (va_recv hK hP (ci := 5) (q0 := 0) rfl (tm_at (i := 0) (by omega) rfl)) rfl hl.1 rfl rfl (Nat.le_of_ble_eq_true rfl) dX5_either_69 ⟨Nat.le_of_ble_eq_true rfl, Nat.le_of_ble_eq_true rfl⟩ (fun H locs hP hD hS => ?_)
  refine kq_cV (st1 := [.long (tm_h 12 (tm_h a b)), .int (nI j), .ref (ad 3)]) ⟨hx, hb, hml, hown, hts⟩ (r_mix (tm_I (tm_I u 14 0 (nI 0)) 14 0 (nI 0)) 12 (tm_h a b)) (cwV 2 hts gX5_74_X5_mix rfl rfl rfl (by decide +kernel) ⟨Nat.le_of_ble_eq_true rfl, Nat.le_of_ble_eq_true rfl⟩) kq_okT hK hP hD hA hG hS (va_recv hK hP (ci := 5) (q0 := 0) rfl (tm_at (i := 0) (by omega) rfl)) rfl hl.1 rfl rfl (Nat.le_of_ble_eq_true rfl) dX5_either_72 ⟨Nat.le_of_ble_eq_true rfl, Nat.le_of_ble_eq_true rfl⟩ (fun H locs hP hD hS => ?_)
  refine tr_t_digest hx hb hK hP hD hS (by omega) dX5_either_75 (fun H locs hP hD hS => ?_)
  refine lv_aload_n hx hb dX5_either_76 rfl (lv_at hl 0 rfl) ?_
  refine tr_g_digest hx hb hts inB_X5 hown hK hP (hts _ mb_632) dX5_either_77 ?_
  refine lv_iload_n hx hb dX5_either_80 rfl (lv_at hl 1 rfl) ?_
  refine tr_l_digest hx hb hK hP (by omega) dX5_either_81 ?_
  refine kq_tl (y := (tm_h 12 (tm_h a b))) (by simp [tm_L, tm_I, tm_D]) ?_
  exact kq_lret hx hb hr hlk hP hD hS dX5_either_82
set_option maxHeartbeats 4000000 in
set_option maxRecDepth 100000 in
theorem p_with_b1 (u : tm_S) (x : Int32) (h : x < 0 ∨ ¬ x ≤ nI 2) (i : Int32) (wd : Int32)  : kr_M l dC dI ad cc yX5_with wsX5_with { frames := 2, cells := 0, slots := 0, locals := 47 } [.ref (ad 0), .int x, .int i, .int wd] u (tm_I u 14 0 (nI 1)) (some (.long 0)) := by
  refine kq_ofW (cc := cX5_with) (maxL := 4) (ret := (some .long)) (R0 := RX5) (by decide) rfl rfl (Nat.le_of_ble_eq_true rfl) ?_
  intro p e s m below meth c A ls hx hb hr hlk hml hown hts hP hK hD hA hG hS hl
  have hl : lv_has ls 4 [(0, .ref (ad 0)), (1, .int x), (2, .int i), (3, .int wd)] := hl
  refine lv_aload_n hx hb dX5_with_0 rfl (lv_at hl 0 rfl) ?_
  refine lv_aload_n hx hb dX5_with_1 rfl (lv_at hl 0 rfl) ?_
  refine lv_iload_n hx hb dX5_with_2 rfl (lv_at hl 1 rfl) ?_
  refine lv_iconst (v := (nI 2)) hx hb dX5_with_3 (by decide) ?_
  refine kq_cV (st1 := [.int (nI 1), .ref (ad 0)]) ⟨hx, hb, hml, hown, hts⟩ (r_out_no u h) (cwV 2 hts gX5_109_X5_out rfl rfl rfl (by decide +kernel) ⟨Nat.le_of_ble_eq_true rfl, Nat.le_of_ble_eq_true rfl⟩) kq_okT hK hP hD hA hG hS (va_recv hK hP (ci := 5) (q0 := 0) rfl (tm_at (i := 0) (by omega) rfl)) rfl hl.1 rfl rfl (Nat.le_of_ble_eq_true rfl) dX5_with_4 ⟨Nat.le_of_ble_eq_true rfl, Nat.le_of_ble_eq_true rfl⟩ (fun H locs hP hD hS => ?_)
  refine lv_if_ne (tgt := 19) hx hb dX5_with_7 (by decide) (fun _ => ?_) (fun c => absurd c (by decide))
  refine lv_iconst (v := (nI 1)) hx hb dX5_with_19 (by decide) ?_
  refine lv_goto (tgt := 24) hx hb dX5_with_20 (by decide) ?_
  refine kq_cV (st1 := [.int (nI 0)]) ⟨hx, hb, hml, hown, hts⟩ (r_begin_bad u) (cwV 1 hts gX5_113_X5_begin rfl rfl rfl (by decide +kernel) ⟨Nat.le_of_ble_eq_true rfl, Nat.le_of_ble_eq_true rfl⟩) kq_okT hK hP hD hA hG hS (va_recv hK hP (ci := 5) (q0 := 0) rfl (tm_at (i := 0) (by omega) rfl)) rfl hl.1 rfl rfl (Nat.le_of_ble_eq_true rfl) dX5_with_24 ⟨Nat.le_of_ble_eq_true rfl, Nat.le_of_ble_eq_true rfl⟩ (fun H locs hP hD hS => ?_)
  refine lv_if_ne (tgt := 32) hx hb dX5_with_27 (by decide) (fun c => absurd (by decide) c) (fun _ => ?_)
  refine lv_lconst (v := 0) hx hb dX5_with_30 (by decide) ?_
  exact kq_lret hx hb hr hlk hP hD hS dX5_with_31
set_option maxHeartbeats 4000000 in
set_option maxRecDepth 100000 in
theorem p_with_b2 (u : tm_S) {j : Nat} (hj : j < 3) (x : Int32) (h : x < 0 ∨ ¬ x ≤ nI 3) (wd : Int32)  : kr_M l dC dI ad cc yX5_with wsX5_with { frames := 2, cells := 0, slots := 0, locals := 47 } [.ref (ad 0), .int (nI j), .int x, .int wd] u (tm_I u 14 0 (nI 1)) (some (.long 0)) := by
  refine kq_ofW (cc := cX5_with) (maxL := 4) (ret := (some .long)) (R0 := RX5) (by decide) rfl rfl (Nat.le_of_ble_eq_true rfl) ?_
  intro p e s m below meth c A ls hx hb hr hlk hml hown hts hP hK hD hA hG hS hl
  have hl : lv_has ls 4 [(0, .ref (ad 0)), (1, .int (nI j)), (2, .int x), (3, .int wd)] := hl
  refine lv_aload_n hx hb dX5_with_0 rfl (lv_at hl 0 rfl) ?_
  refine lv_aload_n hx hb dX5_with_1 rfl (lv_at hl 0 rfl) ?_
  refine lv_iload_n hx hb dX5_with_2 rfl (lv_at hl 1 rfl) ?_
  refine lv_iconst (v := (nI 2)) hx hb dX5_with_3 (by decide) ?_
  refine kq_cV (st1 := [.int (nI 0), .ref (ad 0)]) ⟨hx, hb, hml, hown, hts⟩ (r_out_in u (by omega) (by omega)) (cwV 2 hts gX5_109_X5_out rfl rfl rfl (by decide +kernel) ⟨Nat.le_of_ble_eq_true rfl, Nat.le_of_ble_eq_true rfl⟩) kq_okT hK hP hD hA hG hS (va_recv hK hP (ci := 5) (q0 := 0) rfl (tm_at (i := 0) (by omega) rfl)) rfl hl.1 rfl rfl (Nat.le_of_ble_eq_true rfl) dX5_with_4 ⟨Nat.le_of_ble_eq_true rfl, Nat.le_of_ble_eq_true rfl⟩ (fun H locs hP hD hS => ?_)
  refine lv_if_ne (tgt := 19) hx hb dX5_with_7 (by decide) (fun c => absurd (by decide) c) (fun _ => ?_)
  refine lv_aload_n hx hb dX5_with_10 rfl (lv_at hl 0 rfl) ?_
  refine lv_iload_n hx hb dX5_with_11 rfl (lv_at hl 2 rfl) ?_
  refine lv_iconst (v := (nI 3)) hx hb dX5_with_12 (by decide) ?_
  refine kq_cV (st1 := [.int (nI 1), .ref (ad 0)]) ⟨hx, hb, hml, hown, hts⟩ (r_out_no u h) (cwV 2 hts gX5_109_X5_out rfl rfl rfl (by decide +kernel) ⟨Nat.le_of_ble_eq_true rfl, Nat.le_of_ble_eq_true rfl⟩) kq_okT hK hP hD hA hG hS (va_recv hK hP (ci := 5) (q0 := 0) rfl (tm_at (i := 0) (by omega) rfl)) rfl hl.1 rfl rfl (Nat.le_of_ble_eq_true rfl) dX5_with_13 ⟨Nat.le_of_ble_eq_true rfl, Nat.le_of_ble_eq_true rfl⟩ (fun H locs hP hD hS => ?_)
  refine lv_if_eq (tgt := 23) hx hb dX5_with_16 (by decide) (fun c => absurd c (by decide)) (fun _ => ?_)
  refine lv_iconst (v := (nI 1)) hx hb dX5_with_19 (by decide) ?_
  refine lv_goto (tgt := 24) hx hb dX5_with_20 (by decide) ?_
  refine kq_cV (st1 := [.int (nI 0)]) ⟨hx, hb, hml, hown, hts⟩ (r_begin_bad u) (cwV 1 hts gX5_113_X5_begin rfl rfl rfl (by decide +kernel) ⟨Nat.le_of_ble_eq_true rfl, Nat.le_of_ble_eq_true rfl⟩) kq_okT hK hP hD hA hG hS (va_recv hK hP (ci := 5) (q0 := 0) rfl (tm_at (i := 0) (by omega) rfl)) rfl hl.1 rfl rfl (Nat.le_of_ble_eq_true rfl) dX5_with_24 ⟨Nat.le_of_ble_eq_true rfl, Nat.le_of_ble_eq_true rfl⟩ (fun H locs hP hD hS => ?_)
  refine lv_if_ne (tgt := 32) hx hb dX5_with_27 (by decide) (fun c => absurd (by decide) c) (fun _ => ?_)
  refine lv_lconst (v := 0) hx hb dX5_with_30 (by decide) ?_
  exact kq_lret hx hb hr hlk hP hD hS dX5_with_31
set_option maxHeartbeats 4000000 in
set_option maxRecDepth 100000 in
theorem p_with_lo (u : tm_S) {j i : Nat} (hj : j < 3) (hi : i < 4) (wd : Int32) (hlo : ¬ u.2.1 11 0 = 0)  : kr_M l dC dI ad cc yX5_with wsX5_with { frames := 2, cells := 0, slots := 0, locals := 47 } [.ref (ad 0), .int (nI j), .int (nI i), .int wd] u (tm_I u 14 0 (nI 2)) (some (.long 0)) := by
  refine kq_ofW (cc := cX5_with) (maxL := 4) (ret := (some .long)) (R0 := RX5) (by decide) rfl rfl (Nat.le_of_ble_eq_true rfl) ?_
  intro p e s m below meth c A ls hx hb hr hlk hml hown hts hP hK hD hA hG hS hl
  have hl : lv_has ls 4 [(0, .ref (ad 0)), (1, .int (nI j)), (2, .int (nI i)), (3, .int wd)] := hl
  refine lv_aload_n hx hb dX5_with_0 rfl (lv_at hl 0 rfl) ?_
  refine lv_aload_n hx hb dX5_with_1 rfl (lv_at hl 0 rfl) ?_
  refine lv_iload_n hx hb dX5_with_2 rfl (lv_at hl 1 rfl) ?_
  refine lv_iconst (v := (nI 2)) hx hb dX5_with_3 (by decide) ?_
  refine kq_cV (st1 := [.int (nI 0), .ref (ad 0)]) ⟨hx, hb, hml, hown, hts⟩ (r_out_in u (by omega) (by omega)) (cwV 2 hts gX5_109_X5_out rfl rfl rfl (by decide +kernel) ⟨Nat.le_of_ble_eq_true rfl, Nat.le_of_ble_eq_true rfl⟩) kq_okT hK hP hD hA hG hS (va_recv hK hP (ci := 5) (q0 := 0) rfl (tm_at (i := 0) (by omega) rfl)) rfl hl.1 rfl rfl (Nat.le_of_ble_eq_true rfl) dX5_with_4 ⟨Nat.le_of_ble_eq_true rfl, Nat.le_of_ble_eq_true rfl⟩ (fun H locs hP hD hS => ?_)
  refine lv_if_ne (tgt := 19) hx hb dX5_with_7 (by decide) (fun c => absurd (by decide) c) (fun _ => ?_)
  refine lv_aload_n hx hb dX5_with_10 rfl (lv_at hl 0 rfl) ?_
  refine lv_iload_n hx hb dX5_with_11 rfl (lv_at hl 2 rfl) ?_
  refine lv_iconst (v := (nI 3)) hx hb dX5_with_12 (by decide) ?_
  refine kq_cV (st1 := [.int (nI 0), .ref (ad 0)]) ⟨hx, hb, hml, hown, hts⟩ (r_out_in u (by omega) (by omega)) (cwV 2 hts gX5_109_X5_out rfl rfl rfl (by decide +kernel) ⟨Nat.le_of_ble_eq_true rfl, Nat.le_of_ble_eq_true rfl⟩) kq_okT hK hP hD hA hG hS (va_recv hK hP (ci := 5) (q0 := 0) rfl (tm_at (i := 0) (by omega) rfl)) rfl hl.1 rfl rfl (Nat.le_of_ble_eq_true rfl) dX5_with_13 ⟨Nat.le_of_ble_eq_true rfl, Nat.le_of_ble_eq_true rfl⟩ (fun H locs hP hD hS => ?_)
  refine lv_if_eq (tgt := 23) hx hb dX5_with_16 (by decide) (fun _ => ?_) (fun c => absurd (by decide) c)
  refine lv_iconst (v := (nI 0)) hx hb dX5_with_23 (by decide) ?_
  refine kq_cV (st1 := [.int (nI 0)]) ⟨hx, hb, hml, hown, hts⟩ (r_begin_lost u hlo) (cwV 1 hts gX5_113_X5_begin rfl rfl rfl (by decide +kernel) ⟨Nat.le_of_ble_eq_true rfl, Nat.le_of_ble_eq_true rfl⟩) kq_okT hK hP hD hA hG hS (va_recv hK hP (ci := 5) (q0 := 0) rfl (tm_at (i := 0) (by omega) rfl)) rfl hl.1 rfl rfl (Nat.le_of_ble_eq_true rfl) dX5_with_24 ⟨Nat.le_of_ble_eq_true rfl, Nat.le_of_ble_eq_true rfl⟩ (fun H locs hP hD hS => ?_)
  refine lv_if_ne (tgt := 32) hx hb dX5_with_27 (by decide) (fun c => absurd (by decide) c) (fun _ => ?_)
  refine lv_lconst (v := 0) hx hb dX5_with_30 (by decide) ?_
  exact kq_lret hx hb hr hlk hP hD hS dX5_with_31
set_option maxHeartbeats 4000000 in
set_option maxRecDepth 100000 in
theorem p_with_free (u : tm_S) {j i : Nat} (hj : j < 3) (hi : i < 4) (wd : Int32) (hnl : u.2.1 11 0 = 0) (hh : u.2.1 0 i = 0) : kr_M l dC dI ad cc yX5_with wsX5_with { frames := 2, cells := 0, slots := 0, locals := 47 } [.ref (ad 0), .int (nI j), .int (nI i), .int wd] u (tm_I (tm_I u 14 0 (nI 0)) 14 0 (nI 3)) (some (.long 0)) := by
  refine kq_ofW (cc := cX5_with) (maxL := 4) (ret := (some .long)) (R0 := RX5) (by decide) rfl rfl (Nat.le_of_ble_eq_true rfl) ?_
  intro p e s m below meth c A ls hx hb hr hlk hml hown hts hP hK hD hA hG hS hl
  have hl : lv_has ls 4 [(0, .ref (ad 0)), (1, .int (nI j)), (2, .int (nI i)), (3, .int wd)] := hl
  refine lv_aload_n hx hb dX5_with_0 rfl (lv_at hl 0 rfl) ?_
  refine lv_aload_n hx hb dX5_with_1 rfl (lv_at hl 0 rfl) ?_
  refine lv_iload_n hx hb dX5_with_2 rfl (lv_at hl 1 rfl) ?_
  refine lv_iconst (v := (nI 2)) hx hb dX5_with_3 (by decide) ?_
  refine kq_cV (st1 := [.int (nI 0), .ref (ad 0)]) ⟨hx, hb, hml, hown, hts⟩ (r_out_in u (by omega) (by omega)) (cwV 2 hts gX5_109_X5_out rfl rfl rfl (by decide +kernel) ⟨Nat.le_of_ble_eq_true rfl, Nat.le_of_ble_eq_true rfl⟩) kq_okT hK hP hD hA hG hS (va_recv hK hP (ci := 5) (q0 := 0) rfl (tm_at (i := 0) (by omega) rfl)) rfl hl.1 rfl rfl (Nat.le_of_ble_eq_true rfl) dX5_with_4 ⟨Nat.le_of_ble_eq_true rfl, Nat.le_of_ble_eq_true rfl⟩ (fun H locs hP hD hS => ?_)
  refine lv_if_ne (tgt := 19) hx hb dX5_with_7 (by decide) (fun c => absurd (by decide) c) (fun _ => ?_)
  refine lv_aload_n hx hb dX5_with_10 rfl (lv_at hl 0 rfl) ?_
  refine lv_iload_n hx hb dX5_with_11 rfl (lv_at hl 2 rfl) ?_
  refine lv_iconst (v := (nI 3)) hx hb dX5_with_12 (by decide) ?_
  refine kq_cV (st1 := [.int (nI 0), .ref (ad 0)]) ⟨hx, hb, hml, hown, hts⟩ (r_out_in u (by omega) (by omega)) (cwV 2 hts gX5_109_X5_out rfl rfl rfl (by decide +kernel) ⟨Nat.le_of_ble_eq_true rfl, Nat.le_of_ble_eq_true rfl⟩) kq_okT hK hP hD hA hG hS (va_recv hK hP (ci := 5) (q0 := 0) rfl (tm_at (i := 0) (by omega) rfl)) rfl hl.1 rfl rfl (Nat.le_of_ble_eq_true rfl) dX5_with_13 ⟨Nat.le_of_ble_eq_true rfl, Nat.le_of_ble_eq_true rfl⟩ (fun H locs hP hD hS => ?_)
  refine lv_if_eq (tgt := 23) hx hb dX5_with_16 (by decide) (fun _ => ?_) (fun c => absurd (by decide) c)
  refine lv_iconst (v := (nI 0)) hx hb dX5_with_23 (by decide) ?_
  refine kq_cV (st1 := [.int (nI 1)]) ⟨hx, hb, hml, hown, hts⟩ (r_begin_ok u hnl) (cwV 1 hts gX5_113_X5_begin rfl rfl rfl (by decide +kernel) ⟨Nat.le_of_ble_eq_true rfl, Nat.le_of_ble_eq_true rfl⟩) kq_okT hK hP hD hA hG hS (va_recv hK hP (ci := 5) (q0 := 0) rfl (tm_at (i := 0) (by omega) rfl)) rfl hl.1 rfl rfl (Nat.le_of_ble_eq_true rfl) dX5_with_24 ⟨Nat.le_of_ble_eq_true rfl, Nat.le_of_ble_eq_true rfl⟩ (fun H locs hP hD hS => ?_)
  refine lv_if_ne (tgt := 32) hx hb dX5_with_27 (by decide) (fun _ => ?_) (fun c => absurd c (by decide))
  refine lv_aload_n hx hb dX5_with_32 rfl (lv_at hl 0 rfl) ?_
  refine lv_aload_n hx hb dX5_with_33 rfl (lv_at hl 0 rfl) ?_
  refine tr_g_used hx hb hts inB_X5 hown hK hP (hts _ mb_641) dX5_with_34 ?_
  refine lv_iload_n hx hb dX5_with_37 rfl (lv_at hl 2 rfl) ?_
  refine tr_l_used hx hb hK hP (by omega) dX5_with_38 ?_
  refine kq_ti (y := (u.2.1 0 i)) (by simp [tm_L, tm_I, tm_D]) ?_
  refine lv_if_ne (tgt := 46) hx hb dX5_with_39 (by decide) (fun c => absurd hh c) (fun _ => ?_)
  refine lv_iconst (v := (nI 3)) hx hb dX5_with_42 (by decide) ?_
  refine lv_goto (tgt := 52) hx hb dX5_with_43 (by decide) ?_
  refine tr_p_thrown hx hb hts inB_X5 hown hK hP hD hS (hts _ mb_652) dX5_with_52 (fun H locs hP hD hS => ?_)
  refine lv_aload_n hx hb dX5_with_55 rfl (lv_at hl 0 rfl) ?_
  refine tr_g_thrown hx hb hts inB_X5 hown hK hP (hts _ mb_652) dX5_with_56 ?_
  refine kq_ti (y := (nI 3)) (by simp [tm_L, tm_I, tm_D]) ?_
  refine lv_if_eq (tgt := 64) hx hb dX5_with_59 (by decide) (fun c => absurd c (by decide)) (fun _ => ?_)
  refine lv_lconst (v := 0) hx hb dX5_with_62 (by decide) ?_
  exact kq_lret hx hb hr hlk hP hD hS dX5_with_63
set_option maxHeartbeats 4000000 in
set_option maxRecDepth 100000 in
theorem p_with_w0 (u : tm_S) {j i : Nat} (hj : j < 3) (hi : i < 4) (wd : Int32) (hnl : u.2.1 11 0 = 0) (hh : ¬ u.2.1 0 i = 0) (hw : u.2.1 1 i = 0) : kr_M l dC dI ad cc yX5_with wsX5_with { frames := 2, cells := 0, slots := 0, locals := 47 } [.ref (ad 0), .int (nI j), .int (nI i), .int wd] u (tm_L (tm_I (tm_I u 14 0 (nI 0)) 14 0 (nI 0)) 6 j (tm_h (tm_h (u.1 6 j) 13) (tm_h (tm_h ((tm_I (tm_I u 14 0 (nI 0)) 14 0 (nI 0)).1 2 i) (((tm_I (tm_I u 14 0 (nI 0)) 14 0 (nI 0)).2.1 1 i).toInt64)) (tm_h ((tm_I (tm_I u 14 0 (nI 0)) 14 0 (nI 0)).1 3 i) ((tm_I (tm_I u 14 0 (nI 0)) 14 0 (nI 0)).1 4 i))))) (some (.long (tm_h (tm_h (u.1 6 j) 13) (tm_h (tm_h ((tm_I (tm_I u 14 0 (nI 0)) 14 0 (nI 0)).1 2 i) (((tm_I (tm_I u 14 0 (nI 0)) 14 0 (nI 0)).2.1 1 i).toInt64)) (tm_h ((tm_I (tm_I u 14 0 (nI 0)) 14 0 (nI 0)).1 3 i) ((tm_I (tm_I u 14 0 (nI 0)) 14 0 (nI 0)).1 4 i)))))) := by
  refine kq_ofW (cc := cX5_with) (maxL := 4) (ret := (some .long)) (R0 := RX5) (by decide) rfl rfl (Nat.le_of_ble_eq_true rfl) ?_
  intro p e s m below meth c A ls hx hb hr hlk hml hown hts hP hK hD hA hG hS hl
  have hl : lv_has ls 4 [(0, .ref (ad 0)), (1, .int (nI j)), (2, .int (nI i)), (3, .int wd)] := hl
  refine lv_aload_n hx hb dX5_with_0 rfl (lv_at hl 0 rfl) ?_
  refine lv_aload_n hx hb dX5_with_1 rfl (lv_at hl 0 rfl) ?_
  refine lv_iload_n hx hb dX5_with_2 rfl (lv_at hl 1 rfl) ?_
  refine lv_iconst (v := (nI 2)) hx hb dX5_with_3 (by decide) ?_
  refine kq_cV (st1 := [.int (nI 0), .ref (ad 0)]) ⟨hx, hb, hml, hown, hts⟩ (r_out_in u (by omega) (by omega)) (cwV 2 hts gX5_109_X5_out rfl rfl rfl (by decide +kernel) ⟨Nat.le_of_ble_eq_true rfl, Nat.le_of_ble_eq_true rfl⟩) kq_okT hK hP hD hA hG hS (va_recv hK hP (ci := 5) (q0 := 0) rfl (tm_at (i := 0) (by omega) rfl)) rfl hl.1 rfl rfl (Nat.le_of_ble_eq_true rfl) dX5_with_4 ⟨Nat.le_of_ble_eq_true rfl, Nat.le_of_ble_eq_true rfl⟩ (fun H locs hP hD hS => ?_)
  refine lv_if_ne (tgt := 19) hx hb dX5_with_7 (by decide) (fun c => absurd (by decide) c) (fun _ => ?_)
  refine lv_aload_n hx hb dX5_with_10 rfl (lv_at hl 0 rfl) ?_
  refine lv_iload_n hx hb dX5_with_11 rfl (lv_at hl 2 rfl) ?_
  refine lv_iconst (v := (nI 3)) hx hb dX5_with_12 (by decide) ?_
  refine kq_cV (st1 := [.int (nI 0), .ref (ad 0)]) ⟨hx, hb, hml, hown, hts⟩ (r_out_in u (by omega) (by omega)) (cwV 2 hts gX5_109_X5_out rfl rfl rfl (by decide +kernel) ⟨Nat.le_of_ble_eq_true rfl, Nat.le_of_ble_eq_true rfl⟩) kq_okT hK hP hD hA hG hS (va_recv hK hP (ci := 5) (q0 := 0) rfl (tm_at (i := 0) (by omega) rfl)) rfl hl.1 rfl rfl (Nat.le_of_ble_eq_true rfl) dX5_with_13 ⟨Nat.le_of_ble_eq_true rfl, Nat.le_of_ble_eq_true rfl⟩ (fun H locs hP hD hS => ?_)
  refine lv_if_eq (tgt := 23) hx hb dX5_with_16 (by decide) (fun _ => ?_) (fun c => absurd (by decide) c)
  refine lv_iconst (v := (nI 0)) hx hb dX5_with_23 (by decide) ?_
  refine kq_cV (st1 := [.int (nI 1)]) ⟨hx, hb, hml, hown, hts⟩ (r_begin_ok u hnl) (cwV 1 hts gX5_113_X5_begin rfl rfl rfl (by decide +kernel) ⟨Nat.le_of_ble_eq_true rfl, Nat.le_of_ble_eq_true rfl⟩) kq_okT hK hP hD hA hG hS (va_recv hK hP (ci := 5) (q0 := 0) rfl (tm_at (i := 0) (by omega) rfl)) rfl hl.1 rfl rfl (Nat.le_of_ble_eq_true rfl) dX5_with_24 ⟨Nat.le_of_ble_eq_true rfl, Nat.le_of_ble_eq_true rfl⟩ (fun H locs hP hD hS => ?_)
  refine lv_if_ne (tgt := 32) hx hb dX5_with_27 (by decide) (fun _ => ?_) (fun c => absurd c (by decide))
  refine lv_aload_n hx hb dX5_with_32 rfl (lv_at hl 0 rfl) ?_
  refine lv_aload_n hx hb dX5_with_33 rfl (lv_at hl 0 rfl) ?_
  refine tr_g_used hx hb hts inB_X5 hown hK hP (hts _ mb_641) dX5_with_34 ?_
  refine lv_iload_n hx hb dX5_with_37 rfl (lv_at hl 2 rfl) ?_
  refine tr_l_used hx hb hK hP (by omega) dX5_with_38 ?_
  refine kq_ti (y := (u.2.1 0 i)) (by simp [tm_L, tm_I, tm_D]) ?_
  refine lv_if_ne (tgt := 46) hx hb dX5_with_39 (by decide) (fun _ => ?_) (fun c => absurd c hh)
  refine lv_aload_n hx hb dX5_with_46 rfl (lv_at hl 0 rfl) ?_
  refine lv_iload_n hx hb dX5_with_47 rfl (lv_at hl 2 rfl) ?_
  refine lv_iload_n hx hb dX5_with_48 rfl (lv_at hl 3 rfl) ?_
  refine kq_cV (st1 := [.int (nI 0), .ref (ad 0)]) ⟨hx, hb, hml, hown, hts⟩ (r_allowed_0 (tm_I u 14 0 (nI 0)) (k := i) (by omega) wd (by simpa [tm_I] using hw)) (cwV 2 hts gX5_136_X5_allowed rfl rfl rfl (by decide +kernel) ⟨Nat.le_of_ble_eq_true rfl, Nat.le_of_ble_eq_true rfl⟩) kq_okT hK hP hD hA hG hS (va_recv hK hP (ci := 5) (q0 := 0) rfl (tm_at (i := 0) (by omega) rfl)) rfl hl.1 rfl rfl (Nat.le_of_ble_eq_true rfl) dX5_with_49 ⟨Nat.le_of_ble_eq_true rfl, Nat.le_of_ble_eq_true rfl⟩ (fun H locs hP hD hS => ?_)
  refine tr_p_thrown hx hb hts inB_X5 hown hK hP hD hS (hts _ mb_652) dX5_with_52 (fun H locs hP hD hS => ?_)
  refine lv_aload_n hx hb dX5_with_55 rfl (lv_at hl 0 rfl) ?_
  refine tr_g_thrown hx hb hts inB_X5 hown hK hP (hts _ mb_652) dX5_with_56 ?_
  refine kq_ti (y := (nI 0)) (by simp [tm_L, tm_I, tm_D]) ?_
  refine lv_if_eq (tgt := 64) hx hb dX5_with_59 (by decide) (fun _ => ?_) (fun c => absurd (by decide) c)
  refine lv_aload_n hx hb dX5_with_64 rfl (lv_at hl 0 rfl) ?_
  refine tr_g_digest hx hb hts inB_X5 hown hK hP (hts _ mb_632) dX5_with_65 ?_
  refine lv_iload_n hx hb dX5_with_68 rfl (lv_at hl 1 rfl) ?_
  refine lv_aload_n hx hb dX5_with_69 rfl (lv_at hl 0 rfl) ?_
  refine lv_aload_n hx hb dX5_with_70 rfl (lv_at hl 0 rfl) ?_
  refine lv_aload_n hx hb dX5_with_71 rfl (lv_at hl 0 rfl) ?_
  refine tr_g_digest hx hb hts inB_X5 hown hK hP (hts _ mb_632) dX5_with_72 ?_
  refine lv_iload_n hx hb dX5_with_75 rfl (lv_at hl 1 rfl) ?_
  refine tr_l_digest hx hb hK hP (by omega) dX5_with_76 ?_
  refine kq_tl (y := (u.1 6 j)) (by simp [tm_L, tm_I, tm_D]) ?_
  refine lv_ldc2 hx hb hown (hts _ mb_805) dX5_with_77 ?_
  refine kq_cV (st1 := [.long (tm_h (u.1 6 j) 13), .ref (ad 0), .int (nI j), .ref (ad 3)]) ⟨hx, hb, hml, hown, hts⟩ (r_mix (tm_I (tm_I u 14 0 (nI 0)) 14 0 (nI 0)) (u.1 6 j) 13) (cwV 2 hts gX5_74_X5_mix rfl rfl rfl (by decide +kernel) ⟨Nat.le_of_ble_eq_true rfl, Nat.le_of_ble_eq_true rfl⟩) kq_okT hK hP hD hA hG hS (va_recv hK hP (ci := 5) (q0 := 0) rfl (tm_at (i := 0) (by omega) rfl)) rfl hl.1 rfl rfl (Nat.le_of_ble_eq_true rfl) dX5_with_80 ⟨Nat.le_of_ble_eq_true rfl, Nat.le_of_ble_eq_true rfl⟩ (fun H locs hP hD hS => ?_)
  refine lv_aload_n hx hb dX5_with_83 rfl (lv_at hl 0 rfl) ?_
  refine lv_iload_n hx hb dX5_with_84 rfl (lv_at hl 2 rfl) ?_
  refine kq_cV (st1 := [.long (tm_h (tm_h ((tm_I (tm_I u 14 0 (nI 0)) 14 0 (nI 0)).1 2 i) (((tm_I (tm_I u 14 0 (nI 0)) 14 0 (nI 0)).2.1 1 i).toInt64)) (tm_h ((tm_I (tm_I u 14 0 (nI 0)) 14 0 (nI 0)).1 3 i) ((tm_I (tm_I u 14 0 (nI 0)) 14 0 (nI 0)).1 4 i))), .long (tm_h (u.1 6 j) 13), .ref (ad 0), .int (nI j), .ref (ad 3)]) ⟨hx, hb, hml, hown, hts⟩ (r_name (tm_I (tm_I u 14 0 (nI 0)) 14 0 (nI 0)) (k := i) (by omega)) (cwV 1 hts gX5_150_X5_name rfl rfl rfl (by decide +kernel) ⟨Nat.le_of_ble_eq_true rfl, Nat.le_of_ble_eq_true rfl⟩) kq_okT hK hP hD hA hG hS (va_recv hK hP (ci := 5) (q0 := 0) rfl (tm_at (i := 0) (by omega) rfl)) rfl hl.1 rfl rfl (Nat.le_of_ble_eq_true rfl) dX5_with_85 ⟨Nat.le_of_ble_eq_true rfl, Nat.le_of_ble_eq_true rfl⟩ (fun H locs hP hD hS => ?_)
  refine kq_cV (st1 := [.long (tm_h (tm_h (u.1 6 j) 13) (tm_h (tm_h ((tm_I (tm_I u 14 0 (nI 0)) 14 0 (nI 0)).1 2 i) (((tm_I (tm_I u 14 0 (nI 0)) 14 0 (nI 0)).2.1 1 i).toInt64)) (tm_h ((tm_I (tm_I u 14 0 (nI 0)) 14 0 (nI 0)).1 3 i) ((tm_I (tm_I u 14 0 (nI 0)) 14 0 (nI 0)).1 4 i)))), .int (nI j), .ref (ad 3)]) ⟨hx, hb, hml, hown, hts⟩ (r_mix (tm_I (tm_I u 14 0 (nI 0)) 14 0 (nI 0)) (tm_h (u.1 6 j) 13) (tm_h (tm_h ((tm_I (tm_I u 14 0 (nI 0)) 14 0 (nI 0)).1 2 i) (((tm_I (tm_I u 14 0 (nI 0)) 14 0 (nI 0)).2.1 1 i).toInt64)) (tm_h ((tm_I (tm_I u 14 0 (nI 0)) 14 0 (nI 0)).1 3 i) ((tm_I (tm_I u 14 0 (nI 0)) 14 0 (nI 0)).1 4 i)))) (cwV 2 hts gX5_74_X5_mix rfl rfl rfl (by decide +kernel) ⟨Nat.le_of_ble_eq_true rfl, Nat.le_of_ble_eq_true rfl⟩) kq_okT hK hP hD hA hG hS (va_recv hK hP (ci := 5) (q0 := 0) rfl (tm_at (i := 0) (by omega) rfl)) rfl hl.1 rfl rfl (Nat.le_of_ble_eq_true rfl) dX5_with_88 ⟨Nat.le_of_ble_eq_true rfl, Nat.le_of_ble_eq_true rfl⟩ (fun H locs hP hD hS => ?_)
  refine tr_t_digest hx hb hK hP hD hS (by omega) dX5_with_91 (fun H locs hP hD hS => ?_)
  refine lv_aload_n hx hb dX5_with_92 rfl (lv_at hl 0 rfl) ?_
  refine tr_g_digest hx hb hts inB_X5 hown hK hP (hts _ mb_632) dX5_with_93 ?_
  refine lv_iload_n hx hb dX5_with_96 rfl (lv_at hl 1 rfl) ?_
  refine tr_l_digest hx hb hK hP (by omega) dX5_with_97 ?_
  refine kq_tl (y := (tm_h (tm_h (u.1 6 j) 13) (tm_h (tm_h ((tm_I (tm_I u 14 0 (nI 0)) 14 0 (nI 0)).1 2 i) (((tm_I (tm_I u 14 0 (nI 0)) 14 0 (nI 0)).2.1 1 i).toInt64)) (tm_h ((tm_I (tm_I u 14 0 (nI 0)) 14 0 (nI 0)).1 3 i) ((tm_I (tm_I u 14 0 (nI 0)) 14 0 (nI 0)).1 4 i))))) (by simp [tm_L, tm_I, tm_D]) ?_
  exact kq_lret hx hb hr hlk hP hD hS dX5_with_98
set_option maxHeartbeats 4000000 in
set_option maxRecDepth 100000 in
theorem p_with_lock (u : tm_S) {j i : Nat} (hj : j < 3) (hi : i < 4) (wd : Int32) (hnl : u.2.1 11 0 = 0) (hh : ¬ u.2.1 0 i = 0) (hw : ¬ u.2.1 1 i = 0) (hg : ¬ u.2.1 13 0 < nI 3) : kr_M l dC dI ad cc yX5_with wsX5_with { frames := 2, cells := 0, slots := 0, locals := 47 } [.ref (ad 0), .int (nI j), .int (nI i), .int wd] u (tm_I (tm_I u 14 0 (nI 0)) 14 0 (nI 2)) (some (.long 0)) := by
  refine kq_ofW (cc := cX5_with) (maxL := 4) (ret := (some .long)) (R0 := RX5) (by decide) rfl rfl (Nat.le_of_ble_eq_true rfl) ?_
  intro p e s m below meth c A ls hx hb hr hlk hml hown hts hP hK hD hA hG hS hl
  have hl : lv_has ls 4 [(0, .ref (ad 0)), (1, .int (nI j)), (2, .int (nI i)), (3, .int wd)] := hl
  refine lv_aload_n hx hb dX5_with_0 rfl (lv_at hl 0 rfl) ?_
  refine lv_aload_n hx hb dX5_with_1 rfl (lv_at hl 0 rfl) ?_
  refine lv_iload_n hx hb dX5_with_2 rfl (lv_at hl 1 rfl) ?_
  refine lv_iconst (v := (nI 2)) hx hb dX5_with_3 (by decide) ?_
  refine kq_cV (st1 := [.int (nI 0), .ref (ad 0)]) ⟨hx, hb, hml, hown, hts⟩ (r_out_in u (by omega) (by omega)) (cwV 2 hts gX5_109_X5_out rfl rfl rfl (by decide +kernel) ⟨Nat.le_of_ble_eq_true rfl, Nat.le_of_ble_eq_true rfl⟩) kq_okT hK hP hD hA hG hS (va_recv hK hP (ci := 5) (q0 := 0) rfl (tm_at (i := 0) (by omega) rfl)) rfl hl.1 rfl rfl (Nat.le_of_ble_eq_true rfl) dX5_with_4 ⟨Nat.le_of_ble_eq_true rfl, Nat.le_of_ble_eq_true rfl⟩ (fun H locs hP hD hS => ?_)
  refine lv_if_ne (tgt := 19) hx hb dX5_with_7 (by decide) (fun c => absurd (by decide) c) (fun _ => ?_)
  refine lv_aload_n hx hb dX5_with_10 rfl (lv_at hl 0 rfl) ?_
  refine lv_iload_n hx hb dX5_with_11 rfl (lv_at hl 2 rfl) ?_
  refine lv_iconst (v := (nI 3)) hx hb dX5_with_12 (by decide) ?_
  refine kq_cV (st1 := [.int (nI 0), .ref (ad 0)]) ⟨hx, hb, hml, hown, hts⟩ (r_out_in u (by omega) (by omega)) (cwV 2 hts gX5_109_X5_out rfl rfl rfl (by decide +kernel) ⟨Nat.le_of_ble_eq_true rfl, Nat.le_of_ble_eq_true rfl⟩) kq_okT hK hP hD hA hG hS (va_recv hK hP (ci := 5) (q0 := 0) rfl (tm_at (i := 0) (by omega) rfl)) rfl hl.1 rfl rfl (Nat.le_of_ble_eq_true rfl) dX5_with_13 ⟨Nat.le_of_ble_eq_true rfl, Nat.le_of_ble_eq_true rfl⟩ (fun H locs hP hD hS => ?_)
  refine lv_if_eq (tgt := 23) hx hb dX5_with_16 (by decide) (fun _ => ?_) (fun c => absurd (by decide) c)
  refine lv_iconst (v := (nI 0)) hx hb dX5_with_23 (by decide) ?_
  refine kq_cV (st1 := [.int (nI 1)]) ⟨hx, hb, hml, hown, hts⟩ (r_begin_ok u hnl) (cwV 1 hts gX5_113_X5_begin rfl rfl rfl (by decide +kernel) ⟨Nat.le_of_ble_eq_true rfl, Nat.le_of_ble_eq_true rfl⟩) kq_okT hK hP hD hA hG hS (va_recv hK hP (ci := 5) (q0 := 0) rfl (tm_at (i := 0) (by omega) rfl)) rfl hl.1 rfl rfl (Nat.le_of_ble_eq_true rfl) dX5_with_24 ⟨Nat.le_of_ble_eq_true rfl, Nat.le_of_ble_eq_true rfl⟩ (fun H locs hP hD hS => ?_)
  refine lv_if_ne (tgt := 32) hx hb dX5_with_27 (by decide) (fun _ => ?_) (fun c => absurd c (by decide))
  refine lv_aload_n hx hb dX5_with_32 rfl (lv_at hl 0 rfl) ?_
  refine lv_aload_n hx hb dX5_with_33 rfl (lv_at hl 0 rfl) ?_
  refine tr_g_used hx hb hts inB_X5 hown hK hP (hts _ mb_641) dX5_with_34 ?_
  refine lv_iload_n hx hb dX5_with_37 rfl (lv_at hl 2 rfl) ?_
  refine tr_l_used hx hb hK hP (by omega) dX5_with_38 ?_
  refine kq_ti (y := (u.2.1 0 i)) (by simp [tm_L, tm_I, tm_D]) ?_
  refine lv_if_ne (tgt := 46) hx hb dX5_with_39 (by decide) (fun _ => ?_) (fun c => absurd c hh)
  refine lv_aload_n hx hb dX5_with_46 rfl (lv_at hl 0 rfl) ?_
  refine lv_iload_n hx hb dX5_with_47 rfl (lv_at hl 2 rfl) ?_
  refine lv_iload_n hx hb dX5_with_48 rfl (lv_at hl 3 rfl) ?_
  refine kq_cV (st1 := [.int (nI 2), .ref (ad 0)]) ⟨hx, hb, hml, hown, hts⟩ (r_allowed_lock (tm_I u 14 0 (nI 0)) (k := i) (by omega) wd (by simpa [tm_I] using hw) (by simpa [tm_I] using hg)) (cwV 2 hts gX5_136_X5_allowed rfl rfl rfl (by decide +kernel) ⟨Nat.le_of_ble_eq_true rfl, Nat.le_of_ble_eq_true rfl⟩) kq_okT hK hP hD hA hG hS (va_recv hK hP (ci := 5) (q0 := 0) rfl (tm_at (i := 0) (by omega) rfl)) rfl hl.1 rfl rfl (Nat.le_of_ble_eq_true rfl) dX5_with_49 ⟨Nat.le_of_ble_eq_true rfl, Nat.le_of_ble_eq_true rfl⟩ (fun H locs hP hD hS => ?_)
  refine tr_p_thrown hx hb hts inB_X5 hown hK hP hD hS (hts _ mb_652) dX5_with_52 (fun H locs hP hD hS => ?_)
  refine lv_aload_n hx hb dX5_with_55 rfl (lv_at hl 0 rfl) ?_
  refine tr_g_thrown hx hb hts inB_X5 hown hK hP (hts _ mb_652) dX5_with_56 ?_
  refine kq_ti (y := (nI 2)) (by simp [tm_L, tm_I, tm_D]) ?_
  refine lv_if_eq (tgt := 64) hx hb dX5_with_59 (by decide) (fun c => absurd c (by decide)) (fun _ => ?_)
  refine lv_lconst (v := 0) hx hb dX5_with_62 (by decide) ?_
  exact kq_lret hx hb hr hlk hP hD hS dX5_with_63
set_option maxHeartbeats 4000000 in
set_option maxRecDepth 100000 in
theorem p_with_wok (u : tm_S) {j i : Nat} (hj : j < 3) (hi : i < 4) (wd : Int32) (hnl : u.2.1 11 0 = 0) (hh : ¬ u.2.1 0 i = 0) (hw : ¬ u.2.1 1 i = 0) (hg : u.2.1 13 0 < nI 3) (he : wd = u.2.1 1 i) : kr_M l dC dI ad cc yX5_with wsX5_with { frames := 2, cells := 0, slots := 0, locals := 47 } [.ref (ad 0), .int (nI j), .int (nI i), .int wd] u (tm_L (tm_I (tm_I u 14 0 (nI 0)) 14 0 (nI 0)) 6 j (tm_h (tm_h (u.1 6 j) 13) (tm_h (tm_h ((tm_I (tm_I u 14 0 (nI 0)) 14 0 (nI 0)).1 2 i) (((tm_I (tm_I u 14 0 (nI 0)) 14 0 (nI 0)).2.1 1 i).toInt64)) (tm_h ((tm_I (tm_I u 14 0 (nI 0)) 14 0 (nI 0)).1 3 i) ((tm_I (tm_I u 14 0 (nI 0)) 14 0 (nI 0)).1 4 i))))) (some (.long (tm_h (tm_h (u.1 6 j) 13) (tm_h (tm_h ((tm_I (tm_I u 14 0 (nI 0)) 14 0 (nI 0)).1 2 i) (((tm_I (tm_I u 14 0 (nI 0)) 14 0 (nI 0)).2.1 1 i).toInt64)) (tm_h ((tm_I (tm_I u 14 0 (nI 0)) 14 0 (nI 0)).1 3 i) ((tm_I (tm_I u 14 0 (nI 0)) 14 0 (nI 0)).1 4 i)))))) := by
  refine kq_ofW (cc := cX5_with) (maxL := 4) (ret := (some .long)) (R0 := RX5) (by decide) rfl rfl (Nat.le_of_ble_eq_true rfl) ?_
  intro p e s m below meth c A ls hx hb hr hlk hml hown hts hP hK hD hA hG hS hl
  have hl : lv_has ls 4 [(0, .ref (ad 0)), (1, .int (nI j)), (2, .int (nI i)), (3, .int wd)] := hl
  refine lv_aload_n hx hb dX5_with_0 rfl (lv_at hl 0 rfl) ?_
  refine lv_aload_n hx hb dX5_with_1 rfl (lv_at hl 0 rfl) ?_
  refine lv_iload_n hx hb dX5_with_2 rfl (lv_at hl 1 rfl) ?_
  refine lv_iconst (v := (nI 2)) hx hb dX5_with_3 (by decide) ?_
  refine kq_cV (st1 := [.int (nI 0), .ref (ad 0)]) ⟨hx, hb, hml, hown, hts⟩ (r_out_in u (by omega) (by omega)) (cwV 2 hts gX5_109_X5_out rfl rfl rfl (by decide +kernel) ⟨Nat.le_of_ble_eq_true rfl, Nat.le_of_ble_eq_true rfl⟩) kq_okT hK hP hD hA hG hS (va_recv hK hP (ci := 5) (q0 := 0) rfl (tm_at (i := 0) (by omega) rfl)) rfl hl.1 rfl rfl (Nat.le_of_ble_eq_true rfl) dX5_with_4 ⟨Nat.le_of_ble_eq_true rfl, Nat.le_of_ble_eq_true rfl⟩ (fun H locs hP hD hS => ?_)
  refine lv_if_ne (tgt := 19) hx hb dX5_with_7 (by decide) (fun c => absurd (by decide) c) (fun _ => ?_)
  refine lv_aload_n hx hb dX5_with_10 rfl (lv_at hl 0 rfl) ?_
  refine lv_iload_n hx hb dX5_with_11 rfl (lv_at hl 2 rfl) ?_
  refine lv_iconst (v := (nI 3)) hx hb dX5_with_12 (by decide) ?_
  refine kq_cV (st1 := [.int (nI 0), .ref (ad 0)]) ⟨hx, hb, hml, hown, hts⟩ (r_out_in u (by omega) (by omega)) (cwV 2 hts gX5_109_X5_out rfl rfl rfl (by decide +kernel) ⟨Nat.le_of_ble_eq_true rfl, Nat.le_of_ble_eq_true rfl⟩) kq_okT hK hP hD hA hG hS (va_recv hK hP (ci := 5) (q0 := 0) rfl (tm_at (i := 0) (by omega) rfl)) rfl hl.1 rfl rfl (Nat.le_of_ble_eq_true rfl) dX5_with_13 ⟨Nat.le_of_ble_eq_true rfl, Nat.le_of_ble_eq_true rfl⟩ (fun H locs hP hD hS => ?_)
  refine lv_if_eq (tgt := 23) hx hb dX5_with_16 (by decide) (fun _ => ?_) (fun c => absurd (by decide) c)
  refine lv_iconst (v := (nI 0)) hx hb dX5_with_23 (by decide) ?_
  refine kq_cV (st1 := [.int (nI 1)]) ⟨hx, hb, hml, hown, hts⟩ (r_begin_ok u hnl) (cwV 1 hts gX5_113_X5_begin rfl rfl rfl (by decide +kernel) ⟨Nat.le_of_ble_eq_true rfl, Nat.le_of_ble_eq_true rfl⟩) kq_okT hK hP hD hA hG hS (va_recv hK hP (ci := 5) (q0 := 0) rfl (tm_at (i := 0) (by omega) rfl)) rfl hl.1 rfl rfl (Nat.le_of_ble_eq_true rfl) dX5_with_24 ⟨Nat.le_of_ble_eq_true rfl, Nat.le_of_ble_eq_true rfl⟩ (fun H locs hP hD hS => ?_)
  refine lv_if_ne (tgt := 32) hx hb dX5_with_27 (by decide) (fun _ => ?_) (fun c => absurd c (by decide))
  refine lv_aload_n hx hb dX5_with_32 rfl (lv_at hl 0 rfl) ?_
  refine lv_aload_n hx hb dX5_with_33 rfl (lv_at hl 0 rfl) ?_
  refine tr_g_used hx hb hts inB_X5 hown hK hP (hts _ mb_641) dX5_with_34 ?_
  refine lv_iload_n hx hb dX5_with_37 rfl (lv_at hl 2 rfl) ?_
  refine tr_l_used hx hb hK hP (by omega) dX5_with_38 ?_
  refine kq_ti (y := (u.2.1 0 i)) (by simp [tm_L, tm_I, tm_D]) ?_
  refine lv_if_ne (tgt := 46) hx hb dX5_with_39 (by decide) (fun _ => ?_) (fun c => absurd c hh)
  refine lv_aload_n hx hb dX5_with_46 rfl (lv_at hl 0 rfl) ?_
  refine lv_iload_n hx hb dX5_with_47 rfl (lv_at hl 2 rfl) ?_
  refine lv_iload_n hx hb dX5_with_48 rfl (lv_at hl 3 rfl) ?_
  refine kq_cV (st1 := [.int (nI 0), .ref (ad 0)]) ⟨hx, hb, hml, hown, hts⟩ (r_allowed_ok (tm_I u 14 0 (nI 0)) (k := i) (by omega) wd (by simpa [tm_I] using hw) (by simpa [tm_I] using hg) (by simpa [tm_I] using he)) (cwV 2 hts gX5_136_X5_allowed rfl rfl rfl (by decide +kernel) ⟨Nat.le_of_ble_eq_true rfl, Nat.le_of_ble_eq_true rfl⟩) kq_okT hK hP hD hA hG hS (va_recv hK hP (ci := 5) (q0 := 0) rfl (tm_at (i := 0) (by omega) rfl)) rfl hl.1 rfl rfl (Nat.le_of_ble_eq_true rfl) dX5_with_49 ⟨Nat.le_of_ble_eq_true rfl, Nat.le_of_ble_eq_true rfl⟩ (fun H locs hP hD hS => ?_)
  refine tr_p_thrown hx hb hts inB_X5 hown hK hP hD hS (hts _ mb_652) dX5_with_52 (fun H locs hP hD hS => ?_)
  refine lv_aload_n hx hb dX5_with_55 rfl (lv_at hl 0 rfl) ?_
  refine tr_g_thrown hx hb hts inB_X5 hown hK hP (hts _ mb_652) dX5_with_56 ?_
  refine kq_ti (y := (nI 0)) (by simp [tm_L, tm_I, tm_D]) ?_
  refine lv_if_eq (tgt := 64) hx hb dX5_with_59 (by decide) (fun _ => ?_) (fun c => absurd (by decide) c)
  refine lv_aload_n hx hb dX5_with_64 rfl (lv_at hl 0 rfl) ?_
  refine tr_g_digest hx hb hts inB_X5 hown hK hP (hts _ mb_632) dX5_with_65 ?_
  refine lv_iload_n hx hb dX5_with_68 rfl (lv_at hl 1 rfl) ?_
  refine lv_aload_n hx hb dX5_with_69 rfl (lv_at hl 0 rfl) ?_
  refine lv_aload_n hx hb dX5_with_70 rfl (lv_at hl 0 rfl) ?_
  refine lv_aload_n hx hb dX5_with_71 rfl (lv_at hl 0 rfl) ?_
  refine tr_g_digest hx hb hts inB_X5 hown hK hP (hts _ mb_632) dX5_with_72 ?_
  refine lv_iload_n hx hb dX5_with_75 rfl (lv_at hl 1 rfl) ?_
  refine tr_l_digest hx hb hK hP (by omega) dX5_with_76 ?_
  refine kq_tl (y := (u.1 6 j)) (by simp [tm_L, tm_I, tm_D]) ?_
  refine lv_ldc2 hx hb hown (hts _ mb_805) dX5_with_77 ?_
  refine kq_cV (st1 := [.long (tm_h (u.1 6 j) 13), .ref (ad 0), .int (nI j), .ref (ad 3)]) ⟨hx, hb, hml, hown, hts⟩ (r_mix (tm_I (tm_I u 14 0 (nI 0)) 14 0 (nI 0)) (u.1 6 j) 13) (cwV 2 hts gX5_74_X5_mix rfl rfl rfl (by decide +kernel) ⟨Nat.le_of_ble_eq_true rfl, Nat.le_of_ble_eq_true rfl⟩) kq_okT hK hP hD hA hG hS (va_recv hK hP (ci := 5) (q0 := 0) rfl (tm_at (i := 0) (by omega) rfl)) rfl hl.1 rfl rfl (Nat.le_of_ble_eq_true rfl) dX5_with_80 ⟨Nat.le_of_ble_eq_true rfl, Nat.le_of_ble_eq_true rfl⟩ (fun H locs hP hD hS => ?_)
  refine lv_aload_n hx hb dX5_with_83 rfl (lv_at hl 0 rfl) ?_
  refine lv_iload_n hx hb dX5_with_84 rfl (lv_at hl 2 rfl) ?_
  refine kq_cV (st1 := [.long (tm_h (tm_h ((tm_I (tm_I u 14 0 (nI 0)) 14 0 (nI 0)).1 2 i) (((tm_I (tm_I u 14 0 (nI 0)) 14 0 (nI 0)).2.1 1 i).toInt64)) (tm_h ((tm_I (tm_I u 14 0 (nI 0)) 14 0 (nI 0)).1 3 i) ((tm_I (tm_I u 14 0 (nI 0)) 14 0 (nI 0)).1 4 i))), .long (tm_h (u.1 6 j) 13), .ref (ad 0), .int (nI j), .ref (ad 3)]) ⟨hx, hb, hml, hown, hts⟩ (r_name (tm_I (tm_I u 14 0 (nI 0)) 14 0 (nI 0)) (k := i) (by omega)) (cwV 1 hts gX5_150_X5_name rfl rfl rfl (by decide +kernel) ⟨Nat.le_of_ble_eq_true rfl, Nat.le_of_ble_eq_true rfl⟩) kq_okT hK hP hD hA hG hS (va_recv hK hP (ci := 5) (q0 := 0) rfl (tm_at (i := 0) (by omega) rfl)) rfl hl.1 rfl rfl (Nat.le_of_ble_eq_true rfl) dX5_with_85 ⟨Nat.le_of_ble_eq_true rfl, Nat.le_of_ble_eq_true rfl⟩ (fun H locs hP hD hS => ?_)
  refine kq_cV (st1 := [.long (tm_h (tm_h (u.1 6 j) 13) (tm_h (tm_h ((tm_I (tm_I u 14 0 (nI 0)) 14 0 (nI 0)).1 2 i) (((tm_I (tm_I u 14 0 (nI 0)) 14 0 (nI 0)).2.1 1 i).toInt64)) (tm_h ((tm_I (tm_I u 14 0 (nI 0)) 14 0 (nI 0)).1 3 i) ((tm_I (tm_I u 14 0 (nI 0)) 14 0 (nI 0)).1 4 i)))), .int (nI j), .ref (ad 3)]) ⟨hx, hb, hml, hown, hts⟩ (r_mix (tm_I (tm_I u 14 0 (nI 0)) 14 0 (nI 0)) (tm_h (u.1 6 j) 13) (tm_h (tm_h ((tm_I (tm_I u 14 0 (nI 0)) 14 0 (nI 0)).1 2 i) (((tm_I (tm_I u 14 0 (nI 0)) 14 0 (nI 0)).2.1 1 i).toInt64)) (tm_h ((tm_I (tm_I u 14 0 (nI 0)) 14 0 (nI 0)).1 3 i) ((tm_I (tm_I u 14 0 (nI 0)) 14 0 (nI 0)).1 4 i)))) (cwV 2 hts gX5_74_X5_mix rfl rfl rfl (by decide +kernel) ⟨Nat.le_of_ble_eq_true rfl, Nat.le_of_ble_eq_true rfl⟩) kq_okT hK hP hD hA hG hS (va_recv hK hP (ci := 5) (q0 := 0) rfl (tm_at (i := 0) (by omega) rfl)) rfl hl.1 rfl rfl (Nat.le_of_ble_eq_true rfl) dX5_with_88 ⟨Nat.le_of_ble_eq_true rfl, Nat.le_of_ble_eq_true rfl⟩ (fun H locs hP hD hS => ?_)
  refine tr_t_digest hx hb hK hP hD hS (by omega) dX5_with_91 (fun H locs hP hD hS => ?_)
  refine lv_aload_n hx hb dX5_with_92 rfl (lv_at hl 0 rfl) ?_
  refine tr_g_digest hx hb hts inB_X5 hown hK hP (hts _ mb_632) dX5_with_93 ?_
  refine lv_iload_n hx hb dX5_with_96 rfl (lv_at hl 1 rfl) ?_
  refine tr_l_digest hx hb hK hP (by omega) dX5_with_97 ?_
  refine kq_tl (y := (tm_h (tm_h (u.1 6 j) 13) (tm_h (tm_h ((tm_I (tm_I u 14 0 (nI 0)) 14 0 (nI 0)).1 2 i) (((tm_I (tm_I u 14 0 (nI 0)) 14 0 (nI 0)).2.1 1 i).toInt64)) (tm_h ((tm_I (tm_I u 14 0 (nI 0)) 14 0 (nI 0)).1 3 i) ((tm_I (tm_I u 14 0 (nI 0)) 14 0 (nI 0)).1 4 i))))) (by simp [tm_L, tm_I, tm_D]) ?_
  exact kq_lret hx hb hr hlk hP hD hS dX5_with_98
set_option maxHeartbeats 4000000 in
set_option maxRecDepth 100000 in
theorem p_with_wno (u : tm_S) {j i : Nat} (hj : j < 3) (hi : i < 4) (wd : Int32) (hnl : u.2.1 11 0 = 0) (hh : ¬ u.2.1 0 i = 0) (hw : ¬ u.2.1 1 i = 0) (hg : u.2.1 13 0 < nI 3) (he : ¬ wd = u.2.1 1 i) : kr_M l dC dI ad cc yX5_with wsX5_with { frames := 2, cells := 0, slots := 0, locals := 47 } [.ref (ad 0), .int (nI j), .int (nI i), .int wd] u (tm_I (tm_D (tm_I (tm_I u 14 0 (nI 0)) 13 0 (((tm_I u 14 0 (nI 0)).2.1 13 0) + (nI 1))) 0 ((tm_I u 14 0 (nI 0)).2.2 1)) 14 0 (nI 4)) (some (.long 0)) := by
  refine kq_ofW (cc := cX5_with) (maxL := 4) (ret := (some .long)) (R0 := RX5) (by decide) rfl rfl (Nat.le_of_ble_eq_true rfl) ?_
  intro p e s m below meth c A ls hx hb hr hlk hml hown hts hP hK hD hA hG hS hl
  have hl : lv_has ls 4 [(0, .ref (ad 0)), (1, .int (nI j)), (2, .int (nI i)), (3, .int wd)] := hl
  refine lv_aload_n hx hb dX5_with_0 rfl (lv_at hl 0 rfl) ?_
  refine lv_aload_n hx hb dX5_with_1 rfl (lv_at hl 0 rfl) ?_
  refine lv_iload_n hx hb dX5_with_2 rfl (lv_at hl 1 rfl) ?_
  refine lv_iconst (v := (nI 2)) hx hb dX5_with_3 (by decide) ?_
  refine kq_cV (st1 := [.int (nI 0), .ref (ad 0)]) ⟨hx, hb, hml, hown, hts⟩ (r_out_in u (by omega) (by omega)) (cwV 2 hts gX5_109_X5_out rfl rfl rfl (by decide +kernel) ⟨Nat.le_of_ble_eq_true rfl, Nat.le_of_ble_eq_true rfl⟩) kq_okT hK hP hD hA hG hS (va_recv hK hP (ci := 5) (q0 := 0) rfl (tm_at (i := 0) (by omega) rfl)) rfl hl.1 rfl rfl (Nat.le_of_ble_eq_true rfl) dX5_with_4 ⟨Nat.le_of_ble_eq_true rfl, Nat.le_of_ble_eq_true rfl⟩ (fun H locs hP hD hS => ?_)
  refine lv_if_ne (tgt := 19) hx hb dX5_with_7 (by decide) (fun c => absurd (by decide) c) (fun _ => ?_)
  refine lv_aload_n hx hb dX5_with_10 rfl (lv_at hl 0 rfl) ?_
  refine lv_iload_n hx hb dX5_with_11 rfl (lv_at hl 2 rfl) ?_
  refine lv_iconst (v := (nI 3)) hx hb dX5_with_12 (by decide) ?_
  refine kq_cV (st1 := [.int (nI 0), .ref (ad 0)]) ⟨hx, hb, hml, hown, hts⟩ (r_out_in u (by omega) (by omega)) (cwV 2 hts gX5_109_X5_out rfl rfl rfl (by decide +kernel) ⟨Nat.le_of_ble_eq_true rfl, Nat.le_of_ble_eq_true rfl⟩) kq_okT hK hP hD hA hG hS (va_recv hK hP (ci := 5) (q0 := 0) rfl (tm_at (i := 0) (by omega) rfl)) rfl hl.1 rfl rfl (Nat.le_of_ble_eq_true rfl) dX5_with_13 ⟨Nat.le_of_ble_eq_true rfl, Nat.le_of_ble_eq_true rfl⟩ (fun H locs hP hD hS => ?_)
  refine lv_if_eq (tgt := 23) hx hb dX5_with_16 (by decide) (fun _ => ?_) (fun c => absurd (by decide) c)
  refine lv_iconst (v := (nI 0)) hx hb dX5_with_23 (by decide) ?_
  refine kq_cV (st1 := [.int (nI 1)]) ⟨hx, hb, hml, hown, hts⟩ (r_begin_ok u hnl) (cwV 1 hts gX5_113_X5_begin rfl rfl rfl (by decide +kernel) ⟨Nat.le_of_ble_eq_true rfl, Nat.le_of_ble_eq_true rfl⟩) kq_okT hK hP hD hA hG hS (va_recv hK hP (ci := 5) (q0 := 0) rfl (tm_at (i := 0) (by omega) rfl)) rfl hl.1 rfl rfl (Nat.le_of_ble_eq_true rfl) dX5_with_24 ⟨Nat.le_of_ble_eq_true rfl, Nat.le_of_ble_eq_true rfl⟩ (fun H locs hP hD hS => ?_)
  refine lv_if_ne (tgt := 32) hx hb dX5_with_27 (by decide) (fun _ => ?_) (fun c => absurd c (by decide))
  refine lv_aload_n hx hb dX5_with_32 rfl (lv_at hl 0 rfl) ?_
  refine lv_aload_n hx hb dX5_with_33 rfl (lv_at hl 0 rfl) ?_
  refine tr_g_used hx hb hts inB_X5 hown hK hP (hts _ mb_641) dX5_with_34 ?_
  refine lv_iload_n hx hb dX5_with_37 rfl (lv_at hl 2 rfl) ?_
  refine tr_l_used hx hb hK hP (by omega) dX5_with_38 ?_
  refine kq_ti (y := (u.2.1 0 i)) (by simp [tm_L, tm_I, tm_D]) ?_
  refine lv_if_ne (tgt := 46) hx hb dX5_with_39 (by decide) (fun _ => ?_) (fun c => absurd c hh)
  refine lv_aload_n hx hb dX5_with_46 rfl (lv_at hl 0 rfl) ?_
  refine lv_iload_n hx hb dX5_with_47 rfl (lv_at hl 2 rfl) ?_
  refine lv_iload_n hx hb dX5_with_48 rfl (lv_at hl 3 rfl) ?_
  refine kq_cV (st1 := [.int (nI 4), .ref (ad 0)]) ⟨hx, hb, hml, hown, hts⟩ (r_allowed_no (tm_I u 14 0 (nI 0)) (k := i) (by omega) wd (by simpa [tm_I] using hw) (by simpa [tm_I] using hg) (by simpa [tm_I] using he)) (cwV 2 hts gX5_136_X5_allowed rfl rfl rfl (by decide +kernel) ⟨Nat.le_of_ble_eq_true rfl, Nat.le_of_ble_eq_true rfl⟩) kq_okT hK hP hD hA hG hS (va_recv hK hP (ci := 5) (q0 := 0) rfl (tm_at (i := 0) (by omega) rfl)) rfl hl.1 rfl rfl (Nat.le_of_ble_eq_true rfl) dX5_with_49 ⟨Nat.le_of_ble_eq_true rfl, Nat.le_of_ble_eq_true rfl⟩ (fun H locs hP hD hS => ?_)
  refine tr_p_thrown hx hb hts inB_X5 hown hK hP hD hS (hts _ mb_652) dX5_with_52 (fun H locs hP hD hS => ?_)
  refine lv_aload_n hx hb dX5_with_55 rfl (lv_at hl 0 rfl) ?_
  refine tr_g_thrown hx hb hts inB_X5 hown hK hP (hts _ mb_652) dX5_with_56 ?_
  refine kq_ti (y := (nI 4)) (by simp [tm_L, tm_I, tm_D]) ?_
  refine lv_if_eq (tgt := 64) hx hb dX5_with_59 (by decide) (fun c => absurd c (by decide)) (fun _ => ?_)
  refine lv_lconst (v := 0) hx hb dX5_with_62 (by decide) ?_
  exact kq_lret hx hb hr hlk hP hD hS dX5_with_63
set_option maxHeartbeats 4000000 in
set_option maxRecDepth 100000 in
theorem p_define_b1 (u : tm_S) (x : Int32) (h : x < 0 ∨ ¬ x ≤ nI 3) (co : Int32) (po : Int64)  : kr_M l dC dI ad cc yX5_define wsX5_define { frames := 1, cells := 0, slots := 0, locals := 22 } [.ref (ad 0), .int x, .int co, .long po] u (tm_I u 14 0 (nI 1)) none := by
  refine kq_ofW (cc := cX5_define) (maxL := 5) (ret := none) (R0 := RX5) (by decide) rfl rfl (Nat.le_of_ble_eq_true rfl) ?_
  intro p e s m below meth c A ls hx hb hr hlk hml hown hts hP hK hD hA hG hS hl
  have hl : lv_has ls 5 [(0, .ref (ad 0)), (1, .int x), (2, .int co), (3, .long po)] := hl
  refine lv_aload_n hx hb dX5_define_0 rfl (lv_at hl 0 rfl) ?_
  refine lv_aload_n hx hb dX5_define_1 rfl (lv_at hl 0 rfl) ?_
  refine lv_iload_n hx hb dX5_define_2 rfl (lv_at hl 1 rfl) ?_
  refine lv_iconst (v := (nI 3)) hx hb dX5_define_3 (by decide) ?_
  refine kq_cV (st1 := [.int (nI 1), .ref (ad 0)]) ⟨hx, hb, hml, hown, hts⟩ (r_out_no u h) (cwV 2 hts gX5_109_X5_out rfl rfl rfl (by decide +kernel) ⟨Nat.le_of_ble_eq_true rfl, Nat.le_of_ble_eq_true rfl⟩) kq_okT hK hP hD hA hG hS (va_recv hK hP (ci := 5) (q0 := 0) rfl (tm_at (i := 0) (by omega) rfl)) rfl hl.1 rfl rfl (Nat.le_of_ble_eq_true rfl) dX5_define_4 ⟨Nat.le_of_ble_eq_true rfl, Nat.le_of_ble_eq_true rfl⟩ (fun H locs hP hD hS => ?_)
  refine kq_cV (st1 := [.int (nI 0)]) ⟨hx, hb, hml, hown, hts⟩ (r_begin_bad u) (cwV 1 hts gX5_113_X5_begin rfl rfl rfl (by decide +kernel) ⟨Nat.le_of_ble_eq_true rfl, Nat.le_of_ble_eq_true rfl⟩) kq_okT hK hP hD hA hG hS (va_recv hK hP (ci := 5) (q0 := 0) rfl (tm_at (i := 0) (by omega) rfl)) rfl hl.1 rfl rfl (Nat.le_of_ble_eq_true rfl) dX5_define_7 ⟨Nat.le_of_ble_eq_true rfl, Nat.le_of_ble_eq_true rfl⟩ (fun H locs hP hD hS => ?_)
  refine lv_if_ne (tgt := 14) hx hb dX5_define_10 (by decide) (fun c => absurd (by decide) c) (fun _ => ?_)
  exact kq_vret hx hb hr hlk hP hD hS dX5_define_13
set_option maxHeartbeats 4000000 in
set_option maxRecDepth 100000 in
theorem p_define_lo (u : tm_S) {j : Nat} (hj : j < 4) (co : Int32) (po : Int64) (hlo : ¬ u.2.1 11 0 = 0)  : kr_M l dC dI ad cc yX5_define wsX5_define { frames := 1, cells := 0, slots := 0, locals := 22 } [.ref (ad 0), .int (nI j), .int co, .long po] u (tm_I u 14 0 (nI 2)) none := by
  refine kq_ofW (cc := cX5_define) (maxL := 5) (ret := none) (R0 := RX5) (by decide) rfl rfl (Nat.le_of_ble_eq_true rfl) ?_
  intro p e s m below meth c A ls hx hb hr hlk hml hown hts hP hK hD hA hG hS hl
  have hl : lv_has ls 5 [(0, .ref (ad 0)), (1, .int (nI j)), (2, .int co), (3, .long po)] := hl
  refine lv_aload_n hx hb dX5_define_0 rfl (lv_at hl 0 rfl) ?_
  refine lv_aload_n hx hb dX5_define_1 rfl (lv_at hl 0 rfl) ?_
  refine lv_iload_n hx hb dX5_define_2 rfl (lv_at hl 1 rfl) ?_
  refine lv_iconst (v := (nI 3)) hx hb dX5_define_3 (by decide) ?_
  refine kq_cV (st1 := [.int (nI 0), .ref (ad 0)]) ⟨hx, hb, hml, hown, hts⟩ (r_out_in u (by omega) (by omega)) (cwV 2 hts gX5_109_X5_out rfl rfl rfl (by decide +kernel) ⟨Nat.le_of_ble_eq_true rfl, Nat.le_of_ble_eq_true rfl⟩) kq_okT hK hP hD hA hG hS (va_recv hK hP (ci := 5) (q0 := 0) rfl (tm_at (i := 0) (by omega) rfl)) rfl hl.1 rfl rfl (Nat.le_of_ble_eq_true rfl) dX5_define_4 ⟨Nat.le_of_ble_eq_true rfl, Nat.le_of_ble_eq_true rfl⟩ (fun H locs hP hD hS => ?_)
  refine kq_cV (st1 := [.int (nI 0)]) ⟨hx, hb, hml, hown, hts⟩ (r_begin_lost u hlo) (cwV 1 hts gX5_113_X5_begin rfl rfl rfl (by decide +kernel) ⟨Nat.le_of_ble_eq_true rfl, Nat.le_of_ble_eq_true rfl⟩) kq_okT hK hP hD hA hG hS (va_recv hK hP (ci := 5) (q0 := 0) rfl (tm_at (i := 0) (by omega) rfl)) rfl hl.1 rfl rfl (Nat.le_of_ble_eq_true rfl) dX5_define_7 ⟨Nat.le_of_ble_eq_true rfl, Nat.le_of_ble_eq_true rfl⟩ (fun H locs hP hD hS => ?_)
  refine lv_if_ne (tgt := 14) hx hb dX5_define_10 (by decide) (fun c => absurd (by decide) c) (fun _ => ?_)
  exact kq_vret hx hb hr hlk hP hD hS dX5_define_13
set_option maxHeartbeats 4000000 in
set_option maxRecDepth 100000 in
theorem p_define_def (u : tm_S) {j : Nat} (hj : j < 4) (co : Int32) (po : Int64) (hnl : u.2.1 11 0 = 0) (hd : ¬ u.2.1 6 j = 0) : kr_M l dC dI ad cc yX5_define wsX5_define { frames := 1, cells := 0, slots := 0, locals := 22 } [.ref (ad 0), .int (nI j), .int co, .long po] u (tm_I (tm_I u 14 0 (nI 0)) 14 0 (nI 2)) none := by
  refine kq_ofW (cc := cX5_define) (maxL := 5) (ret := none) (R0 := RX5) (by decide) rfl rfl (Nat.le_of_ble_eq_true rfl) ?_
  intro p e s m below meth c A ls hx hb hr hlk hml hown hts hP hK hD hA hG hS hl
  have hl : lv_has ls 5 [(0, .ref (ad 0)), (1, .int (nI j)), (2, .int co), (3, .long po)] := hl
  refine lv_aload_n hx hb dX5_define_0 rfl (lv_at hl 0 rfl) ?_
  refine lv_aload_n hx hb dX5_define_1 rfl (lv_at hl 0 rfl) ?_
  refine lv_iload_n hx hb dX5_define_2 rfl (lv_at hl 1 rfl) ?_
  refine lv_iconst (v := (nI 3)) hx hb dX5_define_3 (by decide) ?_
  refine kq_cV (st1 := [.int (nI 0), .ref (ad 0)]) ⟨hx, hb, hml, hown, hts⟩ (r_out_in u (by omega) (by omega)) (cwV 2 hts gX5_109_X5_out rfl rfl rfl (by decide +kernel) ⟨Nat.le_of_ble_eq_true rfl, Nat.le_of_ble_eq_true rfl⟩) kq_okT hK hP hD hA hG hS (va_recv hK hP (ci := 5) (q0 := 0) rfl (tm_at (i := 0) (by omega) rfl)) rfl hl.1 rfl rfl (Nat.le_of_ble_eq_true rfl) dX5_define_4 ⟨Nat.le_of_ble_eq_true rfl, Nat.le_of_ble_eq_true rfl⟩ (fun H locs hP hD hS => ?_)
  refine kq_cV (st1 := [.int (nI 1)]) ⟨hx, hb, hml, hown, hts⟩ (r_begin_ok u hnl) (cwV 1 hts gX5_113_X5_begin rfl rfl rfl (by decide +kernel) ⟨Nat.le_of_ble_eq_true rfl, Nat.le_of_ble_eq_true rfl⟩) kq_okT hK hP hD hA hG hS (va_recv hK hP (ci := 5) (q0 := 0) rfl (tm_at (i := 0) (by omega) rfl)) rfl hl.1 rfl rfl (Nat.le_of_ble_eq_true rfl) dX5_define_7 ⟨Nat.le_of_ble_eq_true rfl, Nat.le_of_ble_eq_true rfl⟩ (fun H locs hP hD hS => ?_)
  refine lv_if_ne (tgt := 14) hx hb dX5_define_10 (by decide) (fun _ => ?_) (fun c => absurd c (by decide))
  refine lv_aload_n hx hb dX5_define_14 rfl (lv_at hl 0 rfl) ?_
  refine tr_g_defined hx hb hts inB_X5 hown hK hP (hts _ mb_645) dX5_define_15 ?_
  refine lv_iload_n hx hb dX5_define_18 rfl (lv_at hl 1 rfl) ?_
  refine tr_l_defined hx hb hK hP (by omega) dX5_define_19 ?_
  refine kq_ti (y := (u.2.1 6 j)) (by simp [tm_L, tm_I, tm_D]) ?_
  refine lv_if_eq (tgt := 28) hx hb dX5_define_20 (by decide) (fun c => absurd c hd) (fun _ => ?_)
  refine lv_aload_n hx hb dX5_define_23 rfl (lv_at hl 0 rfl) ?_
  refine lv_iconst (v := (nI 2)) hx hb dX5_define_24 (by decide) ?_
  refine tr_p_thrown hx hb hts inB_X5 hown hK hP hD hS (hts _ mb_652) dX5_define_25 (fun H locs hP hD hS => ?_)
  refine lv_aload_n hx hb dX5_define_28 rfl (lv_at hl 0 rfl) ?_
  refine tr_g_thrown hx hb hts inB_X5 hown hK hP (hts _ mb_652) dX5_define_29 ?_
  refine kq_ti (y := (nI 2)) (by simp [tm_L, tm_I, tm_D]) ?_
  refine lv_if_ne (tgt := 43) hx hb dX5_define_32 (by decide) (fun _ => ?_) (fun c => absurd c (by decide))
  exact kq_vret hx hb hr hlk hP hD hS dX5_define_43
set_option maxHeartbeats 4000000 in
set_option maxRecDepth 100000 in
theorem p_define_out (u : tm_S) {j : Nat} (hj : j < 4) (co : Int32) (po : Int64) (hnl : u.2.1 11 0 = 0) (hd : u.2.1 6 j = 0) (hw : 0 ≤ u.2.1 10 0) (hq : u.2.1 10 0 < nI 2)  : kr_M l dC dI ad cc yX5_define wsX5_define { frames := 1, cells := 0, slots := 0, locals := 22 } [.ref (ad 0), .int (nI j), .int co, .long po] u (tm_I (tm_I (tm_I (tm_I (tm_I u 14 0 (nI 0)) 10 0 (nI 0)) 11 0 (nI 1)) 12 0 (((tm_I u 14 0 (nI 0)).2.1 12 0) + (nI 1))) 14 0 (nI 2)) none := by
  refine kq_ofW (cc := cX5_define) (maxL := 5) (ret := none) (R0 := RX5) (by decide) rfl rfl (Nat.le_of_ble_eq_true rfl) ?_
  intro p e s m below meth c A ls hx hb hr hlk hml hown hts hP hK hD hA hG hS hl
  have hl : lv_has ls 5 [(0, .ref (ad 0)), (1, .int (nI j)), (2, .int co), (3, .long po)] := hl
  refine lv_aload_n hx hb dX5_define_0 rfl (lv_at hl 0 rfl) ?_
  refine lv_aload_n hx hb dX5_define_1 rfl (lv_at hl 0 rfl) ?_
  refine lv_iload_n hx hb dX5_define_2 rfl (lv_at hl 1 rfl) ?_
  refine lv_iconst (v := (nI 3)) hx hb dX5_define_3 (by decide) ?_
  refine kq_cV (st1 := [.int (nI 0), .ref (ad 0)]) ⟨hx, hb, hml, hown, hts⟩ (r_out_in u (by omega) (by omega)) (cwV 2 hts gX5_109_X5_out rfl rfl rfl (by decide +kernel) ⟨Nat.le_of_ble_eq_true rfl, Nat.le_of_ble_eq_true rfl⟩) kq_okT hK hP hD hA hG hS (va_recv hK hP (ci := 5) (q0 := 0) rfl (tm_at (i := 0) (by omega) rfl)) rfl hl.1 rfl rfl (Nat.le_of_ble_eq_true rfl) dX5_define_4 ⟨Nat.le_of_ble_eq_true rfl, Nat.le_of_ble_eq_true rfl⟩ (fun H locs hP hD hS => ?_)
  refine kq_cV (st1 := [.int (nI 1)]) ⟨hx, hb, hml, hown, hts⟩ (r_begin_ok u hnl) (cwV 1 hts gX5_113_X5_begin rfl rfl rfl (by decide +kernel) ⟨Nat.le_of_ble_eq_true rfl, Nat.le_of_ble_eq_true rfl⟩) kq_okT hK hP hD hA hG hS (va_recv hK hP (ci := 5) (q0 := 0) rfl (tm_at (i := 0) (by omega) rfl)) rfl hl.1 rfl rfl (Nat.le_of_ble_eq_true rfl) dX5_define_7 ⟨Nat.le_of_ble_eq_true rfl, Nat.le_of_ble_eq_true rfl⟩ (fun H locs hP hD hS => ?_)
  refine lv_if_ne (tgt := 14) hx hb dX5_define_10 (by decide) (fun _ => ?_) (fun c => absurd c (by decide))
  refine lv_aload_n hx hb dX5_define_14 rfl (lv_at hl 0 rfl) ?_
  refine tr_g_defined hx hb hts inB_X5 hown hK hP (hts _ mb_645) dX5_define_15 ?_
  refine lv_iload_n hx hb dX5_define_18 rfl (lv_at hl 1 rfl) ?_
  refine tr_l_defined hx hb hK hP (by omega) dX5_define_19 ?_
  refine kq_ti (y := (u.2.1 6 j)) (by simp [tm_L, tm_I, tm_D]) ?_
  refine lv_if_eq (tgt := 28) hx hb dX5_define_20 (by decide) (fun _ => ?_) (fun c => absurd hd c)
  refine lv_aload_n hx hb dX5_define_28 rfl (lv_at hl 0 rfl) ?_
  refine tr_g_thrown hx hb hts inB_X5 hown hK hP (hts _ mb_652) dX5_define_29 ?_
  refine kq_ti (y := (nI 0)) (by simp [tm_L, tm_I, tm_D]) ?_
  refine lv_if_ne (tgt := 43) hx hb dX5_define_32 (by decide) (fun c => absurd (by decide) c) (fun _ => ?_)
  refine lv_aload_n hx hb dX5_define_35 rfl (lv_at hl 0 rfl) ?_
  refine lv_iconst (v := (nI 2)) hx hb dX5_define_36 (by decide) ?_
  refine kq_cV (st1 := [.int (nI 0)]) ⟨hx, hb, hml, hown, hts⟩ (r_lasts_no (tm_I u 14 0 (nI 0)) (nI 2) (by simpa [tm_I] using hw) (by simpa [tm_I] using hq)) (cwV 1 hts gX5_157_X5_lasts rfl rfl rfl (by decide +kernel) ⟨Nat.le_of_ble_eq_true rfl, Nat.le_of_ble_eq_true rfl⟩) kq_okT hK hP hD hA hG hS (va_recv hK hP (ci := 5) (q0 := 0) rfl (tm_at (i := 0) (by omega) rfl)) rfl hl.1 rfl rfl (Nat.le_of_ble_eq_true rfl) dX5_define_37 ⟨Nat.le_of_ble_eq_true rfl, Nat.le_of_ble_eq_true rfl⟩ (fun H locs hP hD hS => ?_)
  refine lv_if_ne (tgt := 44) hx hb dX5_define_40 (by decide) (fun c => absurd (by decide) c) (fun _ => ?_)
  exact kq_vret hx hb hr hlk hP hD hS dX5_define_43
set_option maxHeartbeats 4000000 in
set_option maxRecDepth 100000 in
theorem p_define_ok (u : tm_S) {j : Nat} (hj : j < 4) (co : Int32) (po : Int64) (hco : co = nI 0 ∨ co = nI 1) (hnl : u.2.1 11 0 = 0) (hd : u.2.1 6 j = 0) (pr : Int32) (hw : 0 ≤ u.2.1 10 0 ∨ u.2.1 10 0 = (-1)) (hq : tm_fit (u.2.1 10 0) (nI 2) pr)  : kr_M l dC dI ad cc yX5_define wsX5_define { frames := 1, cells := 0, slots := 0, locals := 22 } [.ref (ad 0), .int (nI j), .int co, .long po] u (tm_L (tm_L (tm_I (tm_I (tm_I (tm_I (tm_I u 14 0 (nI 0)) 10 0 pr) 6 j (nI 1)) 7 j co) 8 j (nI 0)) 8 j 0) 7 j po) none := by
  refine kq_ofW (cc := cX5_define) (maxL := 5) (ret := none) (R0 := RX5) (by decide) rfl rfl (Nat.le_of_ble_eq_true rfl) ?_
  intro p e s m below meth c A ls hx hb hr hlk hml hown hts hP hK hD hA hG hS hl
  have hl : lv_has ls 5 [(0, .ref (ad 0)), (1, .int (nI j)), (2, .int co), (3, .long po)] := hl
  refine lv_aload_n hx hb dX5_define_0 rfl (lv_at hl 0 rfl) ?_
  refine lv_aload_n hx hb dX5_define_1 rfl (lv_at hl 0 rfl) ?_
  refine lv_iload_n hx hb dX5_define_2 rfl (lv_at hl 1 rfl) ?_
  refine lv_iconst (v := (nI 3)) hx hb dX5_define_3 (by decide) ?_
  refine kq_cV (st1 := [.int (nI 0), .ref (ad 0)]) ⟨hx, hb, hml, hown, hts⟩ (r_out_in u (by omega) (by omega)) (cwV 2 hts gX5_109_X5_out rfl rfl rfl (by decide +kernel) ⟨Nat.le_of_ble_eq_true rfl, Nat.le_of_ble_eq_true rfl⟩) kq_okT hK hP hD hA hG hS (va_recv hK hP (ci := 5) (q0 := 0) rfl (tm_at (i := 0) (by omega) rfl)) rfl hl.1 rfl rfl (Nat.le_of_ble_eq_true rfl) dX5_define_4 ⟨Nat.le_of_ble_eq_true rfl, Nat.le_of_ble_eq_true rfl⟩ (fun H locs hP hD hS => ?_)
  refine kq_cV (st1 := [.int (nI 1)]) ⟨hx, hb, hml, hown, hts⟩ (r_begin_ok u hnl) (cwV 1 hts gX5_113_X5_begin rfl rfl rfl (by decide +kernel) ⟨Nat.le_of_ble_eq_true rfl, Nat.le_of_ble_eq_true rfl⟩) kq_okT hK hP hD hA hG hS (va_recv hK hP (ci := 5) (q0 := 0) rfl (tm_at (i := 0) (by omega) rfl)) rfl hl.1 rfl rfl (Nat.le_of_ble_eq_true rfl) dX5_define_7 ⟨Nat.le_of_ble_eq_true rfl, Nat.le_of_ble_eq_true rfl⟩ (fun H locs hP hD hS => ?_)
  refine lv_if_ne (tgt := 14) hx hb dX5_define_10 (by decide) (fun _ => ?_) (fun c => absurd c (by decide))
  refine lv_aload_n hx hb dX5_define_14 rfl (lv_at hl 0 rfl) ?_
  refine tr_g_defined hx hb hts inB_X5 hown hK hP (hts _ mb_645) dX5_define_15 ?_
  refine lv_iload_n hx hb dX5_define_18 rfl (lv_at hl 1 rfl) ?_
  refine tr_l_defined hx hb hK hP (by omega) dX5_define_19 ?_
  refine kq_ti (y := (u.2.1 6 j)) (by simp [tm_L, tm_I, tm_D]) ?_
  refine lv_if_eq (tgt := 28) hx hb dX5_define_20 (by decide) (fun _ => ?_) (fun c => absurd hd c)
  refine lv_aload_n hx hb dX5_define_28 rfl (lv_at hl 0 rfl) ?_
  refine tr_g_thrown hx hb hts inB_X5 hown hK hP (hts _ mb_652) dX5_define_29 ?_
  refine kq_ti (y := (nI 0)) (by simp [tm_L, tm_I, tm_D]) ?_
  refine lv_if_ne (tgt := 43) hx hb dX5_define_32 (by decide) (fun c => absurd (by decide) c) (fun _ => ?_)
  refine lv_aload_n hx hb dX5_define_35 rfl (lv_at hl 0 rfl) ?_
  refine lv_iconst (v := (nI 2)) hx hb dX5_define_36 (by decide) ?_
  refine kq_cV (st1 := [.int (nI 1)]) ⟨hx, hb, hml, hown, hts⟩ (r_lasts_fit (tm_I u 14 0 (nI 0)) (nI 2) pr (by simpa [tm_I] using hw) (by simpa [tm_I] using hq)) (cwV 1 hts gX5_157_X5_lasts rfl rfl rfl (by decide +kernel) ⟨Nat.le_of_ble_eq_true rfl, Nat.le_of_ble_eq_true rfl⟩) kq_okT hK hP hD hA hG hS (va_recv hK hP (ci := 5) (q0 := 0) rfl (tm_at (i := 0) (by omega) rfl)) rfl hl.1 rfl rfl (Nat.le_of_ble_eq_true rfl) dX5_define_37 ⟨Nat.le_of_ble_eq_true rfl, Nat.le_of_ble_eq_true rfl⟩ (fun H locs hP hD hS => ?_)
  refine lv_if_ne (tgt := 44) hx hb dX5_define_40 (by decide) (fun _ => ?_) (fun c => absurd c (by decide))
  refine lv_aload_n hx hb dX5_define_44 rfl (lv_at hl 0 rfl) ?_
  refine tr_g_defined hx hb hts inB_X5 hown hK hP (hts _ mb_645) dX5_define_45 ?_
  refine lv_iload_n hx hb dX5_define_48 rfl (lv_at hl 1 rfl) ?_
  refine lv_iconst (v := (nI 1)) hx hb dX5_define_49 (by decide) ?_
  refine tr_t_defined hx hb hK hP hD hS (by omega) (by first | rfl | decide) dX5_define_50 (fun H locs hP hD hS => ?_)
  refine lv_aload_n hx hb dX5_define_51 rfl (lv_at hl 0 rfl) ?_
  refine tr_g_counting hx hb hts inB_X5 hown hK hP (hts _ mb_646) dX5_define_52 ?_
  refine lv_iload_n hx hb dX5_define_55 rfl (lv_at hl 1 rfl) ?_
  refine lv_iload_n hx hb dX5_define_56 rfl (lv_at hl 2 rfl) ?_
  refine tr_t_counting hx hb hK hP hD hS (by omega) (tm_bv hco) dX5_define_57 (fun H locs hP hD hS => ?_)
  refine lv_aload_n hx hb dX5_define_58 rfl (lv_at hl 0 rfl) ?_
  refine tr_g_filled hx hb hts inB_X5 hown hK hP (hts _ mb_647) dX5_define_59 ?_
  refine lv_iload_n hx hb dX5_define_62 rfl (lv_at hl 1 rfl) ?_
  refine lv_iconst (v := (nI 0)) hx hb dX5_define_63 (by decide) ?_
  refine tr_t_filled hx hb hK hP hD hS (by omega) (by first | rfl | decide) dX5_define_64 (fun H locs hP hD hS => ?_)
  refine lv_aload_n hx hb dX5_define_65 rfl (lv_at hl 0 rfl) ?_
  refine tr_g_cell hx hb hts inB_X5 hown hK hP (hts _ mb_634) dX5_define_66 ?_
  refine lv_iload_n hx hb dX5_define_69 rfl (lv_at hl 1 rfl) ?_
  refine lv_lconst (v := 0) hx hb dX5_define_70 (by decide) ?_
  refine tr_t_cell hx hb hK hP hD hS (by omega) dX5_define_71 (fun H locs hP hD hS => ?_)
  refine lv_aload_n hx hb dX5_define_72 rfl (lv_at hl 0 rfl) ?_
  refine tr_g_cellPolicy hx hb hts inB_X5 hown hK hP (hts _ mb_635) dX5_define_73 ?_
  refine lv_iload_n hx hb dX5_define_76 rfl (lv_at hl 1 rfl) ?_
  refine lv_lload_n hx hb dX5_define_77 rfl (lv_at hl 3 rfl) ?_
  refine tr_t_cellPolicy hx hb hK hP hD hS (by omega) dX5_define_78 (fun H locs hP hD hS => ?_)
  exact kq_vret hx hb hr hlk hP hD hS dX5_define_79
set_option maxHeartbeats 4000000 in
set_option maxRecDepth 100000 in
theorem p_remove_b1 (u : tm_S) (x : Int32) (h : x < 0 ∨ ¬ x ≤ nI 3)  : kr_M l dC dI ad cc yX5_remove wsX5_remove { frames := 1, cells := 0, slots := 0, locals := 22 } [.ref (ad 0), .int x] u (tm_I u 14 0 (nI 1)) none := by
  refine kq_ofW (cc := cX5_remove) (maxL := 2) (ret := none) (R0 := RX5) (by decide) rfl rfl (Nat.le_of_ble_eq_true rfl) ?_
  intro p e s m below meth c A ls hx hb hr hlk hml hown hts hP hK hD hA hG hS hl
  have hl : lv_has ls 2 [(0, .ref (ad 0)), (1, .int x)] := hl
  refine lv_aload_n hx hb dX5_remove_0 rfl (lv_at hl 0 rfl) ?_
  refine lv_aload_n hx hb dX5_remove_1 rfl (lv_at hl 0 rfl) ?_
  refine lv_iload_n hx hb dX5_remove_2 rfl (lv_at hl 1 rfl) ?_
  refine lv_iconst (v := (nI 3)) hx hb dX5_remove_3 (by decide) ?_
  refine kq_cV (st1 := [.int (nI 1), .ref (ad 0)]) ⟨hx, hb, hml, hown, hts⟩ (r_out_no u h) (cwV 2 hts gX5_109_X5_out rfl rfl rfl (by decide +kernel) ⟨Nat.le_of_ble_eq_true rfl, Nat.le_of_ble_eq_true rfl⟩) kq_okT hK hP hD hA hG hS (va_recv hK hP (ci := 5) (q0 := 0) rfl (tm_at (i := 0) (by omega) rfl)) rfl hl.1 rfl rfl (Nat.le_of_ble_eq_true rfl) dX5_remove_4 ⟨Nat.le_of_ble_eq_true rfl, Nat.le_of_ble_eq_true rfl⟩ (fun H locs hP hD hS => ?_)
  refine kq_cV (st1 := [.int (nI 0)]) ⟨hx, hb, hml, hown, hts⟩ (r_begin_bad u) (cwV 1 hts gX5_113_X5_begin rfl rfl rfl (by decide +kernel) ⟨Nat.le_of_ble_eq_true rfl, Nat.le_of_ble_eq_true rfl⟩) kq_okT hK hP hD hA hG hS (va_recv hK hP (ci := 5) (q0 := 0) rfl (tm_at (i := 0) (by omega) rfl)) rfl hl.1 rfl rfl (Nat.le_of_ble_eq_true rfl) dX5_remove_7 ⟨Nat.le_of_ble_eq_true rfl, Nat.le_of_ble_eq_true rfl⟩ (fun H locs hP hD hS => ?_)
  refine lv_if_ne (tgt := 14) hx hb dX5_remove_10 (by decide) (fun c => absurd (by decide) c) (fun _ => ?_)
  exact kq_vret hx hb hr hlk hP hD hS dX5_remove_13
set_option maxHeartbeats 4000000 in
set_option maxRecDepth 100000 in
theorem p_remove_lo (u : tm_S) {j : Nat} (hj : j < 4) (hlo : ¬ u.2.1 11 0 = 0)  : kr_M l dC dI ad cc yX5_remove wsX5_remove { frames := 1, cells := 0, slots := 0, locals := 22 } [.ref (ad 0), .int (nI j)] u (tm_I u 14 0 (nI 2)) none := by
  refine kq_ofW (cc := cX5_remove) (maxL := 2) (ret := none) (R0 := RX5) (by decide) rfl rfl (Nat.le_of_ble_eq_true rfl) ?_
  intro p e s m below meth c A ls hx hb hr hlk hml hown hts hP hK hD hA hG hS hl
  have hl : lv_has ls 2 [(0, .ref (ad 0)), (1, .int (nI j))] := hl
  refine lv_aload_n hx hb dX5_remove_0 rfl (lv_at hl 0 rfl) ?_
  refine lv_aload_n hx hb dX5_remove_1 rfl (lv_at hl 0 rfl) ?_
  refine lv_iload_n hx hb dX5_remove_2 rfl (lv_at hl 1 rfl) ?_
  refine lv_iconst (v := (nI 3)) hx hb dX5_remove_3 (by decide) ?_
  refine kq_cV (st1 := [.int (nI 0), .ref (ad 0)]) ⟨hx, hb, hml, hown, hts⟩ (r_out_in u (by omega) (by omega)) (cwV 2 hts gX5_109_X5_out rfl rfl rfl (by decide +kernel) ⟨Nat.le_of_ble_eq_true rfl, Nat.le_of_ble_eq_true rfl⟩) kq_okT hK hP hD hA hG hS (va_recv hK hP (ci := 5) (q0 := 0) rfl (tm_at (i := 0) (by omega) rfl)) rfl hl.1 rfl rfl (Nat.le_of_ble_eq_true rfl) dX5_remove_4 ⟨Nat.le_of_ble_eq_true rfl, Nat.le_of_ble_eq_true rfl⟩ (fun H locs hP hD hS => ?_)
  refine kq_cV (st1 := [.int (nI 0)]) ⟨hx, hb, hml, hown, hts⟩ (r_begin_lost u hlo) (cwV 1 hts gX5_113_X5_begin rfl rfl rfl (by decide +kernel) ⟨Nat.le_of_ble_eq_true rfl, Nat.le_of_ble_eq_true rfl⟩) kq_okT hK hP hD hA hG hS (va_recv hK hP (ci := 5) (q0 := 0) rfl (tm_at (i := 0) (by omega) rfl)) rfl hl.1 rfl rfl (Nat.le_of_ble_eq_true rfl) dX5_remove_7 ⟨Nat.le_of_ble_eq_true rfl, Nat.le_of_ble_eq_true rfl⟩ (fun H locs hP hD hS => ?_)
  refine lv_if_ne (tgt := 14) hx hb dX5_remove_10 (by decide) (fun c => absurd (by decide) c) (fun _ => ?_)
  exact kq_vret hx hb hr hlk hP hD hS dX5_remove_13
set_option maxHeartbeats 4000000 in
set_option maxRecDepth 100000 in
theorem p_remove_und (u : tm_S) {j : Nat} (hj : j < 4) (hnl : u.2.1 11 0 = 0) (hd : u.2.1 6 j = 0) : kr_M l dC dI ad cc yX5_remove wsX5_remove { frames := 1, cells := 0, slots := 0, locals := 22 } [.ref (ad 0), .int (nI j)] u (tm_I (tm_I u 14 0 (nI 0)) 14 0 (nI 3)) none := by
  refine kq_ofW (cc := cX5_remove) (maxL := 2) (ret := none) (R0 := RX5) (by decide) rfl rfl (Nat.le_of_ble_eq_true rfl) ?_
  intro p e s m below meth c A ls hx hb hr hlk hml hown hts hP hK hD hA hG hS hl
  have hl : lv_has ls 2 [(0, .ref (ad 0)), (1, .int (nI j))] := hl
  refine lv_aload_n hx hb dX5_remove_0 rfl (lv_at hl 0 rfl) ?_
  refine lv_aload_n hx hb dX5_remove_1 rfl (lv_at hl 0 rfl) ?_
  refine lv_iload_n hx hb dX5_remove_2 rfl (lv_at hl 1 rfl) ?_
  refine lv_iconst (v := (nI 3)) hx hb dX5_remove_3 (by decide) ?_
  refine kq_cV (st1 := [.int (nI 0), .ref (ad 0)]) ⟨hx, hb, hml, hown, hts⟩ (r_out_in u (by omega) (by omega)) (cwV 2 hts gX5_109_X5_out rfl rfl rfl (by decide +kernel) ⟨Nat.le_of_ble_eq_true rfl, Nat.le_of_ble_eq_true rfl⟩) kq_okT hK hP hD hA hG hS (va_recv hK hP (ci := 5) (q0 := 0) rfl (tm_at (i := 0) (by omega) rfl)) rfl hl.1 rfl rfl (Nat.le_of_ble_eq_true rfl) dX5_remove_4 ⟨Nat.le_of_ble_eq_true rfl, Nat.le_of_ble_eq_true rfl⟩ (fun H locs hP hD hS => ?_)
  refine kq_cV (st1 := [.int (nI 1)]) ⟨hx, hb, hml, hown, hts⟩ (r_begin_ok u hnl) (cwV 1 hts gX5_113_X5_begin rfl rfl rfl (by decide +kernel) ⟨Nat.le_of_ble_eq_true rfl, Nat.le_of_ble_eq_true rfl⟩) kq_okT hK hP hD hA hG hS (va_recv hK hP (ci := 5) (q0 := 0) rfl (tm_at (i := 0) (by omega) rfl)) rfl hl.1 rfl rfl (Nat.le_of_ble_eq_true rfl) dX5_remove_7 ⟨Nat.le_of_ble_eq_true rfl, Nat.le_of_ble_eq_true rfl⟩ (fun H locs hP hD hS => ?_)
  refine lv_if_ne (tgt := 14) hx hb dX5_remove_10 (by decide) (fun _ => ?_) (fun c => absurd c (by decide))
  refine lv_aload_n hx hb dX5_remove_14 rfl (lv_at hl 0 rfl) ?_
  refine tr_g_defined hx hb hts inB_X5 hown hK hP (hts _ mb_645) dX5_remove_15 ?_
  refine lv_iload_n hx hb dX5_remove_18 rfl (lv_at hl 1 rfl) ?_
  refine tr_l_defined hx hb hK hP (by omega) dX5_remove_19 ?_
  refine kq_ti (y := (u.2.1 6 j)) (by simp [tm_L, tm_I, tm_D]) ?_
  refine lv_if_ne (tgt := 28) hx hb dX5_remove_20 (by decide) (fun c => absurd hd c) (fun _ => ?_)
  refine lv_aload_n hx hb dX5_remove_23 rfl (lv_at hl 0 rfl) ?_
  refine lv_iconst (v := (nI 3)) hx hb dX5_remove_24 (by decide) ?_
  refine tr_p_thrown hx hb hts inB_X5 hown hK hP hD hS (hts _ mb_652) dX5_remove_25 (fun H locs hP hD hS => ?_)
  refine lv_aload_n hx hb dX5_remove_28 rfl (lv_at hl 0 rfl) ?_
  refine tr_g_thrown hx hb hts inB_X5 hown hK hP (hts _ mb_652) dX5_remove_29 ?_
  refine kq_ti (y := (nI 3)) (by simp [tm_L, tm_I, tm_D]) ?_
  refine lv_if_ne (tgt := 50) hx hb dX5_remove_32 (by decide) (fun _ => ?_) (fun c => absurd c (by decide))
  exact kq_vret hx hb hr hlk hP hD hS dX5_remove_50
set_option maxHeartbeats 4000000 in
set_option maxRecDepth 100000 in
theorem p_remove_out (u : tm_S) {j : Nat} (hj : j < 4) (hnl : u.2.1 11 0 = 0) (hd : ¬ u.2.1 6 j = 0) (hw : 0 ≤ u.2.1 10 0) (hq : u.2.1 10 0 < nI 2)  : kr_M l dC dI ad cc yX5_remove wsX5_remove { frames := 1, cells := 0, slots := 0, locals := 22 } [.ref (ad 0), .int (nI j)] u (tm_I (tm_I (tm_I (tm_I (tm_I u 14 0 (nI 0)) 10 0 (nI 0)) 11 0 (nI 1)) 12 0 (((tm_I u 14 0 (nI 0)).2.1 12 0) + (nI 1))) 14 0 (nI 2)) none := by
  refine kq_ofW (cc := cX5_remove) (maxL := 2) (ret := none) (R0 := RX5) (by decide) rfl rfl (Nat.le_of_ble_eq_true rfl) ?_
  intro p e s m below meth c A ls hx hb hr hlk hml hown hts hP hK hD hA hG hS hl
  have hl : lv_has ls 2 [(0, .ref (ad 0)), (1, .int (nI j))] := hl
  refine lv_aload_n hx hb dX5_remove_0 rfl (lv_at hl 0 rfl) ?_
  refine lv_aload_n hx hb dX5_remove_1 rfl (lv_at hl 0 rfl) ?_
  refine lv_iload_n hx hb dX5_remove_2 rfl (lv_at hl 1 rfl) ?_
  refine lv_iconst (v := (nI 3)) hx hb dX5_remove_3 (by decide) ?_
  refine kq_cV (st1 := [.int (nI 0), .ref (ad 0)]) ⟨hx, hb, hml, hown, hts⟩ (r_out_in u (by omega) (by omega)) (cwV 2 hts gX5_109_X5_out rfl rfl rfl (by decide +kernel) ⟨Nat.le_of_ble_eq_true rfl, Nat.le_of_ble_eq_true rfl⟩) kq_okT hK hP hD hA hG hS (va_recv hK hP (ci := 5) (q0 := 0) rfl (tm_at (i := 0) (by omega) rfl)) rfl hl.1 rfl rfl (Nat.le_of_ble_eq_true rfl) dX5_remove_4 ⟨Nat.le_of_ble_eq_true rfl, Nat.le_of_ble_eq_true rfl⟩ (fun H locs hP hD hS => ?_)
  refine kq_cV (st1 := [.int (nI 1)]) ⟨hx, hb, hml, hown, hts⟩ (r_begin_ok u hnl) (cwV 1 hts gX5_113_X5_begin rfl rfl rfl (by decide +kernel) ⟨Nat.le_of_ble_eq_true rfl, Nat.le_of_ble_eq_true rfl⟩) kq_okT hK hP hD hA hG hS (va_recv hK hP (ci := 5) (q0 := 0) rfl (tm_at (i := 0) (by omega) rfl)) rfl hl.1 rfl rfl (Nat.le_of_ble_eq_true rfl) dX5_remove_7 ⟨Nat.le_of_ble_eq_true rfl, Nat.le_of_ble_eq_true rfl⟩ (fun H locs hP hD hS => ?_)
  refine lv_if_ne (tgt := 14) hx hb dX5_remove_10 (by decide) (fun _ => ?_) (fun c => absurd c (by decide))
  refine lv_aload_n hx hb dX5_remove_14 rfl (lv_at hl 0 rfl) ?_
  refine tr_g_defined hx hb hts inB_X5 hown hK hP (hts _ mb_645) dX5_remove_15 ?_
  refine lv_iload_n hx hb dX5_remove_18 rfl (lv_at hl 1 rfl) ?_
  refine tr_l_defined hx hb hK hP (by omega) dX5_remove_19 ?_
  refine kq_ti (y := (u.2.1 6 j)) (by simp [tm_L, tm_I, tm_D]) ?_
  refine lv_if_ne (tgt := 28) hx hb dX5_remove_20 (by decide) (fun _ => ?_) (fun c => absurd c hd)
  refine lv_aload_n hx hb dX5_remove_28 rfl (lv_at hl 0 rfl) ?_
  refine tr_g_thrown hx hb hts inB_X5 hown hK hP (hts _ mb_652) dX5_remove_29 ?_
  refine kq_ti (y := (nI 0)) (by simp [tm_L, tm_I, tm_D]) ?_
  refine lv_if_ne (tgt := 50) hx hb dX5_remove_32 (by decide) (fun c => absurd (by decide) c) (fun _ => ?_)
  refine lv_aload_n hx hb dX5_remove_35 rfl (lv_at hl 0 rfl) ?_
  refine lv_iconst (v := (nI 2)) hx hb dX5_remove_36 (by decide) ?_
  refine kq_cV (st1 := [.int (nI 0)]) ⟨hx, hb, hml, hown, hts⟩ (r_lasts_no (tm_I u 14 0 (nI 0)) (nI 2) (by simpa [tm_I] using hw) (by simpa [tm_I] using hq)) (cwV 1 hts gX5_157_X5_lasts rfl rfl rfl (by decide +kernel) ⟨Nat.le_of_ble_eq_true rfl, Nat.le_of_ble_eq_true rfl⟩) kq_okT hK hP hD hA hG hS (va_recv hK hP (ci := 5) (q0 := 0) rfl (tm_at (i := 0) (by omega) rfl)) rfl hl.1 rfl rfl (Nat.le_of_ble_eq_true rfl) dX5_remove_37 ⟨Nat.le_of_ble_eq_true rfl, Nat.le_of_ble_eq_true rfl⟩ (fun H locs hP hD hS => ?_)
  refine lv_if_eq (tgt := 50) hx hb dX5_remove_40 (by decide) (fun _ => ?_) (fun c => absurd (by decide) c)
  exact kq_vret hx hb hr hlk hP hD hS dX5_remove_50
set_option maxHeartbeats 4000000 in
set_option maxRecDepth 100000 in
theorem p_remove_ok (u : tm_S) {j : Nat} (hj : j < 4) (hnl : u.2.1 11 0 = 0) (hd : ¬ u.2.1 6 j = 0) (pr : Int32) (hw : 0 ≤ u.2.1 10 0 ∨ u.2.1 10 0 = (-1)) (hq : tm_fit (u.2.1 10 0) (nI 2) pr)  : kr_M l dC dI ad cc yX5_remove wsX5_remove { frames := 1, cells := 0, slots := 0, locals := 22 } [.ref (ad 0), .int (nI j)] u (tm_I (tm_I (tm_I u 14 0 (nI 0)) 10 0 pr) 6 j (nI 0)) none := by
  refine kq_ofW (cc := cX5_remove) (maxL := 2) (ret := none) (R0 := RX5) (by decide) rfl rfl (Nat.le_of_ble_eq_true rfl) ?_
  intro p e s m below meth c A ls hx hb hr hlk hml hown hts hP hK hD hA hG hS hl
  have hl : lv_has ls 2 [(0, .ref (ad 0)), (1, .int (nI j))] := hl
  refine lv_aload_n hx hb dX5_remove_0 rfl (lv_at hl 0 rfl) ?_
  refine lv_aload_n hx hb dX5_remove_1 rfl (lv_at hl 0 rfl) ?_
  refine lv_iload_n hx hb dX5_remove_2 rfl (lv_at hl 1 rfl) ?_
  refine lv_iconst (v := (nI 3)) hx hb dX5_remove_3 (by decide) ?_
  refine kq_cV (st1 := [.int (nI 0), .ref (ad 0)]) ⟨hx, hb, hml, hown, hts⟩ (r_out_in u (by omega) (by omega)) (cwV 2 hts gX5_109_X5_out rfl rfl rfl (by decide +kernel) ⟨Nat.le_of_ble_eq_true rfl, Nat.le_of_ble_eq_true rfl⟩) kq_okT hK hP hD hA hG hS (va_recv hK hP (ci := 5) (q0 := 0) rfl (tm_at (i := 0) (by omega) rfl)) rfl hl.1 rfl rfl (Nat.le_of_ble_eq_true rfl) dX5_remove_4 ⟨Nat.le_of_ble_eq_true rfl, Nat.le_of_ble_eq_true rfl⟩ (fun H locs hP hD hS => ?_)
  refine kq_cV (st1 := [.int (nI 1)]) ⟨hx, hb, hml, hown, hts⟩ (r_begin_ok u hnl) (cwV 1 hts gX5_113_X5_begin rfl rfl rfl (by decide +kernel) ⟨Nat.le_of_ble_eq_true rfl, Nat.le_of_ble_eq_true rfl⟩) kq_okT hK hP hD hA hG hS (va_recv hK hP (ci := 5) (q0 := 0) rfl (tm_at (i := 0) (by omega) rfl)) rfl hl.1 rfl rfl (Nat.le_of_ble_eq_true rfl) dX5_remove_7 ⟨Nat.le_of_ble_eq_true rfl, Nat.le_of_ble_eq_true rfl⟩ (fun H locs hP hD hS => ?_)
  refine lv_if_ne (tgt := 14) hx hb dX5_remove_10 (by decide) (fun _ => ?_) (fun c => absurd c (by decide))
  refine lv_aload_n hx hb dX5_remove_14 rfl (lv_at hl 0 rfl) ?_
  refine tr_g_defined hx hb hts inB_X5 hown hK hP (hts _ mb_645) dX5_remove_15 ?_
  refine lv_iload_n hx hb dX5_remove_18 rfl (lv_at hl 1 rfl) ?_
  refine tr_l_defined hx hb hK hP (by omega) dX5_remove_19 ?_
  refine kq_ti (y := (u.2.1 6 j)) (by simp [tm_L, tm_I, tm_D]) ?_
  refine lv_if_ne (tgt := 28) hx hb dX5_remove_20 (by decide) (fun _ => ?_) (fun c => absurd c hd)
  refine lv_aload_n hx hb dX5_remove_28 rfl (lv_at hl 0 rfl) ?_
  refine tr_g_thrown hx hb hts inB_X5 hown hK hP (hts _ mb_652) dX5_remove_29 ?_
  refine kq_ti (y := (nI 0)) (by simp [tm_L, tm_I, tm_D]) ?_
  refine lv_if_ne (tgt := 50) hx hb dX5_remove_32 (by decide) (fun c => absurd (by decide) c) (fun _ => ?_)
  refine lv_aload_n hx hb dX5_remove_35 rfl (lv_at hl 0 rfl) ?_
  refine lv_iconst (v := (nI 2)) hx hb dX5_remove_36 (by decide) ?_
  refine kq_cV (st1 := [.int (nI 1)]) ⟨hx, hb, hml, hown, hts⟩ (r_lasts_fit (tm_I u 14 0 (nI 0)) (nI 2) pr (by simpa [tm_I] using hw) (by simpa [tm_I] using hq)) (cwV 1 hts gX5_157_X5_lasts rfl rfl rfl (by decide +kernel) ⟨Nat.le_of_ble_eq_true rfl, Nat.le_of_ble_eq_true rfl⟩) kq_okT hK hP hD hA hG hS (va_recv hK hP (ci := 5) (q0 := 0) rfl (tm_at (i := 0) (by omega) rfl)) rfl hl.1 rfl rfl (Nat.le_of_ble_eq_true rfl) dX5_remove_37 ⟨Nat.le_of_ble_eq_true rfl, Nat.le_of_ble_eq_true rfl⟩ (fun H locs hP hD hS => ?_)
  refine lv_if_eq (tgt := 50) hx hb dX5_remove_40 (by decide) (fun c => absurd c (by decide)) (fun _ => ?_)
  refine lv_aload_n hx hb dX5_remove_43 rfl (lv_at hl 0 rfl) ?_
  refine tr_g_defined hx hb hts inB_X5 hown hK hP (hts _ mb_645) dX5_remove_44 ?_
  refine lv_iload_n hx hb dX5_remove_47 rfl (lv_at hl 1 rfl) ?_
  refine lv_iconst (v := (nI 0)) hx hb dX5_remove_48 (by decide) ?_
  refine tr_t_defined hx hb hK hP hD hS (by omega) (by first | rfl | decide) dX5_remove_49 (fun H locs hP hD hS => ?_)
  exact kq_vret hx hb hr hlk hP hD hS dX5_remove_50
set_option maxHeartbeats 4000000 in
set_option maxRecDepth 100000 in
theorem p_write_b1 (u : tm_S) (x : Int32) (h : x < 0 ∨ ¬ x ≤ nI 3) (i : Int32) (v : Int64) : kr_M l dC dI ad cc yX5_write wsX5_write { frames := 1, cells := 0, slots := 0, locals := 23 } [.ref (ad 0), .int x, .int i, .long v] u (tm_I u 14 0 (nI 1)) (some (.long 0)) := by
  refine kq_ofW (cc := cX5_write) (maxL := 5) (ret := (some .long)) (R0 := RX5) (by decide) rfl rfl (Nat.le_of_ble_eq_true rfl) ?_
  intro p e s m below meth c A ls hx hb hr hlk hml hown hts hP hK hD hA hG hS hl
  have hl : lv_has ls 5 [(0, .ref (ad 0)), (1, .int x), (2, .int i), (3, .long v)] := hl
  refine lv_aload_n hx hb dX5_write_0 rfl (lv_at hl 0 rfl) ?_
  refine lv_aload_n hx hb dX5_write_1 rfl (lv_at hl 0 rfl) ?_
  refine lv_iload_n hx hb dX5_write_2 rfl (lv_at hl 1 rfl) ?_
  refine lv_iconst (v := (nI 3)) hx hb dX5_write_3 (by decide) ?_
  refine kq_cV (st1 := [.int (nI 1), .ref (ad 0)]) ⟨hx, hb, hml, hown, hts⟩ (r_out_no u h) (cwV 2 hts gX5_109_X5_out rfl rfl rfl (by decide +kernel) ⟨Nat.le_of_ble_eq_true rfl, Nat.le_of_ble_eq_true rfl⟩) kq_okT hK hP hD hA hG hS (va_recv hK hP (ci := 5) (q0 := 0) rfl (tm_at (i := 0) (by omega) rfl)) rfl hl.1 rfl rfl (Nat.le_of_ble_eq_true rfl) dX5_write_4 ⟨Nat.le_of_ble_eq_true rfl, Nat.le_of_ble_eq_true rfl⟩ (fun H locs hP hD hS => ?_)
  refine lv_if_ne (tgt := 19) hx hb dX5_write_7 (by decide) (fun _ => ?_) (fun c => absurd c (by decide))
  refine lv_iconst (v := (nI 1)) hx hb dX5_write_19 (by decide) ?_
  refine lv_goto (tgt := 24) hx hb dX5_write_20 (by decide) ?_
  refine kq_cV (st1 := [.int (nI 0)]) ⟨hx, hb, hml, hown, hts⟩ (r_begin_bad u) (cwV 1 hts gX5_113_X5_begin rfl rfl rfl (by decide +kernel) ⟨Nat.le_of_ble_eq_true rfl, Nat.le_of_ble_eq_true rfl⟩) kq_okT hK hP hD hA hG hS (va_recv hK hP (ci := 5) (q0 := 0) rfl (tm_at (i := 0) (by omega) rfl)) rfl hl.1 rfl rfl (Nat.le_of_ble_eq_true rfl) dX5_write_24 ⟨Nat.le_of_ble_eq_true rfl, Nat.le_of_ble_eq_true rfl⟩ (fun H locs hP hD hS => ?_)
  refine lv_if_ne (tgt := 32) hx hb dX5_write_27 (by decide) (fun c => absurd (by decide) c) (fun _ => ?_)
  refine lv_lconst (v := 0) hx hb dX5_write_30 (by decide) ?_
  exact kq_lret hx hb hr hlk hP hD hS dX5_write_31
set_option maxHeartbeats 4000000 in
set_option maxRecDepth 100000 in
theorem p_write_b2 (u : tm_S) {j : Nat} (hj : j < 4) (x : Int32) (h : x < 0 ∨ ¬ x ≤ nI 2) (v : Int64) : kr_M l dC dI ad cc yX5_write wsX5_write { frames := 1, cells := 0, slots := 0, locals := 23 } [.ref (ad 0), .int (nI j), .int x, .long v] u (tm_I u 14 0 (nI 1)) (some (.long 0)) := by
  refine kq_ofW (cc := cX5_write) (maxL := 5) (ret := (some .long)) (R0 := RX5) (by decide) rfl rfl (Nat.le_of_ble_eq_true rfl) ?_
  intro p e s m below meth c A ls hx hb hr hlk hml hown hts hP hK hD hA hG hS hl
  have hl : lv_has ls 5 [(0, .ref (ad 0)), (1, .int (nI j)), (2, .int x), (3, .long v)] := hl
  refine lv_aload_n hx hb dX5_write_0 rfl (lv_at hl 0 rfl) ?_
  refine lv_aload_n hx hb dX5_write_1 rfl (lv_at hl 0 rfl) ?_
  refine lv_iload_n hx hb dX5_write_2 rfl (lv_at hl 1 rfl) ?_
  refine lv_iconst (v := (nI 3)) hx hb dX5_write_3 (by decide) ?_
  refine kq_cV (st1 := [.int (nI 0), .ref (ad 0)]) ⟨hx, hb, hml, hown, hts⟩ (r_out_in u (by omega) (by omega)) (cwV 2 hts gX5_109_X5_out rfl rfl rfl (by decide +kernel) ⟨Nat.le_of_ble_eq_true rfl, Nat.le_of_ble_eq_true rfl⟩) kq_okT hK hP hD hA hG hS (va_recv hK hP (ci := 5) (q0 := 0) rfl (tm_at (i := 0) (by omega) rfl)) rfl hl.1 rfl rfl (Nat.le_of_ble_eq_true rfl) dX5_write_4 ⟨Nat.le_of_ble_eq_true rfl, Nat.le_of_ble_eq_true rfl⟩ (fun H locs hP hD hS => ?_)
  refine lv_if_ne (tgt := 19) hx hb dX5_write_7 (by decide) (fun c => absurd (by decide) c) (fun _ => ?_)
  refine lv_aload_n hx hb dX5_write_10 rfl (lv_at hl 0 rfl) ?_
  refine lv_iload_n hx hb dX5_write_11 rfl (lv_at hl 2 rfl) ?_
  refine lv_iconst (v := (nI 2)) hx hb dX5_write_12 (by decide) ?_
  refine kq_cV (st1 := [.int (nI 1), .ref (ad 0)]) ⟨hx, hb, hml, hown, hts⟩ (r_out_no u h) (cwV 2 hts gX5_109_X5_out rfl rfl rfl (by decide +kernel) ⟨Nat.le_of_ble_eq_true rfl, Nat.le_of_ble_eq_true rfl⟩) kq_okT hK hP hD hA hG hS (va_recv hK hP (ci := 5) (q0 := 0) rfl (tm_at (i := 0) (by omega) rfl)) rfl hl.1 rfl rfl (Nat.le_of_ble_eq_true rfl) dX5_write_13 ⟨Nat.le_of_ble_eq_true rfl, Nat.le_of_ble_eq_true rfl⟩ (fun H locs hP hD hS => ?_)
  refine lv_if_eq (tgt := 23) hx hb dX5_write_16 (by decide) (fun c => absurd c (by decide)) (fun _ => ?_)
  refine lv_iconst (v := (nI 1)) hx hb dX5_write_19 (by decide) ?_
  refine lv_goto (tgt := 24) hx hb dX5_write_20 (by decide) ?_
  refine kq_cV (st1 := [.int (nI 0)]) ⟨hx, hb, hml, hown, hts⟩ (r_begin_bad u) (cwV 1 hts gX5_113_X5_begin rfl rfl rfl (by decide +kernel) ⟨Nat.le_of_ble_eq_true rfl, Nat.le_of_ble_eq_true rfl⟩) kq_okT hK hP hD hA hG hS (va_recv hK hP (ci := 5) (q0 := 0) rfl (tm_at (i := 0) (by omega) rfl)) rfl hl.1 rfl rfl (Nat.le_of_ble_eq_true rfl) dX5_write_24 ⟨Nat.le_of_ble_eq_true rfl, Nat.le_of_ble_eq_true rfl⟩ (fun H locs hP hD hS => ?_)
  refine lv_if_ne (tgt := 32) hx hb dX5_write_27 (by decide) (fun c => absurd (by decide) c) (fun _ => ?_)
  refine lv_lconst (v := 0) hx hb dX5_write_30 (by decide) ?_
  exact kq_lret hx hb hr hlk hP hD hS dX5_write_31
set_option maxHeartbeats 4000000 in
set_option maxRecDepth 100000 in
theorem p_write_lo (u : tm_S) {j i : Nat} (hj : j < 4) (hi : i < 3) (v : Int64) (hlo : ¬ u.2.1 11 0 = 0)  : kr_M l dC dI ad cc yX5_write wsX5_write { frames := 1, cells := 0, slots := 0, locals := 23 } [.ref (ad 0), .int (nI j), .int (nI i), .long v] u (tm_I u 14 0 (nI 2)) (some (.long 0)) := by
  refine kq_ofW (cc := cX5_write) (maxL := 5) (ret := (some .long)) (R0 := RX5) (by decide) rfl rfl (Nat.le_of_ble_eq_true rfl) ?_
  intro p e s m below meth c A ls hx hb hr hlk hml hown hts hP hK hD hA hG hS hl
  have hl : lv_has ls 5 [(0, .ref (ad 0)), (1, .int (nI j)), (2, .int (nI i)), (3, .long v)] := hl
  refine lv_aload_n hx hb dX5_write_0 rfl (lv_at hl 0 rfl) ?_
  refine lv_aload_n hx hb dX5_write_1 rfl (lv_at hl 0 rfl) ?_
  refine lv_iload_n hx hb dX5_write_2 rfl (lv_at hl 1 rfl) ?_
  refine lv_iconst (v := (nI 3)) hx hb dX5_write_3 (by decide) ?_
  refine kq_cV (st1 := [.int (nI 0), .ref (ad 0)]) ⟨hx, hb, hml, hown, hts⟩ (r_out_in u (by omega) (by omega)) (cwV 2 hts gX5_109_X5_out rfl rfl rfl (by decide +kernel) ⟨Nat.le_of_ble_eq_true rfl, Nat.le_of_ble_eq_true rfl⟩) kq_okT hK hP hD hA hG hS (va_recv hK hP (ci := 5) (q0 := 0) rfl (tm_at (i := 0) (by omega) rfl)) rfl hl.1 rfl rfl (Nat.le_of_ble_eq_true rfl) dX5_write_4 ⟨Nat.le_of_ble_eq_true rfl, Nat.le_of_ble_eq_true rfl⟩ (fun H locs hP hD hS => ?_)
  refine lv_if_ne (tgt := 19) hx hb dX5_write_7 (by decide) (fun c => absurd (by decide) c) (fun _ => ?_)
  refine lv_aload_n hx hb dX5_write_10 rfl (lv_at hl 0 rfl) ?_
  refine lv_iload_n hx hb dX5_write_11 rfl (lv_at hl 2 rfl) ?_
  refine lv_iconst (v := (nI 2)) hx hb dX5_write_12 (by decide) ?_
  refine kq_cV (st1 := [.int (nI 0), .ref (ad 0)]) ⟨hx, hb, hml, hown, hts⟩ (r_out_in u (by omega) (by omega)) (cwV 2 hts gX5_109_X5_out rfl rfl rfl (by decide +kernel) ⟨Nat.le_of_ble_eq_true rfl, Nat.le_of_ble_eq_true rfl⟩) kq_okT hK hP hD hA hG hS (va_recv hK hP (ci := 5) (q0 := 0) rfl (tm_at (i := 0) (by omega) rfl)) rfl hl.1 rfl rfl (Nat.le_of_ble_eq_true rfl) dX5_write_13 ⟨Nat.le_of_ble_eq_true rfl, Nat.le_of_ble_eq_true rfl⟩ (fun H locs hP hD hS => ?_)
  refine lv_if_eq (tgt := 23) hx hb dX5_write_16 (by decide) (fun _ => ?_) (fun c => absurd (by decide) c)
  refine lv_iconst (v := (nI 0)) hx hb dX5_write_23 (by decide) ?_
  refine kq_cV (st1 := [.int (nI 0)]) ⟨hx, hb, hml, hown, hts⟩ (r_begin_lost u hlo) (cwV 1 hts gX5_113_X5_begin rfl rfl rfl (by decide +kernel) ⟨Nat.le_of_ble_eq_true rfl, Nat.le_of_ble_eq_true rfl⟩) kq_okT hK hP hD hA hG hS (va_recv hK hP (ci := 5) (q0 := 0) rfl (tm_at (i := 0) (by omega) rfl)) rfl hl.1 rfl rfl (Nat.le_of_ble_eq_true rfl) dX5_write_24 ⟨Nat.le_of_ble_eq_true rfl, Nat.le_of_ble_eq_true rfl⟩ (fun H locs hP hD hS => ?_)
  refine lv_if_ne (tgt := 32) hx hb dX5_write_27 (by decide) (fun c => absurd (by decide) c) (fun _ => ?_)
  refine lv_lconst (v := 0) hx hb dX5_write_30 (by decide) ?_
  exact kq_lret hx hb hr hlk hP hD hS dX5_write_31
set_option maxHeartbeats 4000000 in
set_option maxRecDepth 100000 in
theorem p_write_und (u : tm_S) {j i : Nat} (hj : j < 4) (hi : i < 3) (v : Int64) (hnl : u.2.1 11 0 = 0) (hd : u.2.1 6 j = 0) : kr_M l dC dI ad cc yX5_write wsX5_write { frames := 1, cells := 0, slots := 0, locals := 23 } [.ref (ad 0), .int (nI j), .int (nI i), .long v] u (tm_I (tm_I u 14 0 (nI 0)) 14 0 (nI 3)) (some (.long 0)) := by
  refine kq_ofW (cc := cX5_write) (maxL := 5) (ret := (some .long)) (R0 := RX5) (by decide) rfl rfl (Nat.le_of_ble_eq_true rfl) ?_
  intro p e s m below meth c A ls hx hb hr hlk hml hown hts hP hK hD hA hG hS hl
  have hl : lv_has ls 5 [(0, .ref (ad 0)), (1, .int (nI j)), (2, .int (nI i)), (3, .long v)] := hl
  refine lv_aload_n hx hb dX5_write_0 rfl (lv_at hl 0 rfl) ?_
  refine lv_aload_n hx hb dX5_write_1 rfl (lv_at hl 0 rfl) ?_
  refine lv_iload_n hx hb dX5_write_2 rfl (lv_at hl 1 rfl) ?_
  refine lv_iconst (v := (nI 3)) hx hb dX5_write_3 (by decide) ?_
  refine kq_cV (st1 := [.int (nI 0), .ref (ad 0)]) ⟨hx, hb, hml, hown, hts⟩ (r_out_in u (by omega) (by omega)) (cwV 2 hts gX5_109_X5_out rfl rfl rfl (by decide +kernel) ⟨Nat.le_of_ble_eq_true rfl, Nat.le_of_ble_eq_true rfl⟩) kq_okT hK hP hD hA hG hS (va_recv hK hP (ci := 5) (q0 := 0) rfl (tm_at (i := 0) (by omega) rfl)) rfl hl.1 rfl rfl (Nat.le_of_ble_eq_true rfl) dX5_write_4 ⟨Nat.le_of_ble_eq_true rfl, Nat.le_of_ble_eq_true rfl⟩ (fun H locs hP hD hS => ?_)
  refine lv_if_ne (tgt := 19) hx hb dX5_write_7 (by decide) (fun c => absurd (by decide) c) (fun _ => ?_)
  refine lv_aload_n hx hb dX5_write_10 rfl (lv_at hl 0 rfl) ?_
  refine lv_iload_n hx hb dX5_write_11 rfl (lv_at hl 2 rfl) ?_
  refine lv_iconst (v := (nI 2)) hx hb dX5_write_12 (by decide) ?_
  refine kq_cV (st1 := [.int (nI 0), .ref (ad 0)]) ⟨hx, hb, hml, hown, hts⟩ (r_out_in u (by omega) (by omega)) (cwV 2 hts gX5_109_X5_out rfl rfl rfl (by decide +kernel) ⟨Nat.le_of_ble_eq_true rfl, Nat.le_of_ble_eq_true rfl⟩) kq_okT hK hP hD hA hG hS (va_recv hK hP (ci := 5) (q0 := 0) rfl (tm_at (i := 0) (by omega) rfl)) rfl hl.1 rfl rfl (Nat.le_of_ble_eq_true rfl) dX5_write_13 ⟨Nat.le_of_ble_eq_true rfl, Nat.le_of_ble_eq_true rfl⟩ (fun H locs hP hD hS => ?_)
  refine lv_if_eq (tgt := 23) hx hb dX5_write_16 (by decide) (fun _ => ?_) (fun c => absurd (by decide) c)
  refine lv_iconst (v := (nI 0)) hx hb dX5_write_23 (by decide) ?_
  refine kq_cV (st1 := [.int (nI 1)]) ⟨hx, hb, hml, hown, hts⟩ (r_begin_ok u hnl) (cwV 1 hts gX5_113_X5_begin rfl rfl rfl (by decide +kernel) ⟨Nat.le_of_ble_eq_true rfl, Nat.le_of_ble_eq_true rfl⟩) kq_okT hK hP hD hA hG hS (va_recv hK hP (ci := 5) (q0 := 0) rfl (tm_at (i := 0) (by omega) rfl)) rfl hl.1 rfl rfl (Nat.le_of_ble_eq_true rfl) dX5_write_24 ⟨Nat.le_of_ble_eq_true rfl, Nat.le_of_ble_eq_true rfl⟩ (fun H locs hP hD hS => ?_)
  refine lv_if_ne (tgt := 32) hx hb dX5_write_27 (by decide) (fun _ => ?_) (fun c => absurd c (by decide))
  refine lv_aload_n hx hb dX5_write_32 rfl (lv_at hl 0 rfl) ?_
  refine lv_aload_n hx hb dX5_write_33 rfl (lv_at hl 0 rfl) ?_
  refine tr_g_defined hx hb hts inB_X5 hown hK hP (hts _ mb_645) dX5_write_34 ?_
  refine lv_iload_n hx hb dX5_write_37 rfl (lv_at hl 1 rfl) ?_
  refine tr_l_defined hx hb hK hP (by omega) dX5_write_38 ?_
  refine kq_ti (y := (u.2.1 6 j)) (by simp [tm_L, tm_I, tm_D]) ?_
  refine lv_if_ne (tgt := 46) hx hb dX5_write_39 (by decide) (fun c => absurd hd c) (fun _ => ?_)
  refine lv_iconst (v := (nI 3)) hx hb dX5_write_42 (by decide) ?_
  refine lv_goto (tgt := 72) hx hb dX5_write_43 (by decide) ?_
  refine tr_p_thrown hx hb hts inB_X5 hown hK hP hD hS (hts _ mb_652) dX5_write_72 (fun H locs hP hD hS => ?_)
  refine lv_aload_n hx hb dX5_write_75 rfl (lv_at hl 0 rfl) ?_
  refine tr_g_thrown hx hb hts inB_X5 hown hK hP (hts _ mb_652) dX5_write_76 ?_
  refine kq_ti (y := (nI 3)) (by simp [tm_L, tm_I, tm_D]) ?_
  refine lv_if_ne (tgt := 90) hx hb dX5_write_79 (by decide) (fun _ => ?_) (fun c => absurd c (by decide))
  refine lv_lconst (v := 0) hx hb dX5_write_90 (by decide) ?_
  exact kq_lret hx hb hr hlk hP hD hS dX5_write_91
set_option maxHeartbeats 4000000 in
set_option maxRecDepth 100000 in
theorem p_write_p0out (u : tm_S) {j i : Nat} (hj : j < 4) (hi : i < 3) (v : Int64) (hnl : u.2.1 11 0 = 0) (hd : ¬ u.2.1 6 j = 0) (h0 : u.1 7 j = 0) (hw : 0 ≤ u.2.1 10 0) (hq : u.2.1 10 0 < nI 3)  : kr_M l dC dI ad cc yX5_write wsX5_write { frames := 1, cells := 0, slots := 0, locals := 23 } [.ref (ad 0), .int (nI j), .int (nI i), .long v] u (tm_I (tm_I (tm_I (tm_I (tm_I (tm_I u 14 0 (nI 0)) 14 0 (nI 0)) 10 0 (nI 0)) 11 0 (nI 1)) 12 0 (((tm_I (tm_I u 14 0 (nI 0)) 14 0 (nI 0)).2.1 12 0) + (nI 1))) 14 0 (nI 2)) (some (.long 0)) := by
  refine kq_ofW (cc := cX5_write) (maxL := 5) (ret := (some .long)) (R0 := RX5) (by decide) rfl rfl (Nat.le_of_ble_eq_true rfl) ?_
  intro p e s m below meth c A ls hx hb hr hlk hml hown hts hP hK hD hA hG hS hl
  have hl : lv_has ls 5 [(0, .ref (ad 0)), (1, .int (nI j)), (2, .int (nI i)), (3, .long v)] := hl
  refine lv_aload_n hx hb dX5_write_0 rfl (lv_at hl 0 rfl) ?_
  refine lv_aload_n hx hb dX5_write_1 rfl (lv_at hl 0 rfl) ?_
  refine lv_iload_n hx hb dX5_write_2 rfl (lv_at hl 1 rfl) ?_
  refine lv_iconst (v := (nI 3)) hx hb dX5_write_3 (by decide) ?_
  refine kq_cV (st1 := [.int (nI 0), .ref (ad 0)]) ⟨hx, hb, hml, hown, hts⟩ (r_out_in u (by omega) (by omega)) (cwV 2 hts gX5_109_X5_out rfl rfl rfl (by decide +kernel) ⟨Nat.le_of_ble_eq_true rfl, Nat.le_of_ble_eq_true rfl⟩) kq_okT hK hP hD hA hG hS (va_recv hK hP (ci := 5) (q0 := 0) rfl (tm_at (i := 0) (by omega) rfl)) rfl hl.1 rfl rfl (Nat.le_of_ble_eq_true rfl) dX5_write_4 ⟨Nat.le_of_ble_eq_true rfl, Nat.le_of_ble_eq_true rfl⟩ (fun H locs hP hD hS => ?_)
  refine lv_if_ne (tgt := 19) hx hb dX5_write_7 (by decide) (fun c => absurd (by decide) c) (fun _ => ?_)
  refine lv_aload_n hx hb dX5_write_10 rfl (lv_at hl 0 rfl) ?_
  refine lv_iload_n hx hb dX5_write_11 rfl (lv_at hl 2 rfl) ?_
  refine lv_iconst (v := (nI 2)) hx hb dX5_write_12 (by decide) ?_
  refine kq_cV (st1 := [.int (nI 0), .ref (ad 0)]) ⟨hx, hb, hml, hown, hts⟩ (r_out_in u (by omega) (by omega)) (cwV 2 hts gX5_109_X5_out rfl rfl rfl (by decide +kernel) ⟨Nat.le_of_ble_eq_true rfl, Nat.le_of_ble_eq_true rfl⟩) kq_okT hK hP hD hA hG hS (va_recv hK hP (ci := 5) (q0 := 0) rfl (tm_at (i := 0) (by omega) rfl)) rfl hl.1 rfl rfl (Nat.le_of_ble_eq_true rfl) dX5_write_13 ⟨Nat.le_of_ble_eq_true rfl, Nat.le_of_ble_eq_true rfl⟩ (fun H locs hP hD hS => ?_)
  refine lv_if_eq (tgt := 23) hx hb dX5_write_16 (by decide) (fun _ => ?_) (fun c => absurd (by decide) c)
  refine lv_iconst (v := (nI 0)) hx hb dX5_write_23 (by decide) ?_
  refine kq_cV (st1 := [.int (nI 1)]) ⟨hx, hb, hml, hown, hts⟩ (r_begin_ok u hnl) (cwV 1 hts gX5_113_X5_begin rfl rfl rfl (by decide +kernel) ⟨Nat.le_of_ble_eq_true rfl, Nat.le_of_ble_eq_true rfl⟩) kq_okT hK hP hD hA hG hS (va_recv hK hP (ci := 5) (q0 := 0) rfl (tm_at (i := 0) (by omega) rfl)) rfl hl.1 rfl rfl (Nat.le_of_ble_eq_true rfl) dX5_write_24 ⟨Nat.le_of_ble_eq_true rfl, Nat.le_of_ble_eq_true rfl⟩ (fun H locs hP hD hS => ?_)
  refine lv_if_ne (tgt := 32) hx hb dX5_write_27 (by decide) (fun _ => ?_) (fun c => absurd c (by decide))
  refine lv_aload_n hx hb dX5_write_32 rfl (lv_at hl 0 rfl) ?_
  refine lv_aload_n hx hb dX5_write_33 rfl (lv_at hl 0 rfl) ?_
  refine tr_g_defined hx hb hts inB_X5 hown hK hP (hts _ mb_645) dX5_write_34 ?_
  refine lv_iload_n hx hb dX5_write_37 rfl (lv_at hl 1 rfl) ?_
  refine tr_l_defined hx hb hK hP (by omega) dX5_write_38 ?_
  refine kq_ti (y := (u.2.1 6 j)) (by simp [tm_L, tm_I, tm_D]) ?_
  refine lv_if_ne (tgt := 46) hx hb dX5_write_39 (by decide) (fun _ => ?_) (fun c => absurd c hd)
  refine lv_aload_n hx hb dX5_write_46 rfl (lv_at hl 0 rfl) ?_
  refine tr_g_cellPolicy hx hb hts inB_X5 hown hK hP (hts _ mb_635) dX5_write_47 ?_
  refine lv_iload_n hx hb dX5_write_50 rfl (lv_at hl 1 rfl) ?_
  refine tr_l_cellPolicy hx hb hK hP (by omega) dX5_write_51 ?_
  refine kq_tl (y := (u.1 7 j)) (by simp [tm_L, tm_I, tm_D]) ?_
  refine lv_lconst (v := 0) hx hb dX5_write_52 (by decide) ?_
  refine W.lcmp hx hb dX5_write_53 ?_
  refine lv_if_eq (tgt := 71) hx hb dX5_write_54 (by decide) (fun _ => ?_) (fun c => absurd (tm_cmp0.mpr h0) c)
  refine lv_iconst (v := (nI 0)) hx hb dX5_write_71 (by decide) ?_
  refine tr_p_thrown hx hb hts inB_X5 hown hK hP hD hS (hts _ mb_652) dX5_write_72 (fun H locs hP hD hS => ?_)
  refine lv_aload_n hx hb dX5_write_75 rfl (lv_at hl 0 rfl) ?_
  refine tr_g_thrown hx hb hts inB_X5 hown hK hP (hts _ mb_652) dX5_write_76 ?_
  refine kq_ti (y := (nI 0)) (by simp [tm_L, tm_I, tm_D]) ?_
  refine lv_if_ne (tgt := 90) hx hb dX5_write_79 (by decide) (fun c => absurd (by decide) c) (fun _ => ?_)
  refine lv_aload_n hx hb dX5_write_82 rfl (lv_at hl 0 rfl) ?_
  refine lv_iconst (v := (nI 3)) hx hb dX5_write_83 (by decide) ?_
  refine kq_cV (st1 := [.int (nI 0)]) ⟨hx, hb, hml, hown, hts⟩ (r_lasts_no (tm_I (tm_I u 14 0 (nI 0)) 14 0 (nI 0)) (nI 3) (by simpa [tm_I] using hw) (by simpa [tm_I] using hq)) (cwV 1 hts gX5_157_X5_lasts rfl rfl rfl (by decide +kernel) ⟨Nat.le_of_ble_eq_true rfl, Nat.le_of_ble_eq_true rfl⟩) kq_okT hK hP hD hA hG hS (va_recv hK hP (ci := 5) (q0 := 0) rfl (tm_at (i := 0) (by omega) rfl)) rfl hl.1 rfl rfl (Nat.le_of_ble_eq_true rfl) dX5_write_84 ⟨Nat.le_of_ble_eq_true rfl, Nat.le_of_ble_eq_true rfl⟩ (fun H locs hP hD hS => ?_)
  refine lv_if_ne (tgt := 92) hx hb dX5_write_87 (by decide) (fun c => absurd (by decide) c) (fun _ => ?_)
  refine lv_lconst (v := 0) hx hb dX5_write_90 (by decide) ?_
  exact kq_lret hx hb hr hlk hP hD hS dX5_write_91
set_option maxHeartbeats 4000000 in
set_option maxRecDepth 100000 in
theorem p_write_p0cell (u : tm_S) {j i : Nat} (hj : j < 4) (hi : i < 3) (v : Int64) (hnl : u.2.1 11 0 = 0) (hd : ¬ u.2.1 6 j = 0) (h0 : u.1 7 j = 0) (pr : Int32) (hw : 0 ≤ u.2.1 10 0 ∨ u.2.1 10 0 = (-1)) (hq : tm_fit (u.2.1 10 0) (nI 3) pr) (hk : u.2.1 7 j = 0) : kr_M l dC dI ad cc yX5_write wsX5_write { frames := 1, cells := 0, slots := 0, locals := 23 } [.ref (ad 0), .int (nI j), .int (nI i), .long v] u (tm_I (tm_L (tm_I (tm_I (tm_I u 14 0 (nI 0)) 14 0 (nI 0)) 10 0 pr) 8 j v) 8 j (nI 1)) (some (.long v)) := by
  refine kq_ofW (cc := cX5_write) (maxL := 5) (ret := (some .long)) (R0 := RX5) (by decide) rfl rfl (Nat.le_of_ble_eq_true rfl) ?_
  intro p e s m below meth c A ls hx hb hr hlk hml hown hts hP hK hD hA hG hS hl
  have hl : lv_has ls 5 [(0, .ref (ad 0)), (1, .int (nI j)), (2, .int (nI i)), (3, .long v)] := hl
  refine lv_aload_n hx hb dX5_write_0 rfl (lv_at hl 0 rfl) ?_
  refine lv_aload_n hx hb dX5_write_1 rfl (lv_at hl 0 rfl) ?_
  refine lv_iload_n hx hb dX5_write_2 rfl (lv_at hl 1 rfl) ?_
  refine lv_iconst (v := (nI 3)) hx hb dX5_write_3 (by decide) ?_
  refine kq_cV (st1 := [.int (nI 0), .ref (ad 0)]) ⟨hx, hb, hml, hown, hts⟩ (r_out_in u (by omega) (by omega)) (cwV 2 hts gX5_109_X5_out rfl rfl rfl (by decide +kernel) ⟨Nat.le_of_ble_eq_true rfl, Nat.le_of_ble_eq_true rfl⟩) kq_okT hK hP hD hA hG hS (va_recv hK hP (ci := 5) (q0 := 0) rfl (tm_at (i := 0) (by omega) rfl)) rfl hl.1 rfl rfl (Nat.le_of_ble_eq_true rfl) dX5_write_4 ⟨Nat.le_of_ble_eq_true rfl, Nat.le_of_ble_eq_true rfl⟩ (fun H locs hP hD hS => ?_)
  refine lv_if_ne (tgt := 19) hx hb dX5_write_7 (by decide) (fun c => absurd (by decide) c) (fun _ => ?_)
  refine lv_aload_n hx hb dX5_write_10 rfl (lv_at hl 0 rfl) ?_
  refine lv_iload_n hx hb dX5_write_11 rfl (lv_at hl 2 rfl) ?_
  refine lv_iconst (v := (nI 2)) hx hb dX5_write_12 (by decide) ?_
  refine kq_cV (st1 := [.int (nI 0), .ref (ad 0)]) ⟨hx, hb, hml, hown, hts⟩ (r_out_in u (by omega) (by omega)) (cwV 2 hts gX5_109_X5_out rfl rfl rfl (by decide +kernel) ⟨Nat.le_of_ble_eq_true rfl, Nat.le_of_ble_eq_true rfl⟩) kq_okT hK hP hD hA hG hS (va_recv hK hP (ci := 5) (q0 := 0) rfl (tm_at (i := 0) (by omega) rfl)) rfl hl.1 rfl rfl (Nat.le_of_ble_eq_true rfl) dX5_write_13 ⟨Nat.le_of_ble_eq_true rfl, Nat.le_of_ble_eq_true rfl⟩ (fun H locs hP hD hS => ?_)
  refine lv_if_eq (tgt := 23) hx hb dX5_write_16 (by decide) (fun _ => ?_) (fun c => absurd (by decide) c)
  refine lv_iconst (v := (nI 0)) hx hb dX5_write_23 (by decide) ?_
  refine kq_cV (st1 := [.int (nI 1)]) ⟨hx, hb, hml, hown, hts⟩ (r_begin_ok u hnl) (cwV 1 hts gX5_113_X5_begin rfl rfl rfl (by decide +kernel) ⟨Nat.le_of_ble_eq_true rfl, Nat.le_of_ble_eq_true rfl⟩) kq_okT hK hP hD hA hG hS (va_recv hK hP (ci := 5) (q0 := 0) rfl (tm_at (i := 0) (by omega) rfl)) rfl hl.1 rfl rfl (Nat.le_of_ble_eq_true rfl) dX5_write_24 ⟨Nat.le_of_ble_eq_true rfl, Nat.le_of_ble_eq_true rfl⟩ (fun H locs hP hD hS => ?_)
  refine lv_if_ne (tgt := 32) hx hb dX5_write_27 (by decide) (fun _ => ?_) (fun c => absurd c (by decide))
  refine lv_aload_n hx hb dX5_write_32 rfl (lv_at hl 0 rfl) ?_
  refine lv_aload_n hx hb dX5_write_33 rfl (lv_at hl 0 rfl) ?_
  refine tr_g_defined hx hb hts inB_X5 hown hK hP (hts _ mb_645) dX5_write_34 ?_
  refine lv_iload_n hx hb dX5_write_37 rfl (lv_at hl 1 rfl) ?_
  refine tr_l_defined hx hb hK hP (by omega) dX5_write_38 ?_
  refine kq_ti (y := (u.2.1 6 j)) (by simp [tm_L, tm_I, tm_D]) ?_
  refine lv_if_ne (tgt := 46) hx hb dX5_write_39 (by decide) (fun _ => ?_) (fun c => absurd c hd)
  refine lv_aload_n hx hb dX5_write_46 rfl (lv_at hl 0 rfl) ?_
  refine tr_g_cellPolicy hx hb hts inB_X5 hown hK hP (hts _ mb_635) dX5_write_47 ?_
  refine lv_iload_n hx hb dX5_write_50 rfl (lv_at hl 1 rfl) ?_
  refine tr_l_cellPolicy hx hb hK hP (by omega) dX5_write_51 ?_
  refine kq_tl (y := (u.1 7 j)) (by simp [tm_L, tm_I, tm_D]) ?_
  refine lv_lconst (v := 0) hx hb dX5_write_52 (by decide) ?_
  refine W.lcmp hx hb dX5_write_53 ?_
  refine lv_if_eq (tgt := 71) hx hb dX5_write_54 (by decide) (fun _ => ?_) (fun c => absurd (tm_cmp0.mpr h0) c)
  refine lv_iconst (v := (nI 0)) hx hb dX5_write_71 (by decide) ?_
  refine tr_p_thrown hx hb hts inB_X5 hown hK hP hD hS (hts _ mb_652) dX5_write_72 (fun H locs hP hD hS => ?_)
  refine lv_aload_n hx hb dX5_write_75 rfl (lv_at hl 0 rfl) ?_
  refine tr_g_thrown hx hb hts inB_X5 hown hK hP (hts _ mb_652) dX5_write_76 ?_
  refine kq_ti (y := (nI 0)) (by simp [tm_L, tm_I, tm_D]) ?_
  refine lv_if_ne (tgt := 90) hx hb dX5_write_79 (by decide) (fun c => absurd (by decide) c) (fun _ => ?_)
  refine lv_aload_n hx hb dX5_write_82 rfl (lv_at hl 0 rfl) ?_
  refine lv_iconst (v := (nI 3)) hx hb dX5_write_83 (by decide) ?_
  refine kq_cV (st1 := [.int (nI 1)]) ⟨hx, hb, hml, hown, hts⟩ (r_lasts_fit (tm_I (tm_I u 14 0 (nI 0)) 14 0 (nI 0)) (nI 3) pr (by simpa [tm_I] using hw) (by simpa [tm_I] using hq)) (cwV 1 hts gX5_157_X5_lasts rfl rfl rfl (by decide +kernel) ⟨Nat.le_of_ble_eq_true rfl, Nat.le_of_ble_eq_true rfl⟩) kq_okT hK hP hD hA hG hS (va_recv hK hP (ci := 5) (q0 := 0) rfl (tm_at (i := 0) (by omega) rfl)) rfl hl.1 rfl rfl (Nat.le_of_ble_eq_true rfl) dX5_write_84 ⟨Nat.le_of_ble_eq_true rfl, Nat.le_of_ble_eq_true rfl⟩ (fun H locs hP hD hS => ?_)
  refine lv_if_ne (tgt := 92) hx hb dX5_write_87 (by decide) (fun _ => ?_) (fun c => absurd c (by decide))
  refine lv_aload_n hx hb dX5_write_92 rfl (lv_at hl 0 rfl) ?_
  refine tr_g_cellPolicy hx hb hts inB_X5 hown hK hP (hts _ mb_635) dX5_write_93 ?_
  refine lv_iload_n hx hb dX5_write_96 rfl (lv_at hl 1 rfl) ?_
  refine tr_l_cellPolicy hx hb hK hP (by omega) dX5_write_97 ?_
  refine kq_tl (y := (u.1 7 j)) (by simp [tm_L, tm_I, tm_D]) ?_
  refine lv_lconst (v := 0) hx hb dX5_write_98 (by decide) ?_
  refine W.lcmp hx hb dX5_write_99 ?_
  refine lv_if_eq (tgt := 108) hx hb dX5_write_100 (by decide) (fun _ => ?_) (fun c => absurd (tm_cmp0.mpr h0) c)
  refine lv_aload_n hx hb dX5_write_108 rfl (lv_at hl 0 rfl) ?_
  refine tr_g_counting hx hb hts inB_X5 hown hK hP (hts _ mb_646) dX5_write_109 ?_
  refine lv_iload_n hx hb dX5_write_112 rfl (lv_at hl 1 rfl) ?_
  refine tr_l_counting hx hb hK hP (by omega) dX5_write_113 ?_
  refine kq_ti (y := (u.2.1 7 j)) (by simp [tm_L, tm_I, tm_D]) ?_
  refine lv_if_eq (tgt := 127) hx hb dX5_write_114 (by decide) (fun _ => ?_) (fun c => absurd hk c)
  refine lv_aload_n hx hb dX5_write_127 rfl (lv_at hl 0 rfl) ?_
  refine tr_g_cell hx hb hts inB_X5 hown hK hP (hts _ mb_634) dX5_write_128 ?_
  refine lv_iload_n hx hb dX5_write_131 rfl (lv_at hl 1 rfl) ?_
  refine lv_aload_n hx hb dX5_write_132 rfl (lv_at hl 0 rfl) ?_
  refine tr_g_counting hx hb hts inB_X5 hown hK hP (hts _ mb_646) dX5_write_133 ?_
  refine lv_iload_n hx hb dX5_write_136 rfl (lv_at hl 1 rfl) ?_
  refine tr_l_counting hx hb hK hP (by omega) dX5_write_137 ?_
  refine kq_ti (y := (u.2.1 7 j)) (by simp [tm_L, tm_I, tm_D]) ?_
  refine lv_if_eq (tgt := 148) hx hb dX5_write_138 (by decide) (fun _ => ?_) (fun c => absurd hk c)
  refine lv_lload_n hx hb dX5_write_148 rfl (lv_at hl 3 rfl) ?_
  refine tr_t_cell hx hb hK hP hD hS (by omega) dX5_write_149 (fun H locs hP hD hS => ?_)
  refine lv_aload_n hx hb dX5_write_150 rfl (lv_at hl 0 rfl) ?_
  refine tr_g_filled hx hb hts inB_X5 hown hK hP (hts _ mb_647) dX5_write_151 ?_
  refine lv_iload_n hx hb dX5_write_154 rfl (lv_at hl 1 rfl) ?_
  refine lv_iconst (v := (nI 1)) hx hb dX5_write_155 (by decide) ?_
  refine tr_t_filled hx hb hK hP hD hS (by omega) (by first | rfl | decide) dX5_write_156 (fun H locs hP hD hS => ?_)
  refine lv_aload_n hx hb dX5_write_157 rfl (lv_at hl 0 rfl) ?_
  refine tr_g_cell hx hb hts inB_X5 hown hK hP (hts _ mb_634) dX5_write_158 ?_
  refine lv_iload_n hx hb dX5_write_161 rfl (lv_at hl 1 rfl) ?_
  refine tr_l_cell hx hb hK hP (by omega) dX5_write_162 ?_
  refine kq_tl (y := v) (by simp [tm_L, tm_I, tm_D]) ?_
  exact kq_lret hx hb hr hlk hP hD hS dX5_write_163
set_option maxHeartbeats 4000000 in
set_option maxRecDepth 100000 in
theorem p_write_p0cnt (u : tm_S) {j i : Nat} (hj : j < 4) (hi : i < 3) (v : Int64) (hnl : u.2.1 11 0 = 0) (hd : ¬ u.2.1 6 j = 0) (h0 : u.1 7 j = 0) (pr : Int32) (hw : 0 ≤ u.2.1 10 0 ∨ u.2.1 10 0 = (-1)) (hq : tm_fit (u.2.1 10 0) (nI 3) pr) (hk : ¬ u.2.1 7 j = 0) : kr_M l dC dI ad cc yX5_write wsX5_write { frames := 1, cells := 0, slots := 0, locals := 23 } [.ref (ad 0), .int (nI j), .int (nI i), .long v] u (tm_I (tm_L (tm_L (tm_I (tm_I (tm_I u 14 0 (nI 0)) 14 0 (nI 0)) 10 0 pr) 9 0 ((u.1 9 0) + 1)) 8 j ((u.1 9 0) + 1)) 8 j (nI 1)) (some (.long ((u.1 9 0) + 1))) := by
  refine kq_ofW (cc := cX5_write) (maxL := 5) (ret := (some .long)) (R0 := RX5) (by decide) rfl rfl (Nat.le_of_ble_eq_true rfl) ?_
  intro p e s m below meth c A ls hx hb hr hlk hml hown hts hP hK hD hA hG hS hl
  have hl : lv_has ls 5 [(0, .ref (ad 0)), (1, .int (nI j)), (2, .int (nI i)), (3, .long v)] := hl
  refine lv_aload_n hx hb dX5_write_0 rfl (lv_at hl 0 rfl) ?_
  refine lv_aload_n hx hb dX5_write_1 rfl (lv_at hl 0 rfl) ?_
  refine lv_iload_n hx hb dX5_write_2 rfl (lv_at hl 1 rfl) ?_
  refine lv_iconst (v := (nI 3)) hx hb dX5_write_3 (by decide) ?_
  refine kq_cV (st1 := [.int (nI 0), .ref (ad 0)]) ⟨hx, hb, hml, hown, hts⟩ (r_out_in u (by omega) (by omega)) (cwV 2 hts gX5_109_X5_out rfl rfl rfl (by decide +kernel) ⟨Nat.le_of_ble_eq_true rfl, Nat.le_of_ble_eq_true rfl⟩) kq_okT hK hP hD hA hG hS (va_recv hK hP (ci := 5) (q0 := 0) rfl (tm_at (i := 0) (by omega) rfl)) rfl hl.1 rfl rfl (Nat.le_of_ble_eq_true rfl) dX5_write_4 ⟨Nat.le_of_ble_eq_true rfl, Nat.le_of_ble_eq_true rfl⟩ (fun H locs hP hD hS => ?_)
  refine lv_if_ne (tgt := 19) hx hb dX5_write_7 (by decide) (fun c => absurd (by decide) c) (fun _ => ?_)
  refine lv_aload_n hx hb dX5_write_10 rfl (lv_at hl 0 rfl) ?_
  refine lv_iload_n hx hb dX5_write_11 rfl (lv_at hl 2 rfl) ?_
  refine lv_iconst (v := (nI 2)) hx hb dX5_write_12 (by decide) ?_
  refine kq_cV (st1 := [.int (nI 0), .ref (ad 0)]) ⟨hx, hb, hml, hown, hts⟩ (r_out_in u (by omega) (by omega)) (cwV 2 hts gX5_109_X5_out rfl rfl rfl (by decide +kernel) ⟨Nat.le_of_ble_eq_true rfl, Nat.le_of_ble_eq_true rfl⟩) kq_okT hK hP hD hA hG hS (va_recv hK hP (ci := 5) (q0 := 0) rfl (tm_at (i := 0) (by omega) rfl)) rfl hl.1 rfl rfl (Nat.le_of_ble_eq_true rfl) dX5_write_13 ⟨Nat.le_of_ble_eq_true rfl, Nat.le_of_ble_eq_true rfl⟩ (fun H locs hP hD hS => ?_)
  refine lv_if_eq (tgt := 23) hx hb dX5_write_16 (by decide) (fun _ => ?_) (fun c => absurd (by decide) c)
  refine lv_iconst (v := (nI 0)) hx hb dX5_write_23 (by decide) ?_
  refine kq_cV (st1 := [.int (nI 1)]) ⟨hx, hb, hml, hown, hts⟩ (r_begin_ok u hnl) (cwV 1 hts gX5_113_X5_begin rfl rfl rfl (by decide +kernel) ⟨Nat.le_of_ble_eq_true rfl, Nat.le_of_ble_eq_true rfl⟩) kq_okT hK hP hD hA hG hS (va_recv hK hP (ci := 5) (q0 := 0) rfl (tm_at (i := 0) (by omega) rfl)) rfl hl.1 rfl rfl (Nat.le_of_ble_eq_true rfl) dX5_write_24 ⟨Nat.le_of_ble_eq_true rfl, Nat.le_of_ble_eq_true rfl⟩ (fun H locs hP hD hS => ?_)
  refine lv_if_ne (tgt := 32) hx hb dX5_write_27 (by decide) (fun _ => ?_) (fun c => absurd c (by decide))
  refine lv_aload_n hx hb dX5_write_32 rfl (lv_at hl 0 rfl) ?_
  refine lv_aload_n hx hb dX5_write_33 rfl (lv_at hl 0 rfl) ?_
  refine tr_g_defined hx hb hts inB_X5 hown hK hP (hts _ mb_645) dX5_write_34 ?_
  refine lv_iload_n hx hb dX5_write_37 rfl (lv_at hl 1 rfl) ?_
  refine tr_l_defined hx hb hK hP (by omega) dX5_write_38 ?_
  refine kq_ti (y := (u.2.1 6 j)) (by simp [tm_L, tm_I, tm_D]) ?_
  refine lv_if_ne (tgt := 46) hx hb dX5_write_39 (by decide) (fun _ => ?_) (fun c => absurd c hd)
  refine lv_aload_n hx hb dX5_write_46 rfl (lv_at hl 0 rfl) ?_
  refine tr_g_cellPolicy hx hb hts inB_X5 hown hK hP (hts _ mb_635) dX5_write_47 ?_
  refine lv_iload_n hx hb dX5_write_50 rfl (lv_at hl 1 rfl) ?_
  refine tr_l_cellPolicy hx hb hK hP (by omega) dX5_write_51 ?_
  refine kq_tl (y := (u.1 7 j)) (by simp [tm_L, tm_I, tm_D]) ?_
  refine lv_lconst (v := 0) hx hb dX5_write_52 (by decide) ?_
  refine W.lcmp hx hb dX5_write_53 ?_
  refine lv_if_eq (tgt := 71) hx hb dX5_write_54 (by decide) (fun _ => ?_) (fun c => absurd (tm_cmp0.mpr h0) c)
  refine lv_iconst (v := (nI 0)) hx hb dX5_write_71 (by decide) ?_
  refine tr_p_thrown hx hb hts inB_X5 hown hK hP hD hS (hts _ mb_652) dX5_write_72 (fun H locs hP hD hS => ?_)
  refine lv_aload_n hx hb dX5_write_75 rfl (lv_at hl 0 rfl) ?_
  refine tr_g_thrown hx hb hts inB_X5 hown hK hP (hts _ mb_652) dX5_write_76 ?_
  refine kq_ti (y := (nI 0)) (by simp [tm_L, tm_I, tm_D]) ?_
  refine lv_if_ne (tgt := 90) hx hb dX5_write_79 (by decide) (fun c => absurd (by decide) c) (fun _ => ?_)
  refine lv_aload_n hx hb dX5_write_82 rfl (lv_at hl 0 rfl) ?_
  refine lv_iconst (v := (nI 3)) hx hb dX5_write_83 (by decide) ?_
  refine kq_cV (st1 := [.int (nI 1)]) ⟨hx, hb, hml, hown, hts⟩ (r_lasts_fit (tm_I (tm_I u 14 0 (nI 0)) 14 0 (nI 0)) (nI 3) pr (by simpa [tm_I] using hw) (by simpa [tm_I] using hq)) (cwV 1 hts gX5_157_X5_lasts rfl rfl rfl (by decide +kernel) ⟨Nat.le_of_ble_eq_true rfl, Nat.le_of_ble_eq_true rfl⟩) kq_okT hK hP hD hA hG hS (va_recv hK hP (ci := 5) (q0 := 0) rfl (tm_at (i := 0) (by omega) rfl)) rfl hl.1 rfl rfl (Nat.le_of_ble_eq_true rfl) dX5_write_84 ⟨Nat.le_of_ble_eq_true rfl, Nat.le_of_ble_eq_true rfl⟩ (fun H locs hP hD hS => ?_)
  refine lv_if_ne (tgt := 92) hx hb dX5_write_87 (by decide) (fun _ => ?_) (fun c => absurd c (by decide))
  refine lv_aload_n hx hb dX5_write_92 rfl (lv_at hl 0 rfl) ?_
  refine tr_g_cellPolicy hx hb hts inB_X5 hown hK hP (hts _ mb_635) dX5_write_93 ?_
  refine lv_iload_n hx hb dX5_write_96 rfl (lv_at hl 1 rfl) ?_
  refine tr_l_cellPolicy hx hb hK hP (by omega) dX5_write_97 ?_
  refine kq_tl (y := (u.1 7 j)) (by simp [tm_L, tm_I, tm_D]) ?_
  refine lv_lconst (v := 0) hx hb dX5_write_98 (by decide) ?_
  refine W.lcmp hx hb dX5_write_99 ?_
  refine lv_if_eq (tgt := 108) hx hb dX5_write_100 (by decide) (fun _ => ?_) (fun c => absurd (tm_cmp0.mpr h0) c)
  refine lv_aload_n hx hb dX5_write_108 rfl (lv_at hl 0 rfl) ?_
  refine tr_g_counting hx hb hts inB_X5 hown hK hP (hts _ mb_646) dX5_write_109 ?_
  refine lv_iload_n hx hb dX5_write_112 rfl (lv_at hl 1 rfl) ?_
  refine tr_l_counting hx hb hK hP (by omega) dX5_write_113 ?_
  refine kq_ti (y := (u.2.1 7 j)) (by simp [tm_L, tm_I, tm_D]) ?_
  refine lv_if_eq (tgt := 127) hx hb dX5_write_114 (by decide) (fun c => absurd c hk) (fun _ => ?_)
  refine lv_aload_n hx hb dX5_write_117 rfl (lv_at hl 0 rfl) ?_
  refine lv_dup hx hb dX5_write_118 rfl ?_
  refine tr_g_highest hx hb hts inB_X5 hown hK hP (hts _ mb_654) dX5_write_119 ?_
  refine kq_tl (y := (u.1 9 0)) (by simp [tm_L, tm_I, tm_D]) ?_
  refine lv_lconst (v := 1) hx hb dX5_write_122 (by decide) ?_
  refine lv_ladd hx hb dX5_write_123 ?_
  refine tr_p_highest hx hb hts inB_X5 hown hK hP hD hS (hts _ mb_654) dX5_write_124 (fun H locs hP hD hS => ?_)
  refine lv_aload_n hx hb dX5_write_127 rfl (lv_at hl 0 rfl) ?_
  refine tr_g_cell hx hb hts inB_X5 hown hK hP (hts _ mb_634) dX5_write_128 ?_
  refine lv_iload_n hx hb dX5_write_131 rfl (lv_at hl 1 rfl) ?_
  refine lv_aload_n hx hb dX5_write_132 rfl (lv_at hl 0 rfl) ?_
  refine tr_g_counting hx hb hts inB_X5 hown hK hP (hts _ mb_646) dX5_write_133 ?_
  refine lv_iload_n hx hb dX5_write_136 rfl (lv_at hl 1 rfl) ?_
  refine tr_l_counting hx hb hK hP (by omega) dX5_write_137 ?_
  refine kq_ti (y := (u.2.1 7 j)) (by simp [tm_L, tm_I, tm_D]) ?_
  refine lv_if_eq (tgt := 148) hx hb dX5_write_138 (by decide) (fun c => absurd c hk) (fun _ => ?_)
  refine lv_aload_n hx hb dX5_write_141 rfl (lv_at hl 0 rfl) ?_
  refine tr_g_highest hx hb hts inB_X5 hown hK hP (hts _ mb_654) dX5_write_142 ?_
  refine kq_tl (y := ((u.1 9 0) + 1)) (by simp [tm_L, tm_I, tm_D]) ?_
  refine lv_goto (tgt := 149) hx hb dX5_write_145 (by decide) ?_
  refine tr_t_cell hx hb hK hP hD hS (by omega) dX5_write_149 (fun H locs hP hD hS => ?_)
  refine lv_aload_n hx hb dX5_write_150 rfl (lv_at hl 0 rfl) ?_
  refine tr_g_filled hx hb hts inB_X5 hown hK hP (hts _ mb_647) dX5_write_151 ?_
  refine lv_iload_n hx hb dX5_write_154 rfl (lv_at hl 1 rfl) ?_
  refine lv_iconst (v := (nI 1)) hx hb dX5_write_155 (by decide) ?_
  refine tr_t_filled hx hb hK hP hD hS (by omega) (by first | rfl | decide) dX5_write_156 (fun H locs hP hD hS => ?_)
  refine lv_aload_n hx hb dX5_write_157 rfl (lv_at hl 0 rfl) ?_
  refine tr_g_cell hx hb hts inB_X5 hown hK hP (hts _ mb_634) dX5_write_158 ?_
  refine lv_iload_n hx hb dX5_write_161 rfl (lv_at hl 1 rfl) ?_
  refine tr_l_cell hx hb hK hP (by omega) dX5_write_162 ?_
  refine kq_tl (y := ((u.1 9 0) + 1)) (by simp [tm_L, tm_I, tm_D]) ?_
  exact kq_lret hx hb hr hlk hP hD hS dX5_write_163
set_option maxHeartbeats 4000000 in
set_option maxRecDepth 100000 in
theorem p_write_pn2 (u : tm_S) {j i : Nat} (hj : j < 4) (hi : i < 3) (v : Int64) (hnl : u.2.1 11 0 = 0) (hd : ¬ u.2.1 6 j = 0) (h0 : ¬ u.1 7 j = 0) (he : ¬ u.1 6 i = u.1 7 j) : kr_M l dC dI ad cc yX5_write wsX5_write { frames := 1, cells := 0, slots := 0, locals := 23 } [.ref (ad 0), .int (nI j), .int (nI i), .long v] u (tm_I (tm_I u 14 0 (nI 0)) 14 0 (nI 4)) (some (.long 0)) := by
  refine kq_ofW (cc := cX5_write) (maxL := 5) (ret := (some .long)) (R0 := RX5) (by decide) rfl rfl (Nat.le_of_ble_eq_true rfl) ?_
  intro p e s m below meth c A ls hx hb hr hlk hml hown hts hP hK hD hA hG hS hl
  have hl : lv_has ls 5 [(0, .ref (ad 0)), (1, .int (nI j)), (2, .int (nI i)), (3, .long v)] := hl
  refine lv_aload_n hx hb dX5_write_0 rfl (lv_at hl 0 rfl) ?_
  refine lv_aload_n hx hb dX5_write_1 rfl (lv_at hl 0 rfl) ?_
  refine lv_iload_n hx hb dX5_write_2 rfl (lv_at hl 1 rfl) ?_
  refine lv_iconst (v := (nI 3)) hx hb dX5_write_3 (by decide) ?_
  refine kq_cV (st1 := [.int (nI 0), .ref (ad 0)]) ⟨hx, hb, hml, hown, hts⟩ (r_out_in u (by omega) (by omega)) (cwV 2 hts gX5_109_X5_out rfl rfl rfl (by decide +kernel) ⟨Nat.le_of_ble_eq_true rfl, Nat.le_of_ble_eq_true rfl⟩) kq_okT hK hP hD hA hG hS (va_recv hK hP (ci := 5) (q0 := 0) rfl (tm_at (i := 0) (by omega) rfl)) rfl hl.1 rfl rfl (Nat.le_of_ble_eq_true rfl) dX5_write_4 ⟨Nat.le_of_ble_eq_true rfl, Nat.le_of_ble_eq_true rfl⟩ (fun H locs hP hD hS => ?_)
  refine lv_if_ne (tgt := 19) hx hb dX5_write_7 (by decide) (fun c => absurd (by decide) c) (fun _ => ?_)
  refine lv_aload_n hx hb dX5_write_10 rfl (lv_at hl 0 rfl) ?_
  refine lv_iload_n hx hb dX5_write_11 rfl (lv_at hl 2 rfl) ?_
  refine lv_iconst (v := (nI 2)) hx hb dX5_write_12 (by decide) ?_
  refine kq_cV (st1 := [.int (nI 0), .ref (ad 0)]) ⟨hx, hb, hml, hown, hts⟩ (r_out_in u (by omega) (by omega)) (cwV 2 hts gX5_109_X5_out rfl rfl rfl (by decide +kernel) ⟨Nat.le_of_ble_eq_true rfl, Nat.le_of_ble_eq_true rfl⟩) kq_okT hK hP hD hA hG hS (va_recv hK hP (ci := 5) (q0 := 0) rfl (tm_at (i := 0) (by omega) rfl)) rfl hl.1 rfl rfl (Nat.le_of_ble_eq_true rfl) dX5_write_13 ⟨Nat.le_of_ble_eq_true rfl, Nat.le_of_ble_eq_true rfl⟩ (fun H locs hP hD hS => ?_)
  refine lv_if_eq (tgt := 23) hx hb dX5_write_16 (by decide) (fun _ => ?_) (fun c => absurd (by decide) c)
  refine lv_iconst (v := (nI 0)) hx hb dX5_write_23 (by decide) ?_
  refine kq_cV (st1 := [.int (nI 1)]) ⟨hx, hb, hml, hown, hts⟩ (r_begin_ok u hnl) (cwV 1 hts gX5_113_X5_begin rfl rfl rfl (by decide +kernel) ⟨Nat.le_of_ble_eq_true rfl, Nat.le_of_ble_eq_true rfl⟩) kq_okT hK hP hD hA hG hS (va_recv hK hP (ci := 5) (q0 := 0) rfl (tm_at (i := 0) (by omega) rfl)) rfl hl.1 rfl rfl (Nat.le_of_ble_eq_true rfl) dX5_write_24 ⟨Nat.le_of_ble_eq_true rfl, Nat.le_of_ble_eq_true rfl⟩ (fun H locs hP hD hS => ?_)
  refine lv_if_ne (tgt := 32) hx hb dX5_write_27 (by decide) (fun _ => ?_) (fun c => absurd c (by decide))
  refine lv_aload_n hx hb dX5_write_32 rfl (lv_at hl 0 rfl) ?_
  refine lv_aload_n hx hb dX5_write_33 rfl (lv_at hl 0 rfl) ?_
  refine tr_g_defined hx hb hts inB_X5 hown hK hP (hts _ mb_645) dX5_write_34 ?_
  refine lv_iload_n hx hb dX5_write_37 rfl (lv_at hl 1 rfl) ?_
  refine tr_l_defined hx hb hK hP (by omega) dX5_write_38 ?_
  refine kq_ti (y := (u.2.1 6 j)) (by simp [tm_L, tm_I, tm_D]) ?_
  refine lv_if_ne (tgt := 46) hx hb dX5_write_39 (by decide) (fun _ => ?_) (fun c => absurd c hd)
  refine lv_aload_n hx hb dX5_write_46 rfl (lv_at hl 0 rfl) ?_
  refine tr_g_cellPolicy hx hb hts inB_X5 hown hK hP (hts _ mb_635) dX5_write_47 ?_
  refine lv_iload_n hx hb dX5_write_50 rfl (lv_at hl 1 rfl) ?_
  refine tr_l_cellPolicy hx hb hK hP (by omega) dX5_write_51 ?_
  refine kq_tl (y := (u.1 7 j)) (by simp [tm_L, tm_I, tm_D]) ?_
  refine lv_lconst (v := 0) hx hb dX5_write_52 (by decide) ?_
  refine W.lcmp hx hb dX5_write_53 ?_
  refine lv_if_eq (tgt := 71) hx hb dX5_write_54 (by decide) (fun c => absurd c (fun q => h0 (tm_cmp0.mp q))) (fun _ => ?_)
  refine lv_aload_n hx hb dX5_write_57 rfl (lv_at hl 0 rfl) ?_
  refine lv_iload_n hx hb dX5_write_58 rfl (lv_at hl 2 rfl) ?_
  refine lv_aload_n hx hb dX5_write_59 rfl (lv_at hl 0 rfl) ?_
  refine tr_g_cellPolicy hx hb hts inB_X5 hown hK hP (hts _ mb_635) dX5_write_60 ?_
  refine lv_iload_n hx hb dX5_write_63 rfl (lv_at hl 1 rfl) ?_
  refine tr_l_cellPolicy hx hb hK hP (by omega) dX5_write_64 ?_
  refine kq_tl (y := (u.1 7 j)) (by simp [tm_L, tm_I, tm_D]) ?_
  refine kq_cV (st1 := [.int (nI 4), .ref (ad 0)]) ⟨hx, hb, hml, hown, hts⟩ (r_sat_n2 (tm_I u 14 0 (nI 0)) (k := i) (by omega) (u.1 7 j) (by simpa [tm_I] using h0) (by simpa [tm_I] using he)) (cwV 2 hts gX5_140_X5_satisfied rfl rfl rfl (by decide +kernel) ⟨Nat.le_of_ble_eq_true rfl, Nat.le_of_ble_eq_true rfl⟩) kq_okT hK hP hD hA hG hS (va_recv hK hP (ci := 5) (q0 := 0) rfl (tm_at (i := 0) (by omega) rfl)) rfl hl.1 rfl rfl (Nat.le_of_ble_eq_true rfl) dX5_write_65 ⟨Nat.le_of_ble_eq_true rfl, Nat.le_of_ble_eq_true rfl⟩ (fun H locs hP hD hS => ?_)
  refine lv_goto (tgt := 72) hx hb dX5_write_68 (by decide) ?_
  refine tr_p_thrown hx hb hts inB_X5 hown hK hP hD hS (hts _ mb_652) dX5_write_72 (fun H locs hP hD hS => ?_)
  refine lv_aload_n hx hb dX5_write_75 rfl (lv_at hl 0 rfl) ?_
  refine tr_g_thrown hx hb hts inB_X5 hown hK hP (hts _ mb_652) dX5_write_76 ?_
  refine kq_ti (y := (nI 4)) (by simp [tm_L, tm_I, tm_D]) ?_
  refine lv_if_ne (tgt := 90) hx hb dX5_write_79 (by decide) (fun _ => ?_) (fun c => absurd c (by decide))
  refine lv_lconst (v := 0) hx hb dX5_write_90 (by decide) ?_
  exact kq_lret hx hb hr hlk hP hD hS dX5_write_91
set_option maxHeartbeats 4000000 in
set_option maxRecDepth 100000 in
theorem p_write_pch (u : tm_S) {j i : Nat} (hj : j < 4) (hi : i < 3) (v : Int64) (hnl : u.2.1 11 0 = 0) (hd : ¬ u.2.1 6 j = 0) (h0 : ¬ u.1 7 j = 0) (he : u.1 6 i = u.1 7 j) (hz : ¬ u.2.1 4 i = 0) (hc : ¬ u.2.1 5 i = u.2.1 9 0) : kr_M l dC dI ad cc yX5_write wsX5_write { frames := 1, cells := 0, slots := 0, locals := 23 } [.ref (ad 0), .int (nI j), .int (nI i), .long v] u (tm_I (tm_I u 14 0 (nI 0)) 14 0 (nI 2)) (some (.long 0)) := by
  refine kq_ofW (cc := cX5_write) (maxL := 5) (ret := (some .long)) (R0 := RX5) (by decide) rfl rfl (Nat.le_of_ble_eq_true rfl) ?_
  intro p e s m below meth c A ls hx hb hr hlk hml hown hts hP hK hD hA hG hS hl
  have hl : lv_has ls 5 [(0, .ref (ad 0)), (1, .int (nI j)), (2, .int (nI i)), (3, .long v)] := hl
  refine lv_aload_n hx hb dX5_write_0 rfl (lv_at hl 0 rfl) ?_
  refine lv_aload_n hx hb dX5_write_1 rfl (lv_at hl 0 rfl) ?_
  refine lv_iload_n hx hb dX5_write_2 rfl (lv_at hl 1 rfl) ?_
  refine lv_iconst (v := (nI 3)) hx hb dX5_write_3 (by decide) ?_
  refine kq_cV (st1 := [.int (nI 0), .ref (ad 0)]) ⟨hx, hb, hml, hown, hts⟩ (r_out_in u (by omega) (by omega)) (cwV 2 hts gX5_109_X5_out rfl rfl rfl (by decide +kernel) ⟨Nat.le_of_ble_eq_true rfl, Nat.le_of_ble_eq_true rfl⟩) kq_okT hK hP hD hA hG hS (va_recv hK hP (ci := 5) (q0 := 0) rfl (tm_at (i := 0) (by omega) rfl)) rfl hl.1 rfl rfl (Nat.le_of_ble_eq_true rfl) dX5_write_4 ⟨Nat.le_of_ble_eq_true rfl, Nat.le_of_ble_eq_true rfl⟩ (fun H locs hP hD hS => ?_)
  refine lv_if_ne (tgt := 19) hx hb dX5_write_7 (by decide) (fun c => absurd (by decide) c) (fun _ => ?_)
  refine lv_aload_n hx hb dX5_write_10 rfl (lv_at hl 0 rfl) ?_
  refine lv_iload_n hx hb dX5_write_11 rfl (lv_at hl 2 rfl) ?_
  refine lv_iconst (v := (nI 2)) hx hb dX5_write_12 (by decide) ?_
  refine kq_cV (st1 := [.int (nI 0), .ref (ad 0)]) ⟨hx, hb, hml, hown, hts⟩ (r_out_in u (by omega) (by omega)) (cwV 2 hts gX5_109_X5_out rfl rfl rfl (by decide +kernel) ⟨Nat.le_of_ble_eq_true rfl, Nat.le_of_ble_eq_true rfl⟩) kq_okT hK hP hD hA hG hS (va_recv hK hP (ci := 5) (q0 := 0) rfl (tm_at (i := 0) (by omega) rfl)) rfl hl.1 rfl rfl (Nat.le_of_ble_eq_true rfl) dX5_write_13 ⟨Nat.le_of_ble_eq_true rfl, Nat.le_of_ble_eq_true rfl⟩ (fun H locs hP hD hS => ?_)
  refine lv_if_eq (tgt := 23) hx hb dX5_write_16 (by decide) (fun _ => ?_) (fun c => absurd (by decide) c)
  refine lv_iconst (v := (nI 0)) hx hb dX5_write_23 (by decide) ?_
  refine kq_cV (st1 := [.int (nI 1)]) ⟨hx, hb, hml, hown, hts⟩ (r_begin_ok u hnl) (cwV 1 hts gX5_113_X5_begin rfl rfl rfl (by decide +kernel) ⟨Nat.le_of_ble_eq_true rfl, Nat.le_of_ble_eq_true rfl⟩) kq_okT hK hP hD hA hG hS (va_recv hK hP (ci := 5) (q0 := 0) rfl (tm_at (i := 0) (by omega) rfl)) rfl hl.1 rfl rfl (Nat.le_of_ble_eq_true rfl) dX5_write_24 ⟨Nat.le_of_ble_eq_true rfl, Nat.le_of_ble_eq_true rfl⟩ (fun H locs hP hD hS => ?_)
  refine lv_if_ne (tgt := 32) hx hb dX5_write_27 (by decide) (fun _ => ?_) (fun c => absurd c (by decide))
  refine lv_aload_n hx hb dX5_write_32 rfl (lv_at hl 0 rfl) ?_
  refine lv_aload_n hx hb dX5_write_33 rfl (lv_at hl 0 rfl) ?_
  refine tr_g_defined hx hb hts inB_X5 hown hK hP (hts _ mb_645) dX5_write_34 ?_
  refine lv_iload_n hx hb dX5_write_37 rfl (lv_at hl 1 rfl) ?_
  refine tr_l_defined hx hb hK hP (by omega) dX5_write_38 ?_
  refine kq_ti (y := (u.2.1 6 j)) (by simp [tm_L, tm_I, tm_D]) ?_
  refine lv_if_ne (tgt := 46) hx hb dX5_write_39 (by decide) (fun _ => ?_) (fun c => absurd c hd)
  refine lv_aload_n hx hb dX5_write_46 rfl (lv_at hl 0 rfl) ?_
  refine tr_g_cellPolicy hx hb hts inB_X5 hown hK hP (hts _ mb_635) dX5_write_47 ?_
  refine lv_iload_n hx hb dX5_write_50 rfl (lv_at hl 1 rfl) ?_
  refine tr_l_cellPolicy hx hb hK hP (by omega) dX5_write_51 ?_
  refine kq_tl (y := (u.1 7 j)) (by simp [tm_L, tm_I, tm_D]) ?_
  refine lv_lconst (v := 0) hx hb dX5_write_52 (by decide) ?_
  refine W.lcmp hx hb dX5_write_53 ?_
  refine lv_if_eq (tgt := 71) hx hb dX5_write_54 (by decide) (fun c => absurd c (fun q => h0 (tm_cmp0.mp q))) (fun _ => ?_)
  refine lv_aload_n hx hb dX5_write_57 rfl (lv_at hl 0 rfl) ?_
  refine lv_iload_n hx hb dX5_write_58 rfl (lv_at hl 2 rfl) ?_
  refine lv_aload_n hx hb dX5_write_59 rfl (lv_at hl 0 rfl) ?_
  refine tr_g_cellPolicy hx hb hts inB_X5 hown hK hP (hts _ mb_635) dX5_write_60 ?_
  refine lv_iload_n hx hb dX5_write_63 rfl (lv_at hl 1 rfl) ?_
  refine tr_l_cellPolicy hx hb hK hP (by omega) dX5_write_64 ?_
  refine kq_tl (y := (u.1 7 j)) (by simp [tm_L, tm_I, tm_D]) ?_
  refine kq_cV (st1 := [.int (nI 2), .ref (ad 0)]) ⟨hx, hb, hml, hown, hts⟩ (r_sat_ch (tm_I u 14 0 (nI 0)) (k := i) (by omega) (u.1 7 j) (by simpa [tm_I] using h0) (by simpa [tm_I] using he) (by simpa [tm_I] using hz) (by simpa [tm_I] using hc)) (cwV 2 hts gX5_140_X5_satisfied rfl rfl rfl (by decide +kernel) ⟨Nat.le_of_ble_eq_true rfl, Nat.le_of_ble_eq_true rfl⟩) kq_okT hK hP hD hA hG hS (va_recv hK hP (ci := 5) (q0 := 0) rfl (tm_at (i := 0) (by omega) rfl)) rfl hl.1 rfl rfl (Nat.le_of_ble_eq_true rfl) dX5_write_65 ⟨Nat.le_of_ble_eq_true rfl, Nat.le_of_ble_eq_true rfl⟩ (fun H locs hP hD hS => ?_)
  refine lv_goto (tgt := 72) hx hb dX5_write_68 (by decide) ?_
  refine tr_p_thrown hx hb hts inB_X5 hown hK hP hD hS (hts _ mb_652) dX5_write_72 (fun H locs hP hD hS => ?_)
  refine lv_aload_n hx hb dX5_write_75 rfl (lv_at hl 0 rfl) ?_
  refine tr_g_thrown hx hb hts inB_X5 hown hK hP (hts _ mb_652) dX5_write_76 ?_
  refine kq_ti (y := (nI 2)) (by simp [tm_L, tm_I, tm_D]) ?_
  refine lv_if_ne (tgt := 90) hx hb dX5_write_79 (by decide) (fun _ => ?_) (fun c => absurd c (by decide))
  refine lv_lconst (v := 0) hx hb dX5_write_90 (by decide) ?_
  exact kq_lret hx hb hr hlk hP hD hS dX5_write_91
set_option maxHeartbeats 4000000 in
set_option maxRecDepth 100000 in
theorem p_write_pout (u : tm_S) {j i : Nat} (hj : j < 4) (hi : i < 3) (v : Int64) (hnl : u.2.1 11 0 = 0) (hd : ¬ u.2.1 6 j = 0) (h0 : ¬ u.1 7 j = 0) (he : u.1 6 i = u.1 7 j) (hz : ¬ u.2.1 4 i = 0 → u.2.1 5 i = u.2.1 9 0)(hw : 0 ≤ u.2.1 10 0) (hq : u.2.1 10 0 < nI 3)  : kr_M l dC dI ad cc yX5_write wsX5_write { frames := 1, cells := 0, slots := 0, locals := 23 } [.ref (ad 0), .int (nI j), .int (nI i), .long v] u (tm_I (tm_I (tm_I (tm_I (tm_I (tm_I u 14 0 (nI 0)) 14 0 (nI 0)) 10 0 (nI 0)) 11 0 (nI 1)) 12 0 (((tm_I (tm_I u 14 0 (nI 0)) 14 0 (nI 0)).2.1 12 0) + (nI 1))) 14 0 (nI 2)) (some (.long 0)) := by
  refine kq_ofW (cc := cX5_write) (maxL := 5) (ret := (some .long)) (R0 := RX5) (by decide) rfl rfl (Nat.le_of_ble_eq_true rfl) ?_
  intro p e s m below meth c A ls hx hb hr hlk hml hown hts hP hK hD hA hG hS hl
  have hl : lv_has ls 5 [(0, .ref (ad 0)), (1, .int (nI j)), (2, .int (nI i)), (3, .long v)] := hl
  refine lv_aload_n hx hb dX5_write_0 rfl (lv_at hl 0 rfl) ?_
  refine lv_aload_n hx hb dX5_write_1 rfl (lv_at hl 0 rfl) ?_
  refine lv_iload_n hx hb dX5_write_2 rfl (lv_at hl 1 rfl) ?_
  refine lv_iconst (v := (nI 3)) hx hb dX5_write_3 (by decide) ?_
  refine kq_cV (st1 := [.int (nI 0), .ref (ad 0)]) ⟨hx, hb, hml, hown, hts⟩ (r_out_in u (by omega) (by omega)) (cwV 2 hts gX5_109_X5_out rfl rfl rfl (by decide +kernel) ⟨Nat.le_of_ble_eq_true rfl, Nat.le_of_ble_eq_true rfl⟩) kq_okT hK hP hD hA hG hS (va_recv hK hP (ci := 5) (q0 := 0) rfl (tm_at (i := 0) (by omega) rfl)) rfl hl.1 rfl rfl (Nat.le_of_ble_eq_true rfl) dX5_write_4 ⟨Nat.le_of_ble_eq_true rfl, Nat.le_of_ble_eq_true rfl⟩ (fun H locs hP hD hS => ?_)
  refine lv_if_ne (tgt := 19) hx hb dX5_write_7 (by decide) (fun c => absurd (by decide) c) (fun _ => ?_)
  refine lv_aload_n hx hb dX5_write_10 rfl (lv_at hl 0 rfl) ?_
  refine lv_iload_n hx hb dX5_write_11 rfl (lv_at hl 2 rfl) ?_
  refine lv_iconst (v := (nI 2)) hx hb dX5_write_12 (by decide) ?_
  refine kq_cV (st1 := [.int (nI 0), .ref (ad 0)]) ⟨hx, hb, hml, hown, hts⟩ (r_out_in u (by omega) (by omega)) (cwV 2 hts gX5_109_X5_out rfl rfl rfl (by decide +kernel) ⟨Nat.le_of_ble_eq_true rfl, Nat.le_of_ble_eq_true rfl⟩) kq_okT hK hP hD hA hG hS (va_recv hK hP (ci := 5) (q0 := 0) rfl (tm_at (i := 0) (by omega) rfl)) rfl hl.1 rfl rfl (Nat.le_of_ble_eq_true rfl) dX5_write_13 ⟨Nat.le_of_ble_eq_true rfl, Nat.le_of_ble_eq_true rfl⟩ (fun H locs hP hD hS => ?_)
  refine lv_if_eq (tgt := 23) hx hb dX5_write_16 (by decide) (fun _ => ?_) (fun c => absurd (by decide) c)
  refine lv_iconst (v := (nI 0)) hx hb dX5_write_23 (by decide) ?_
  refine kq_cV (st1 := [.int (nI 1)]) ⟨hx, hb, hml, hown, hts⟩ (r_begin_ok u hnl) (cwV 1 hts gX5_113_X5_begin rfl rfl rfl (by decide +kernel) ⟨Nat.le_of_ble_eq_true rfl, Nat.le_of_ble_eq_true rfl⟩) kq_okT hK hP hD hA hG hS (va_recv hK hP (ci := 5) (q0 := 0) rfl (tm_at (i := 0) (by omega) rfl)) rfl hl.1 rfl rfl (Nat.le_of_ble_eq_true rfl) dX5_write_24 ⟨Nat.le_of_ble_eq_true rfl, Nat.le_of_ble_eq_true rfl⟩ (fun H locs hP hD hS => ?_)
  refine lv_if_ne (tgt := 32) hx hb dX5_write_27 (by decide) (fun _ => ?_) (fun c => absurd c (by decide))
  refine lv_aload_n hx hb dX5_write_32 rfl (lv_at hl 0 rfl) ?_
  refine lv_aload_n hx hb dX5_write_33 rfl (lv_at hl 0 rfl) ?_
  refine tr_g_defined hx hb hts inB_X5 hown hK hP (hts _ mb_645) dX5_write_34 ?_
  refine lv_iload_n hx hb dX5_write_37 rfl (lv_at hl 1 rfl) ?_
  refine tr_l_defined hx hb hK hP (by omega) dX5_write_38 ?_
  refine kq_ti (y := (u.2.1 6 j)) (by simp [tm_L, tm_I, tm_D]) ?_
  refine lv_if_ne (tgt := 46) hx hb dX5_write_39 (by decide) (fun _ => ?_) (fun c => absurd c hd)
  refine lv_aload_n hx hb dX5_write_46 rfl (lv_at hl 0 rfl) ?_
  refine tr_g_cellPolicy hx hb hts inB_X5 hown hK hP (hts _ mb_635) dX5_write_47 ?_
  refine lv_iload_n hx hb dX5_write_50 rfl (lv_at hl 1 rfl) ?_
  refine tr_l_cellPolicy hx hb hK hP (by omega) dX5_write_51 ?_
  refine kq_tl (y := (u.1 7 j)) (by simp [tm_L, tm_I, tm_D]) ?_
  refine lv_lconst (v := 0) hx hb dX5_write_52 (by decide) ?_
  refine W.lcmp hx hb dX5_write_53 ?_
  refine lv_if_eq (tgt := 71) hx hb dX5_write_54 (by decide) (fun c => absurd c (fun q => h0 (tm_cmp0.mp q))) (fun _ => ?_)
  refine lv_aload_n hx hb dX5_write_57 rfl (lv_at hl 0 rfl) ?_
  refine lv_iload_n hx hb dX5_write_58 rfl (lv_at hl 2 rfl) ?_
  refine lv_aload_n hx hb dX5_write_59 rfl (lv_at hl 0 rfl) ?_
  refine tr_g_cellPolicy hx hb hts inB_X5 hown hK hP (hts _ mb_635) dX5_write_60 ?_
  refine lv_iload_n hx hb dX5_write_63 rfl (lv_at hl 1 rfl) ?_
  refine tr_l_cellPolicy hx hb hK hP (by omega) dX5_write_64 ?_
  refine kq_tl (y := (u.1 7 j)) (by simp [tm_L, tm_I, tm_D]) ?_
  refine kq_cV (st1 := [.int (nI 0), .ref (ad 0)]) ⟨hx, hb, hml, hown, hts⟩ (r_sat_ok (tm_I u 14 0 (nI 0)) (k := i) (by omega) (u.1 7 j) (by simpa [tm_I] using h0) (by simpa [tm_I] using he) (by simpa [tm_I] using hz)) (cwV 2 hts gX5_140_X5_satisfied rfl rfl rfl (by decide +kernel) ⟨Nat.le_of_ble_eq_true rfl, Nat.le_of_ble_eq_true rfl⟩) kq_okT hK hP hD hA hG hS (va_recv hK hP (ci := 5) (q0 := 0) rfl (tm_at (i := 0) (by omega) rfl)) rfl hl.1 rfl rfl (Nat.le_of_ble_eq_true rfl) dX5_write_65 ⟨Nat.le_of_ble_eq_true rfl, Nat.le_of_ble_eq_true rfl⟩ (fun H locs hP hD hS => ?_)
  refine lv_goto (tgt := 72) hx hb dX5_write_68 (by decide) ?_
  refine tr_p_thrown hx hb hts inB_X5 hown hK hP hD hS (hts _ mb_652) dX5_write_72 (fun H locs hP hD hS => ?_)
  refine lv_aload_n hx hb dX5_write_75 rfl (lv_at hl 0 rfl) ?_
  refine tr_g_thrown hx hb hts inB_X5 hown hK hP (hts _ mb_652) dX5_write_76 ?_
  refine kq_ti (y := (nI 0)) (by simp [tm_L, tm_I, tm_D]) ?_
  refine lv_if_ne (tgt := 90) hx hb dX5_write_79 (by decide) (fun c => absurd (by decide) c) (fun _ => ?_)
  refine lv_aload_n hx hb dX5_write_82 rfl (lv_at hl 0 rfl) ?_
  refine lv_iconst (v := (nI 3)) hx hb dX5_write_83 (by decide) ?_
  refine kq_cV (st1 := [.int (nI 0)]) ⟨hx, hb, hml, hown, hts⟩ (r_lasts_no (tm_I (tm_I u 14 0 (nI 0)) 14 0 (nI 0)) (nI 3) (by simpa [tm_I] using hw) (by simpa [tm_I] using hq)) (cwV 1 hts gX5_157_X5_lasts rfl rfl rfl (by decide +kernel) ⟨Nat.le_of_ble_eq_true rfl, Nat.le_of_ble_eq_true rfl⟩) kq_okT hK hP hD hA hG hS (va_recv hK hP (ci := 5) (q0 := 0) rfl (tm_at (i := 0) (by omega) rfl)) rfl hl.1 rfl rfl (Nat.le_of_ble_eq_true rfl) dX5_write_84 ⟨Nat.le_of_ble_eq_true rfl, Nat.le_of_ble_eq_true rfl⟩ (fun H locs hP hD hS => ?_)
  refine lv_if_ne (tgt := 92) hx hb dX5_write_87 (by decide) (fun c => absurd (by decide) c) (fun _ => ?_)
  refine lv_lconst (v := 0) hx hb dX5_write_90 (by decide) ?_
  exact kq_lret hx hb hr hlk hP hD hS dX5_write_91
set_option maxHeartbeats 4000000 in
set_option maxRecDepth 100000 in
theorem p_write_pcell (u : tm_S) {j i : Nat} (hj : j < 4) (hi : i < 3) (v : Int64) (hnl : u.2.1 11 0 = 0) (hd : ¬ u.2.1 6 j = 0) (h0 : ¬ u.1 7 j = 0) (he : u.1 6 i = u.1 7 j) (hz : ¬ u.2.1 4 i = 0 → u.2.1 5 i = u.2.1 9 0)(pr : Int32) (hw : 0 ≤ u.2.1 10 0 ∨ u.2.1 10 0 = (-1)) (hq : tm_fit (u.2.1 10 0) (nI 3) pr) (hk : u.2.1 7 j = 0) : kr_M l dC dI ad cc yX5_write wsX5_write { frames := 1, cells := 0, slots := 0, locals := 23 } [.ref (ad 0), .int (nI j), .int (nI i), .long v] u (tm_I (tm_L (tm_I (tm_L (tm_I (tm_I (tm_I u 14 0 (nI 0)) 14 0 (nI 0)) 10 0 pr) 6 i 0) 4 i (nI 0)) 8 j v) 8 j (nI 1)) (some (.long v)) := by
  refine kq_ofW (cc := cX5_write) (maxL := 5) (ret := (some .long)) (R0 := RX5) (by decide) rfl rfl (Nat.le_of_ble_eq_true rfl) ?_
  intro p e s m below meth c A ls hx hb hr hlk hml hown hts hP hK hD hA hG hS hl
  have hl : lv_has ls 5 [(0, .ref (ad 0)), (1, .int (nI j)), (2, .int (nI i)), (3, .long v)] := hl
  refine lv_aload_n hx hb dX5_write_0 rfl (lv_at hl 0 rfl) ?_
  refine lv_aload_n hx hb dX5_write_1 rfl (lv_at hl 0 rfl) ?_
  refine lv_iload_n hx hb dX5_write_2 rfl (lv_at hl 1 rfl) ?_
  refine lv_iconst (v := (nI 3)) hx hb dX5_write_3 (by decide) ?_
  refine kq_cV (st1 := [.int (nI 0), .ref (ad 0)]) ⟨hx, hb, hml, hown, hts⟩ (r_out_in u (by omega) (by omega)) (cwV 2 hts gX5_109_X5_out rfl rfl rfl (by decide +kernel) ⟨Nat.le_of_ble_eq_true rfl, Nat.le_of_ble_eq_true rfl⟩) kq_okT hK hP hD hA hG hS (va_recv hK hP (ci := 5) (q0 := 0) rfl (tm_at (i := 0) (by omega) rfl)) rfl hl.1 rfl rfl (Nat.le_of_ble_eq_true rfl) dX5_write_4 ⟨Nat.le_of_ble_eq_true rfl, Nat.le_of_ble_eq_true rfl⟩ (fun H locs hP hD hS => ?_)
  refine lv_if_ne (tgt := 19) hx hb dX5_write_7 (by decide) (fun c => absurd (by decide) c) (fun _ => ?_)
  refine lv_aload_n hx hb dX5_write_10 rfl (lv_at hl 0 rfl) ?_
  refine lv_iload_n hx hb dX5_write_11 rfl (lv_at hl 2 rfl) ?_
  refine lv_iconst (v := (nI 2)) hx hb dX5_write_12 (by decide) ?_
  refine kq_cV (st1 := [.int (nI 0), .ref (ad 0)]) ⟨hx, hb, hml, hown, hts⟩ (r_out_in u (by omega) (by omega)) (cwV 2 hts gX5_109_X5_out rfl rfl rfl (by decide +kernel) ⟨Nat.le_of_ble_eq_true rfl, Nat.le_of_ble_eq_true rfl⟩) kq_okT hK hP hD hA hG hS (va_recv hK hP (ci := 5) (q0 := 0) rfl (tm_at (i := 0) (by omega) rfl)) rfl hl.1 rfl rfl (Nat.le_of_ble_eq_true rfl) dX5_write_13 ⟨Nat.le_of_ble_eq_true rfl, Nat.le_of_ble_eq_true rfl⟩ (fun H locs hP hD hS => ?_)
  refine lv_if_eq (tgt := 23) hx hb dX5_write_16 (by decide) (fun _ => ?_) (fun c => absurd (by decide) c)
  refine lv_iconst (v := (nI 0)) hx hb dX5_write_23 (by decide) ?_
  refine kq_cV (st1 := [.int (nI 1)]) ⟨hx, hb, hml, hown, hts⟩ (r_begin_ok u hnl) (cwV 1 hts gX5_113_X5_begin rfl rfl rfl (by decide +kernel) ⟨Nat.le_of_ble_eq_true rfl, Nat.le_of_ble_eq_true rfl⟩) kq_okT hK hP hD hA hG hS (va_recv hK hP (ci := 5) (q0 := 0) rfl (tm_at (i := 0) (by omega) rfl)) rfl hl.1 rfl rfl (Nat.le_of_ble_eq_true rfl) dX5_write_24 ⟨Nat.le_of_ble_eq_true rfl, Nat.le_of_ble_eq_true rfl⟩ (fun H locs hP hD hS => ?_)
  refine lv_if_ne (tgt := 32) hx hb dX5_write_27 (by decide) (fun _ => ?_) (fun c => absurd c (by decide))
  refine lv_aload_n hx hb dX5_write_32 rfl (lv_at hl 0 rfl) ?_
  refine lv_aload_n hx hb dX5_write_33 rfl (lv_at hl 0 rfl) ?_
  refine tr_g_defined hx hb hts inB_X5 hown hK hP (hts _ mb_645) dX5_write_34 ?_
  refine lv_iload_n hx hb dX5_write_37 rfl (lv_at hl 1 rfl) ?_
  refine tr_l_defined hx hb hK hP (by omega) dX5_write_38 ?_
  refine kq_ti (y := (u.2.1 6 j)) (by simp [tm_L, tm_I, tm_D]) ?_
  refine lv_if_ne (tgt := 46) hx hb dX5_write_39 (by decide) (fun _ => ?_) (fun c => absurd c hd)
  refine lv_aload_n hx hb dX5_write_46 rfl (lv_at hl 0 rfl) ?_
  refine tr_g_cellPolicy hx hb hts inB_X5 hown hK hP (hts _ mb_635) dX5_write_47 ?_
  refine lv_iload_n hx hb dX5_write_50 rfl (lv_at hl 1 rfl) ?_
  refine tr_l_cellPolicy hx hb hK hP (by omega) dX5_write_51 ?_
  refine kq_tl (y := (u.1 7 j)) (by simp [tm_L, tm_I, tm_D]) ?_
  refine lv_lconst (v := 0) hx hb dX5_write_52 (by decide) ?_
  refine W.lcmp hx hb dX5_write_53 ?_
  refine lv_if_eq (tgt := 71) hx hb dX5_write_54 (by decide) (fun c => absurd c (fun q => h0 (tm_cmp0.mp q))) (fun _ => ?_)
  refine lv_aload_n hx hb dX5_write_57 rfl (lv_at hl 0 rfl) ?_
  refine lv_iload_n hx hb dX5_write_58 rfl (lv_at hl 2 rfl) ?_
  refine lv_aload_n hx hb dX5_write_59 rfl (lv_at hl 0 rfl) ?_
  refine tr_g_cellPolicy hx hb hts inB_X5 hown hK hP (hts _ mb_635) dX5_write_60 ?_
  refine lv_iload_n hx hb dX5_write_63 rfl (lv_at hl 1 rfl) ?_
  refine tr_l_cellPolicy hx hb hK hP (by omega) dX5_write_64 ?_
  refine kq_tl (y := (u.1 7 j)) (by simp [tm_L, tm_I, tm_D]) ?_
  refine kq_cV (st1 := [.int (nI 0), .ref (ad 0)]) ⟨hx, hb, hml, hown, hts⟩ (r_sat_ok (tm_I u 14 0 (nI 0)) (k := i) (by omega) (u.1 7 j) (by simpa [tm_I] using h0) (by simpa [tm_I] using he) (by simpa [tm_I] using hz)) (cwV 2 hts gX5_140_X5_satisfied rfl rfl rfl (by decide +kernel) ⟨Nat.le_of_ble_eq_true rfl, Nat.le_of_ble_eq_true rfl⟩) kq_okT hK hP hD hA hG hS (va_recv hK hP (ci := 5) (q0 := 0) rfl (tm_at (i := 0) (by omega) rfl)) rfl hl.1 rfl rfl (Nat.le_of_ble_eq_true rfl) dX5_write_65 ⟨Nat.le_of_ble_eq_true rfl, Nat.le_of_ble_eq_true rfl⟩ (fun H locs hP hD hS => ?_)
  refine lv_goto (tgt := 72) hx hb dX5_write_68 (by decide) ?_
  refine tr_p_thrown hx hb hts inB_X5 hown hK hP hD hS (hts _ mb_652) dX5_write_72 (fun H locs hP hD hS => ?_)
  refine lv_aload_n hx hb dX5_write_75 rfl (lv_at hl 0 rfl) ?_
  refine tr_g_thrown hx hb hts inB_X5 hown hK hP (hts _ mb_652) dX5_write_76 ?_
  refine kq_ti (y := (nI 0)) (by simp [tm_L, tm_I, tm_D]) ?_
  refine lv_if_ne (tgt := 90) hx hb dX5_write_79 (by decide) (fun c => absurd (by decide) c) (fun _ => ?_)
  refine lv_aload_n hx hb dX5_write_82 rfl (lv_at hl 0 rfl) ?_
  refine lv_iconst (v := (nI 3)) hx hb dX5_write_83 (by decide) ?_
  refine kq_cV (st1 := [.int (nI 1)]) ⟨hx, hb, hml, hown, hts⟩ (r_lasts_fit (tm_I (tm_I u 14 0 (nI 0)) 14 0 (nI 0)) (nI 3) pr (by simpa [tm_I] using hw) (by simpa [tm_I] using hq)) (cwV 1 hts gX5_157_X5_lasts rfl rfl rfl (by decide +kernel) ⟨Nat.le_of_ble_eq_true rfl, Nat.le_of_ble_eq_true rfl⟩) kq_okT hK hP hD hA hG hS (va_recv hK hP (ci := 5) (q0 := 0) rfl (tm_at (i := 0) (by omega) rfl)) rfl hl.1 rfl rfl (Nat.le_of_ble_eq_true rfl) dX5_write_84 ⟨Nat.le_of_ble_eq_true rfl, Nat.le_of_ble_eq_true rfl⟩ (fun H locs hP hD hS => ?_)
  refine lv_if_ne (tgt := 92) hx hb dX5_write_87 (by decide) (fun _ => ?_) (fun c => absurd c (by decide))
  refine lv_aload_n hx hb dX5_write_92 rfl (lv_at hl 0 rfl) ?_
  refine tr_g_cellPolicy hx hb hts inB_X5 hown hK hP (hts _ mb_635) dX5_write_93 ?_
  refine lv_iload_n hx hb dX5_write_96 rfl (lv_at hl 1 rfl) ?_
  refine tr_l_cellPolicy hx hb hK hP (by omega) dX5_write_97 ?_
  refine kq_tl (y := (u.1 7 j)) (by simp [tm_L, tm_I, tm_D]) ?_
  refine lv_lconst (v := 0) hx hb dX5_write_98 (by decide) ?_
  refine W.lcmp hx hb dX5_write_99 ?_
  refine lv_if_eq (tgt := 108) hx hb dX5_write_100 (by decide) (fun c => absurd c (fun q => h0 (tm_cmp0.mp q))) (fun _ => ?_)
  refine lv_aload_n hx hb dX5_write_103 rfl (lv_at hl 0 rfl) ?_
  refine lv_iload_n hx hb dX5_write_104 rfl (lv_at hl 2 rfl) ?_
  refine kq_cV (st1 := []) ⟨hx, hb, hml, hown, hts⟩ (r_anew (tm_I (tm_I (tm_I u 14 0 (nI 0)) 14 0 (nI 0)) 10 0 pr) (k := i) (by omega)) (cwV 1 hts gX5_105_X5_anew rfl rfl rfl (by decide +kernel) ⟨Nat.le_of_ble_eq_true rfl, Nat.le_of_ble_eq_true rfl⟩) kq_okT hK hP hD hA hG hS (va_recv hK hP (ci := 5) (q0 := 0) rfl (tm_at (i := 0) (by omega) rfl)) rfl hl.1 rfl rfl (Nat.le_of_ble_eq_true rfl) dX5_write_105 ⟨Nat.le_of_ble_eq_true rfl, Nat.le_of_ble_eq_true rfl⟩ (fun H locs hP hD hS => ?_)
  refine lv_aload_n hx hb dX5_write_108 rfl (lv_at hl 0 rfl) ?_
  refine tr_g_counting hx hb hts inB_X5 hown hK hP (hts _ mb_646) dX5_write_109 ?_
  refine lv_iload_n hx hb dX5_write_112 rfl (lv_at hl 1 rfl) ?_
  refine tr_l_counting hx hb hK hP (by omega) dX5_write_113 ?_
  refine kq_ti (y := (u.2.1 7 j)) (by simp [tm_L, tm_I, tm_D]) ?_
  refine lv_if_eq (tgt := 127) hx hb dX5_write_114 (by decide) (fun _ => ?_) (fun c => absurd hk c)
  refine lv_aload_n hx hb dX5_write_127 rfl (lv_at hl 0 rfl) ?_
  refine tr_g_cell hx hb hts inB_X5 hown hK hP (hts _ mb_634) dX5_write_128 ?_
  refine lv_iload_n hx hb dX5_write_131 rfl (lv_at hl 1 rfl) ?_
  refine lv_aload_n hx hb dX5_write_132 rfl (lv_at hl 0 rfl) ?_
  refine tr_g_counting hx hb hts inB_X5 hown hK hP (hts _ mb_646) dX5_write_133 ?_
  refine lv_iload_n hx hb dX5_write_136 rfl (lv_at hl 1 rfl) ?_
  refine tr_l_counting hx hb hK hP (by omega) dX5_write_137 ?_
  refine kq_ti (y := (u.2.1 7 j)) (by simp [tm_L, tm_I, tm_D]) ?_
  refine lv_if_eq (tgt := 148) hx hb dX5_write_138 (by decide) (fun _ => ?_) (fun c => absurd hk c)
  refine lv_lload_n hx hb dX5_write_148 rfl (lv_at hl 3 rfl) ?_
  refine tr_t_cell hx hb hK hP hD hS (by omega) dX5_write_149 (fun H locs hP hD hS => ?_)
  refine lv_aload_n hx hb dX5_write_150 rfl (lv_at hl 0 rfl) ?_
  refine tr_g_filled hx hb hts inB_X5 hown hK hP (hts _ mb_647) dX5_write_151 ?_
  refine lv_iload_n hx hb dX5_write_154 rfl (lv_at hl 1 rfl) ?_
  refine lv_iconst (v := (nI 1)) hx hb dX5_write_155 (by decide) ?_
  refine tr_t_filled hx hb hK hP hD hS (by omega) (by first | rfl | decide) dX5_write_156 (fun H locs hP hD hS => ?_)
  refine lv_aload_n hx hb dX5_write_157 rfl (lv_at hl 0 rfl) ?_
  refine tr_g_cell hx hb hts inB_X5 hown hK hP (hts _ mb_634) dX5_write_158 ?_
  refine lv_iload_n hx hb dX5_write_161 rfl (lv_at hl 1 rfl) ?_
  refine tr_l_cell hx hb hK hP (by omega) dX5_write_162 ?_
  refine kq_tl (y := v) (by simp [tm_L, tm_I, tm_D]) ?_
  exact kq_lret hx hb hr hlk hP hD hS dX5_write_163
set_option maxHeartbeats 4000000 in
set_option maxRecDepth 100000 in
theorem p_write_pcnt (u : tm_S) {j i : Nat} (hj : j < 4) (hi : i < 3) (v : Int64) (hnl : u.2.1 11 0 = 0) (hd : ¬ u.2.1 6 j = 0) (h0 : ¬ u.1 7 j = 0) (he : u.1 6 i = u.1 7 j) (hz : ¬ u.2.1 4 i = 0 → u.2.1 5 i = u.2.1 9 0)(pr : Int32) (hw : 0 ≤ u.2.1 10 0 ∨ u.2.1 10 0 = (-1)) (hq : tm_fit (u.2.1 10 0) (nI 3) pr) (hk : ¬ u.2.1 7 j = 0) : kr_M l dC dI ad cc yX5_write wsX5_write { frames := 1, cells := 0, slots := 0, locals := 23 } [.ref (ad 0), .int (nI j), .int (nI i), .long v] u (tm_I (tm_L (tm_L (tm_I (tm_L (tm_I (tm_I (tm_I u 14 0 (nI 0)) 14 0 (nI 0)) 10 0 pr) 6 i 0) 4 i (nI 0)) 9 0 ((u.1 9 0) + 1)) 8 j ((u.1 9 0) + 1)) 8 j (nI 1)) (some (.long ((u.1 9 0) + 1))) := by
  refine kq_ofW (cc := cX5_write) (maxL := 5) (ret := (some .long)) (R0 := RX5) (by decide) rfl rfl (Nat.le_of_ble_eq_true rfl) ?_
  intro p e s m below meth c A ls hx hb hr hlk hml hown hts hP hK hD hA hG hS hl
  have hl : lv_has ls 5 [(0, .ref (ad 0)), (1, .int (nI j)), (2, .int (nI i)), (3, .long v)] := hl
  refine lv_aload_n hx hb dX5_write_0 rfl (lv_at hl 0 rfl) ?_
  refine lv_aload_n hx hb dX5_write_1 rfl (lv_at hl 0 rfl) ?_
  refine lv_iload_n hx hb dX5_write_2 rfl (lv_at hl 1 rfl) ?_
  refine lv_iconst (v := (nI 3)) hx hb dX5_write_3 (by decide) ?_
  refine kq_cV (st1 := [.int (nI 0), .ref (ad 0)]) ⟨hx, hb, hml, hown, hts⟩ (r_out_in u (by omega) (by omega)) (cwV 2 hts gX5_109_X5_out rfl rfl rfl (by decide +kernel) ⟨Nat.le_of_ble_eq_true rfl, Nat.le_of_ble_eq_true rfl⟩) kq_okT hK hP hD hA hG hS (va_recv hK hP (ci := 5) (q0 := 0) rfl (tm_at (i := 0) (by omega) rfl)) rfl hl.1 rfl rfl (Nat.le_of_ble_eq_true rfl) dX5_write_4 ⟨Nat.le_of_ble_eq_true rfl, Nat.le_of_ble_eq_true rfl⟩ (fun H locs hP hD hS => ?_)
  refine lv_if_ne (tgt := 19) hx hb dX5_write_7 (by decide) (fun c => absurd (by decide) c) (fun _ => ?_)
  refine lv_aload_n hx hb dX5_write_10 rfl (lv_at hl 0 rfl) ?_
  refine lv_iload_n hx hb dX5_write_11 rfl (lv_at hl 2 rfl) ?_
  refine lv_iconst (v := (nI 2)) hx hb dX5_write_12 (by decide) ?_
  refine kq_cV (st1 := [.int (nI 0), .ref (ad 0)]) ⟨hx, hb, hml, hown, hts⟩ (r_out_in u (by omega) (by omega)) (cwV 2 hts gX5_109_X5_out rfl rfl rfl (by decide +kernel) ⟨Nat.le_of_ble_eq_true rfl, Nat.le_of_ble_eq_true rfl⟩) kq_okT hK hP hD hA hG hS (va_recv hK hP (ci := 5) (q0 := 0) rfl (tm_at (i := 0) (by omega) rfl)) rfl hl.1 rfl rfl (Nat.le_of_ble_eq_true rfl) dX5_write_13 ⟨Nat.le_of_ble_eq_true rfl, Nat.le_of_ble_eq_true rfl⟩ (fun H locs hP hD hS => ?_)
  refine lv_if_eq (tgt := 23) hx hb dX5_write_16 (by decide) (fun _ => ?_) (fun c => absurd (by decide) c)
  refine lv_iconst (v := (nI 0)) hx hb dX5_write_23 (by decide) ?_
  refine kq_cV (st1 := [.int (nI 1)]) ⟨hx, hb, hml, hown, hts⟩ (r_begin_ok u hnl) (cwV 1 hts gX5_113_X5_begin rfl rfl rfl (by decide +kernel) ⟨Nat.le_of_ble_eq_true rfl, Nat.le_of_ble_eq_true rfl⟩) kq_okT hK hP hD hA hG hS (va_recv hK hP (ci := 5) (q0 := 0) rfl (tm_at (i := 0) (by omega) rfl)) rfl hl.1 rfl rfl (Nat.le_of_ble_eq_true rfl) dX5_write_24 ⟨Nat.le_of_ble_eq_true rfl, Nat.le_of_ble_eq_true rfl⟩ (fun H locs hP hD hS => ?_)
  refine lv_if_ne (tgt := 32) hx hb dX5_write_27 (by decide) (fun _ => ?_) (fun c => absurd c (by decide))
  refine lv_aload_n hx hb dX5_write_32 rfl (lv_at hl 0 rfl) ?_
  refine lv_aload_n hx hb dX5_write_33 rfl (lv_at hl 0 rfl) ?_
  refine tr_g_defined hx hb hts inB_X5 hown hK hP (hts _ mb_645) dX5_write_34 ?_
  refine lv_iload_n hx hb dX5_write_37 rfl (lv_at hl 1 rfl) ?_
  refine tr_l_defined hx hb hK hP (by omega) dX5_write_38 ?_
  refine kq_ti (y := (u.2.1 6 j)) (by simp [tm_L, tm_I, tm_D]) ?_
  refine lv_if_ne (tgt := 46) hx hb dX5_write_39 (by decide) (fun _ => ?_) (fun c => absurd c hd)
  refine lv_aload_n hx hb dX5_write_46 rfl (lv_at hl 0 rfl) ?_
  refine tr_g_cellPolicy hx hb hts inB_X5 hown hK hP (hts _ mb_635) dX5_write_47 ?_
  refine lv_iload_n hx hb dX5_write_50 rfl (lv_at hl 1 rfl) ?_
  refine tr_l_cellPolicy hx hb hK hP (by omega) dX5_write_51 ?_
  refine kq_tl (y := (u.1 7 j)) (by simp [tm_L, tm_I, tm_D]) ?_
  refine lv_lconst (v := 0) hx hb dX5_write_52 (by decide) ?_
  refine W.lcmp hx hb dX5_write_53 ?_
  refine lv_if_eq (tgt := 71) hx hb dX5_write_54 (by decide) (fun c => absurd c (fun q => h0 (tm_cmp0.mp q))) (fun _ => ?_)
  refine lv_aload_n hx hb dX5_write_57 rfl (lv_at hl 0 rfl) ?_
  refine lv_iload_n hx hb dX5_write_58 rfl (lv_at hl 2 rfl) ?_
  refine lv_aload_n hx hb dX5_write_59 rfl (lv_at hl 0 rfl) ?_
  refine tr_g_cellPolicy hx hb hts inB_X5 hown hK hP (hts _ mb_635) dX5_write_60 ?_
  refine lv_iload_n hx hb dX5_write_63 rfl (lv_at hl 1 rfl) ?_
  refine tr_l_cellPolicy hx hb hK hP (by omega) dX5_write_64 ?_
  refine kq_tl (y := (u.1 7 j)) (by simp [tm_L, tm_I, tm_D]) ?_
  refine kq_cV (st1 := [.int (nI 0), .ref (ad 0)]) ⟨hx, hb, hml, hown, hts⟩ (r_sat_ok (tm_I u 14 0 (nI 0)) (k := i) (by omega) (u.1 7 j) (by simpa [tm_I] using h0) (by simpa [tm_I] using he) (by simpa [tm_I] using hz)) (cwV 2 hts gX5_140_X5_satisfied rfl rfl rfl (by decide +kernel) ⟨Nat.le_of_ble_eq_true rfl, Nat.le_of_ble_eq_true rfl⟩) kq_okT hK hP hD hA hG hS (va_recv hK hP (ci := 5) (q0 := 0) rfl (tm_at (i := 0) (by omega) rfl)) rfl hl.1 rfl rfl (Nat.le_of_ble_eq_true rfl) dX5_write_65 ⟨Nat.le_of_ble_eq_true rfl, Nat.le_of_ble_eq_true rfl⟩ (fun H locs hP hD hS => ?_)
  refine lv_goto (tgt := 72) hx hb dX5_write_68 (by decide) ?_
  refine tr_p_thrown hx hb hts inB_X5 hown hK hP hD hS (hts _ mb_652) dX5_write_72 (fun H locs hP hD hS => ?_)
  refine lv_aload_n hx hb dX5_write_75 rfl (lv_at hl 0 rfl) ?_
  refine tr_g_thrown hx hb hts inB_X5 hown hK hP (hts _ mb_652) dX5_write_76 ?_
  refine kq_ti (y := (nI 0)) (by simp [tm_L, tm_I, tm_D]) ?_
  refine lv_if_ne (tgt := 90) hx hb dX5_write_79 (by decide) (fun c => absurd (by decide) c) (fun _ => ?_)
  refine lv_aload_n hx hb dX5_write_82 rfl (lv_at hl 0 rfl) ?_
  refine lv_iconst (v := (nI 3)) hx hb dX5_write_83 (by decide) ?_
  refine kq_cV (st1 := [.int (nI 1)]) ⟨hx, hb, hml, hown, hts⟩ (r_lasts_fit (tm_I (tm_I u 14 0 (nI 0)) 14 0 (nI 0)) (nI 3) pr (by simpa [tm_I] using hw) (by simpa [tm_I] using hq)) (cwV 1 hts gX5_157_X5_lasts rfl rfl rfl (by decide +kernel) ⟨Nat.le_of_ble_eq_true rfl, Nat.le_of_ble_eq_true rfl⟩) kq_okT hK hP hD hA hG hS (va_recv hK hP (ci := 5) (q0 := 0) rfl (tm_at (i := 0) (by omega) rfl)) rfl hl.1 rfl rfl (Nat.le_of_ble_eq_true rfl) dX5_write_84 ⟨Nat.le_of_ble_eq_true rfl, Nat.le_of_ble_eq_true rfl⟩ (fun H locs hP hD hS => ?_)
  refine lv_if_ne (tgt := 92) hx hb dX5_write_87 (by decide) (fun _ => ?_) (fun c => absurd c (by decide))
  refine lv_aload_n hx hb dX5_write_92 rfl (lv_at hl 0 rfl) ?_
  refine tr_g_cellPolicy hx hb hts inB_X5 hown hK hP (hts _ mb_635) dX5_write_93 ?_
  refine lv_iload_n hx hb dX5_write_96 rfl (lv_at hl 1 rfl) ?_
  refine tr_l_cellPolicy hx hb hK hP (by omega) dX5_write_97 ?_
  refine kq_tl (y := (u.1 7 j)) (by simp [tm_L, tm_I, tm_D]) ?_
  refine lv_lconst (v := 0) hx hb dX5_write_98 (by decide) ?_
  refine W.lcmp hx hb dX5_write_99 ?_
  refine lv_if_eq (tgt := 108) hx hb dX5_write_100 (by decide) (fun c => absurd c (fun q => h0 (tm_cmp0.mp q))) (fun _ => ?_)
  refine lv_aload_n hx hb dX5_write_103 rfl (lv_at hl 0 rfl) ?_
  refine lv_iload_n hx hb dX5_write_104 rfl (lv_at hl 2 rfl) ?_
  refine kq_cV (st1 := []) ⟨hx, hb, hml, hown, hts⟩ (r_anew (tm_I (tm_I (tm_I u 14 0 (nI 0)) 14 0 (nI 0)) 10 0 pr) (k := i) (by omega)) (cwV 1 hts gX5_105_X5_anew rfl rfl rfl (by decide +kernel) ⟨Nat.le_of_ble_eq_true rfl, Nat.le_of_ble_eq_true rfl⟩) kq_okT hK hP hD hA hG hS (va_recv hK hP (ci := 5) (q0 := 0) rfl (tm_at (i := 0) (by omega) rfl)) rfl hl.1 rfl rfl (Nat.le_of_ble_eq_true rfl) dX5_write_105 ⟨Nat.le_of_ble_eq_true rfl, Nat.le_of_ble_eq_true rfl⟩ (fun H locs hP hD hS => ?_)
  refine lv_aload_n hx hb dX5_write_108 rfl (lv_at hl 0 rfl) ?_
  refine tr_g_counting hx hb hts inB_X5 hown hK hP (hts _ mb_646) dX5_write_109 ?_
  refine lv_iload_n hx hb dX5_write_112 rfl (lv_at hl 1 rfl) ?_
  refine tr_l_counting hx hb hK hP (by omega) dX5_write_113 ?_
  refine kq_ti (y := (u.2.1 7 j)) (by simp [tm_L, tm_I, tm_D]) ?_
  refine lv_if_eq (tgt := 127) hx hb dX5_write_114 (by decide) (fun c => absurd c hk) (fun _ => ?_)
  refine lv_aload_n hx hb dX5_write_117 rfl (lv_at hl 0 rfl) ?_
  refine lv_dup hx hb dX5_write_118 rfl ?_
  refine tr_g_highest hx hb hts inB_X5 hown hK hP (hts _ mb_654) dX5_write_119 ?_
  refine kq_tl (y := (u.1 9 0)) (by simp [tm_L, tm_I, tm_D]) ?_
  refine lv_lconst (v := 1) hx hb dX5_write_122 (by decide) ?_
  refine lv_ladd hx hb dX5_write_123 ?_
  refine tr_p_highest hx hb hts inB_X5 hown hK hP hD hS (hts _ mb_654) dX5_write_124 (fun H locs hP hD hS => ?_)
  refine lv_aload_n hx hb dX5_write_127 rfl (lv_at hl 0 rfl) ?_
  refine tr_g_cell hx hb hts inB_X5 hown hK hP (hts _ mb_634) dX5_write_128 ?_
  refine lv_iload_n hx hb dX5_write_131 rfl (lv_at hl 1 rfl) ?_
  refine lv_aload_n hx hb dX5_write_132 rfl (lv_at hl 0 rfl) ?_
  refine tr_g_counting hx hb hts inB_X5 hown hK hP (hts _ mb_646) dX5_write_133 ?_
  refine lv_iload_n hx hb dX5_write_136 rfl (lv_at hl 1 rfl) ?_
  refine tr_l_counting hx hb hK hP (by omega) dX5_write_137 ?_
  refine kq_ti (y := (u.2.1 7 j)) (by simp [tm_L, tm_I, tm_D]) ?_
  refine lv_if_eq (tgt := 148) hx hb dX5_write_138 (by decide) (fun c => absurd c hk) (fun _ => ?_)
  refine lv_aload_n hx hb dX5_write_141 rfl (lv_at hl 0 rfl) ?_
  refine tr_g_highest hx hb hts inB_X5 hown hK hP (hts _ mb_654) dX5_write_142 ?_
  refine kq_tl (y := ((u.1 9 0) + 1)) (by simp [tm_L, tm_I, tm_D]) ?_
  refine lv_goto (tgt := 149) hx hb dX5_write_145 (by decide) ?_
  refine tr_t_cell hx hb hK hP hD hS (by omega) dX5_write_149 (fun H locs hP hD hS => ?_)
  refine lv_aload_n hx hb dX5_write_150 rfl (lv_at hl 0 rfl) ?_
  refine tr_g_filled hx hb hts inB_X5 hown hK hP (hts _ mb_647) dX5_write_151 ?_
  refine lv_iload_n hx hb dX5_write_154 rfl (lv_at hl 1 rfl) ?_
  refine lv_iconst (v := (nI 1)) hx hb dX5_write_155 (by decide) ?_
  refine tr_t_filled hx hb hK hP hD hS (by omega) (by first | rfl | decide) dX5_write_156 (fun H locs hP hD hS => ?_)
  refine lv_aload_n hx hb dX5_write_157 rfl (lv_at hl 0 rfl) ?_
  refine tr_g_cell hx hb hts inB_X5 hown hK hP (hts _ mb_634) dX5_write_158 ?_
  refine lv_iload_n hx hb dX5_write_161 rfl (lv_at hl 1 rfl) ?_
  refine tr_l_cell hx hb hK hP (by omega) dX5_write_162 ?_
  refine kq_tl (y := ((u.1 9 0) + 1)) (by simp [tm_L, tm_I, tm_D]) ?_
  exact kq_lret hx hb hr hlk hP hD hS dX5_write_163
set_option maxHeartbeats 4000000 in
set_option maxRecDepth 100000 in
theorem p_read_b1 (u : tm_S) (x : Int32) (h : x < 0 ∨ ¬ x ≤ nI 3)  : kr_M l dC dI ad cc yX5_read wsX5_read { frames := 1, cells := 0, slots := 0, locals := 22 } [.ref (ad 0), .int x] u (tm_I u 14 0 (nI 1)) (some (.long 0)) := by
  refine kq_ofW (cc := cX5_read) (maxL := 2) (ret := (some .long)) (R0 := RX5) (by decide) rfl rfl (Nat.le_of_ble_eq_true rfl) ?_
  intro p e s m below meth c A ls hx hb hr hlk hml hown hts hP hK hD hA hG hS hl
  have hl : lv_has ls 2 [(0, .ref (ad 0)), (1, .int x)] := hl
  refine lv_aload_n hx hb dX5_read_0 rfl (lv_at hl 0 rfl) ?_
  refine lv_aload_n hx hb dX5_read_1 rfl (lv_at hl 0 rfl) ?_
  refine lv_iload_n hx hb dX5_read_2 rfl (lv_at hl 1 rfl) ?_
  refine lv_iconst (v := (nI 3)) hx hb dX5_read_3 (by decide) ?_
  refine kq_cV (st1 := [.int (nI 1), .ref (ad 0)]) ⟨hx, hb, hml, hown, hts⟩ (r_out_no u h) (cwV 2 hts gX5_109_X5_out rfl rfl rfl (by decide +kernel) ⟨Nat.le_of_ble_eq_true rfl, Nat.le_of_ble_eq_true rfl⟩) kq_okT hK hP hD hA hG hS (va_recv hK hP (ci := 5) (q0 := 0) rfl (tm_at (i := 0) (by omega) rfl)) rfl hl.1 rfl rfl (Nat.le_of_ble_eq_true rfl) dX5_read_4 ⟨Nat.le_of_ble_eq_true rfl, Nat.le_of_ble_eq_true rfl⟩ (fun H locs hP hD hS => ?_)
  refine kq_cV (st1 := [.int (nI 0)]) ⟨hx, hb, hml, hown, hts⟩ (r_begin_bad u) (cwV 1 hts gX5_113_X5_begin rfl rfl rfl (by decide +kernel) ⟨Nat.le_of_ble_eq_true rfl, Nat.le_of_ble_eq_true rfl⟩) kq_okT hK hP hD hA hG hS (va_recv hK hP (ci := 5) (q0 := 0) rfl (tm_at (i := 0) (by omega) rfl)) rfl hl.1 rfl rfl (Nat.le_of_ble_eq_true rfl) dX5_read_7 ⟨Nat.le_of_ble_eq_true rfl, Nat.le_of_ble_eq_true rfl⟩ (fun H locs hP hD hS => ?_)
  refine lv_if_ne (tgt := 15) hx hb dX5_read_10 (by decide) (fun c => absurd (by decide) c) (fun _ => ?_)
  refine lv_lconst (v := 0) hx hb dX5_read_13 (by decide) ?_
  exact kq_lret hx hb hr hlk hP hD hS dX5_read_14
set_option maxHeartbeats 4000000 in
set_option maxRecDepth 100000 in
theorem p_read_lo (u : tm_S) {j : Nat} (hj : j < 4) (hlo : ¬ u.2.1 11 0 = 0)  : kr_M l dC dI ad cc yX5_read wsX5_read { frames := 1, cells := 0, slots := 0, locals := 22 } [.ref (ad 0), .int (nI j)] u (tm_I u 14 0 (nI 2)) (some (.long 0)) := by
  refine kq_ofW (cc := cX5_read) (maxL := 2) (ret := (some .long)) (R0 := RX5) (by decide) rfl rfl (Nat.le_of_ble_eq_true rfl) ?_
  intro p e s m below meth c A ls hx hb hr hlk hml hown hts hP hK hD hA hG hS hl
  have hl : lv_has ls 2 [(0, .ref (ad 0)), (1, .int (nI j))] := hl
  refine lv_aload_n hx hb dX5_read_0 rfl (lv_at hl 0 rfl) ?_
  refine lv_aload_n hx hb dX5_read_1 rfl (lv_at hl 0 rfl) ?_
  refine lv_iload_n hx hb dX5_read_2 rfl (lv_at hl 1 rfl) ?_
  refine lv_iconst (v := (nI 3)) hx hb dX5_read_3 (by decide) ?_
  refine kq_cV (st1 := [.int (nI 0), .ref (ad 0)]) ⟨hx, hb, hml, hown, hts⟩ (r_out_in u (by omega) (by omega)) (cwV 2 hts gX5_109_X5_out rfl rfl rfl (by decide +kernel) ⟨Nat.le_of_ble_eq_true rfl, Nat.le_of_ble_eq_true rfl⟩) kq_okT hK hP hD hA hG hS (va_recv hK hP (ci := 5) (q0 := 0) rfl (tm_at (i := 0) (by omega) rfl)) rfl hl.1 rfl rfl (Nat.le_of_ble_eq_true rfl) dX5_read_4 ⟨Nat.le_of_ble_eq_true rfl, Nat.le_of_ble_eq_true rfl⟩ (fun H locs hP hD hS => ?_)
  refine kq_cV (st1 := [.int (nI 0)]) ⟨hx, hb, hml, hown, hts⟩ (r_begin_lost u hlo) (cwV 1 hts gX5_113_X5_begin rfl rfl rfl (by decide +kernel) ⟨Nat.le_of_ble_eq_true rfl, Nat.le_of_ble_eq_true rfl⟩) kq_okT hK hP hD hA hG hS (va_recv hK hP (ci := 5) (q0 := 0) rfl (tm_at (i := 0) (by omega) rfl)) rfl hl.1 rfl rfl (Nat.le_of_ble_eq_true rfl) dX5_read_7 ⟨Nat.le_of_ble_eq_true rfl, Nat.le_of_ble_eq_true rfl⟩ (fun H locs hP hD hS => ?_)
  refine lv_if_ne (tgt := 15) hx hb dX5_read_10 (by decide) (fun c => absurd (by decide) c) (fun _ => ?_)
  refine lv_lconst (v := 0) hx hb dX5_read_13 (by decide) ?_
  exact kq_lret hx hb hr hlk hP hD hS dX5_read_14
set_option maxHeartbeats 4000000 in
set_option maxRecDepth 100000 in
theorem p_read_und (u : tm_S) {j : Nat} (hj : j < 4) (hnl : u.2.1 11 0 = 0) (hd : u.2.1 6 j = 0) : kr_M l dC dI ad cc yX5_read wsX5_read { frames := 1, cells := 0, slots := 0, locals := 22 } [.ref (ad 0), .int (nI j)] u (tm_I (tm_I u 14 0 (nI 0)) 14 0 (nI 3)) (some (.long 0)) := by
  refine kq_ofW (cc := cX5_read) (maxL := 2) (ret := (some .long)) (R0 := RX5) (by decide) rfl rfl (Nat.le_of_ble_eq_true rfl) ?_
  intro p e s m below meth c A ls hx hb hr hlk hml hown hts hP hK hD hA hG hS hl
  have hl : lv_has ls 2 [(0, .ref (ad 0)), (1, .int (nI j))] := hl
  refine lv_aload_n hx hb dX5_read_0 rfl (lv_at hl 0 rfl) ?_
  refine lv_aload_n hx hb dX5_read_1 rfl (lv_at hl 0 rfl) ?_
  refine lv_iload_n hx hb dX5_read_2 rfl (lv_at hl 1 rfl) ?_
  refine lv_iconst (v := (nI 3)) hx hb dX5_read_3 (by decide) ?_
  refine kq_cV (st1 := [.int (nI 0), .ref (ad 0)]) ⟨hx, hb, hml, hown, hts⟩ (r_out_in u (by omega) (by omega)) (cwV 2 hts gX5_109_X5_out rfl rfl rfl (by decide +kernel) ⟨Nat.le_of_ble_eq_true rfl, Nat.le_of_ble_eq_true rfl⟩) kq_okT hK hP hD hA hG hS (va_recv hK hP (ci := 5) (q0 := 0) rfl (tm_at (i := 0) (by omega) rfl)) rfl hl.1 rfl rfl (Nat.le_of_ble_eq_true rfl) dX5_read_4 ⟨Nat.le_of_ble_eq_true rfl, Nat.le_of_ble_eq_true rfl⟩ (fun H locs hP hD hS => ?_)
  refine kq_cV (st1 := [.int (nI 1)]) ⟨hx, hb, hml, hown, hts⟩ (r_begin_ok u hnl) (cwV 1 hts gX5_113_X5_begin rfl rfl rfl (by decide +kernel) ⟨Nat.le_of_ble_eq_true rfl, Nat.le_of_ble_eq_true rfl⟩) kq_okT hK hP hD hA hG hS (va_recv hK hP (ci := 5) (q0 := 0) rfl (tm_at (i := 0) (by omega) rfl)) rfl hl.1 rfl rfl (Nat.le_of_ble_eq_true rfl) dX5_read_7 ⟨Nat.le_of_ble_eq_true rfl, Nat.le_of_ble_eq_true rfl⟩ (fun H locs hP hD hS => ?_)
  refine lv_if_ne (tgt := 15) hx hb dX5_read_10 (by decide) (fun _ => ?_) (fun c => absurd c (by decide))
  refine lv_aload_n hx hb dX5_read_15 rfl (lv_at hl 0 rfl) ?_
  refine tr_g_defined hx hb hts inB_X5 hown hK hP (hts _ mb_645) dX5_read_16 ?_
  refine lv_iload_n hx hb dX5_read_19 rfl (lv_at hl 1 rfl) ?_
  refine tr_l_defined hx hb hK hP (by omega) dX5_read_20 ?_
  refine kq_ti (y := (u.2.1 6 j)) (by simp [tm_L, tm_I, tm_D]) ?_
  refine lv_if_eq (tgt := 33) hx hb dX5_read_21 (by decide) (fun _ => ?_) (fun c => absurd hd c)
  refine lv_aload_n hx hb dX5_read_33 rfl (lv_at hl 0 rfl) ?_
  refine lv_iconst (v := (nI 3)) hx hb dX5_read_34 (by decide) ?_
  refine tr_p_thrown hx hb hts inB_X5 hown hK hP hD hS (hts _ mb_652) dX5_read_35 (fun H locs hP hD hS => ?_)
  refine lv_aload_n hx hb dX5_read_38 rfl (lv_at hl 0 rfl) ?_
  refine tr_g_thrown hx hb hts inB_X5 hown hK hP (hts _ mb_652) dX5_read_39 ?_
  refine kq_ti (y := (nI 3)) (by simp [tm_L, tm_I, tm_D]) ?_
  refine lv_if_ne (tgt := 54) hx hb dX5_read_42 (by decide) (fun _ => ?_) (fun c => absurd c (by decide))
  refine lv_lconst (v := 0) hx hb dX5_read_54 (by decide) ?_
  exact kq_lret hx hb hr hlk hP hD hS dX5_read_55
set_option maxHeartbeats 4000000 in
set_option maxRecDepth 100000 in
theorem p_read_unw (u : tm_S) {j : Nat} (hj : j < 4) (hnl : u.2.1 11 0 = 0) (hd : ¬ u.2.1 6 j = 0) (hw : u.2.1 8 j = 0) : kr_M l dC dI ad cc yX5_read wsX5_read { frames := 1, cells := 0, slots := 0, locals := 22 } [.ref (ad 0), .int (nI j)] u (tm_I (tm_I u 14 0 (nI 0)) 14 0 (nI 3)) (some (.long 0)) := by
  refine kq_ofW (cc := cX5_read) (maxL := 2) (ret := (some .long)) (R0 := RX5) (by decide) rfl rfl (Nat.le_of_ble_eq_true rfl) ?_
  intro p e s m below meth c A ls hx hb hr hlk hml hown hts hP hK hD hA hG hS hl
  have hl : lv_has ls 2 [(0, .ref (ad 0)), (1, .int (nI j))] := hl
  refine lv_aload_n hx hb dX5_read_0 rfl (lv_at hl 0 rfl) ?_
  refine lv_aload_n hx hb dX5_read_1 rfl (lv_at hl 0 rfl) ?_
  refine lv_iload_n hx hb dX5_read_2 rfl (lv_at hl 1 rfl) ?_
  refine lv_iconst (v := (nI 3)) hx hb dX5_read_3 (by decide) ?_
  refine kq_cV (st1 := [.int (nI 0), .ref (ad 0)]) ⟨hx, hb, hml, hown, hts⟩ (r_out_in u (by omega) (by omega)) (cwV 2 hts gX5_109_X5_out rfl rfl rfl (by decide +kernel) ⟨Nat.le_of_ble_eq_true rfl, Nat.le_of_ble_eq_true rfl⟩) kq_okT hK hP hD hA hG hS (va_recv hK hP (ci := 5) (q0 := 0) rfl (tm_at (i := 0) (by omega) rfl)) rfl hl.1 rfl rfl (Nat.le_of_ble_eq_true rfl) dX5_read_4 ⟨Nat.le_of_ble_eq_true rfl, Nat.le_of_ble_eq_true rfl⟩ (fun H locs hP hD hS => ?_)
  refine kq_cV (st1 := [.int (nI 1)]) ⟨hx, hb, hml, hown, hts⟩ (r_begin_ok u hnl) (cwV 1 hts gX5_113_X5_begin rfl rfl rfl (by decide +kernel) ⟨Nat.le_of_ble_eq_true rfl, Nat.le_of_ble_eq_true rfl⟩) kq_okT hK hP hD hA hG hS (va_recv hK hP (ci := 5) (q0 := 0) rfl (tm_at (i := 0) (by omega) rfl)) rfl hl.1 rfl rfl (Nat.le_of_ble_eq_true rfl) dX5_read_7 ⟨Nat.le_of_ble_eq_true rfl, Nat.le_of_ble_eq_true rfl⟩ (fun H locs hP hD hS => ?_)
  refine lv_if_ne (tgt := 15) hx hb dX5_read_10 (by decide) (fun _ => ?_) (fun c => absurd c (by decide))
  refine lv_aload_n hx hb dX5_read_15 rfl (lv_at hl 0 rfl) ?_
  refine tr_g_defined hx hb hts inB_X5 hown hK hP (hts _ mb_645) dX5_read_16 ?_
  refine lv_iload_n hx hb dX5_read_19 rfl (lv_at hl 1 rfl) ?_
  refine tr_l_defined hx hb hK hP (by omega) dX5_read_20 ?_
  refine kq_ti (y := (u.2.1 6 j)) (by simp [tm_L, tm_I, tm_D]) ?_
  refine lv_if_eq (tgt := 33) hx hb dX5_read_21 (by decide) (fun c => absurd c hd) (fun _ => ?_)
  refine lv_aload_n hx hb dX5_read_24 rfl (lv_at hl 0 rfl) ?_
  refine tr_g_filled hx hb hts inB_X5 hown hK hP (hts _ mb_647) dX5_read_25 ?_
  refine lv_iload_n hx hb dX5_read_28 rfl (lv_at hl 1 rfl) ?_
  refine tr_l_filled hx hb hK hP (by omega) dX5_read_29 ?_
  refine kq_ti (y := (u.2.1 8 j)) (by simp [tm_L, tm_I, tm_D]) ?_
  refine lv_if_ne (tgt := 38) hx hb dX5_read_30 (by decide) (fun c => absurd hw c) (fun _ => ?_)
  refine lv_aload_n hx hb dX5_read_33 rfl (lv_at hl 0 rfl) ?_
  refine lv_iconst (v := (nI 3)) hx hb dX5_read_34 (by decide) ?_
  refine tr_p_thrown hx hb hts inB_X5 hown hK hP hD hS (hts _ mb_652) dX5_read_35 (fun H locs hP hD hS => ?_)
  refine lv_aload_n hx hb dX5_read_38 rfl (lv_at hl 0 rfl) ?_
  refine tr_g_thrown hx hb hts inB_X5 hown hK hP (hts _ mb_652) dX5_read_39 ?_
  refine kq_ti (y := (nI 3)) (by simp [tm_L, tm_I, tm_D]) ?_
  refine lv_if_ne (tgt := 54) hx hb dX5_read_42 (by decide) (fun _ => ?_) (fun c => absurd c (by decide))
  refine lv_lconst (v := 0) hx hb dX5_read_54 (by decide) ?_
  exact kq_lret hx hb hr hlk hP hD hS dX5_read_55
set_option maxHeartbeats 4000000 in
set_option maxRecDepth 100000 in
theorem p_read_ok (u : tm_S) {j : Nat} (hj : j < 4) (hnl : u.2.1 11 0 = 0) (hd : ¬ u.2.1 6 j = 0) (hw : ¬ u.2.1 8 j = 0) : kr_M l dC dI ad cc yX5_read wsX5_read { frames := 1, cells := 0, slots := 0, locals := 22 } [.ref (ad 0), .int (nI j)] u (tm_I u 14 0 (nI 0)) (some (.long (u.1 8 j))) := by
  refine kq_ofW (cc := cX5_read) (maxL := 2) (ret := (some .long)) (R0 := RX5) (by decide) rfl rfl (Nat.le_of_ble_eq_true rfl) ?_
  intro p e s m below meth c A ls hx hb hr hlk hml hown hts hP hK hD hA hG hS hl
  have hl : lv_has ls 2 [(0, .ref (ad 0)), (1, .int (nI j))] := hl
  refine lv_aload_n hx hb dX5_read_0 rfl (lv_at hl 0 rfl) ?_
  refine lv_aload_n hx hb dX5_read_1 rfl (lv_at hl 0 rfl) ?_
  refine lv_iload_n hx hb dX5_read_2 rfl (lv_at hl 1 rfl) ?_
  refine lv_iconst (v := (nI 3)) hx hb dX5_read_3 (by decide) ?_
  refine kq_cV (st1 := [.int (nI 0), .ref (ad 0)]) ⟨hx, hb, hml, hown, hts⟩ (r_out_in u (by omega) (by omega)) (cwV 2 hts gX5_109_X5_out rfl rfl rfl (by decide +kernel) ⟨Nat.le_of_ble_eq_true rfl, Nat.le_of_ble_eq_true rfl⟩) kq_okT hK hP hD hA hG hS (va_recv hK hP (ci := 5) (q0 := 0) rfl (tm_at (i := 0) (by omega) rfl)) rfl hl.1 rfl rfl (Nat.le_of_ble_eq_true rfl) dX5_read_4 ⟨Nat.le_of_ble_eq_true rfl, Nat.le_of_ble_eq_true rfl⟩ (fun H locs hP hD hS => ?_)
  refine kq_cV (st1 := [.int (nI 1)]) ⟨hx, hb, hml, hown, hts⟩ (r_begin_ok u hnl) (cwV 1 hts gX5_113_X5_begin rfl rfl rfl (by decide +kernel) ⟨Nat.le_of_ble_eq_true rfl, Nat.le_of_ble_eq_true rfl⟩) kq_okT hK hP hD hA hG hS (va_recv hK hP (ci := 5) (q0 := 0) rfl (tm_at (i := 0) (by omega) rfl)) rfl hl.1 rfl rfl (Nat.le_of_ble_eq_true rfl) dX5_read_7 ⟨Nat.le_of_ble_eq_true rfl, Nat.le_of_ble_eq_true rfl⟩ (fun H locs hP hD hS => ?_)
  refine lv_if_ne (tgt := 15) hx hb dX5_read_10 (by decide) (fun _ => ?_) (fun c => absurd c (by decide))
  refine lv_aload_n hx hb dX5_read_15 rfl (lv_at hl 0 rfl) ?_
  refine tr_g_defined hx hb hts inB_X5 hown hK hP (hts _ mb_645) dX5_read_16 ?_
  refine lv_iload_n hx hb dX5_read_19 rfl (lv_at hl 1 rfl) ?_
  refine tr_l_defined hx hb hK hP (by omega) dX5_read_20 ?_
  refine kq_ti (y := (u.2.1 6 j)) (by simp [tm_L, tm_I, tm_D]) ?_
  refine lv_if_eq (tgt := 33) hx hb dX5_read_21 (by decide) (fun c => absurd c hd) (fun _ => ?_)
  refine lv_aload_n hx hb dX5_read_24 rfl (lv_at hl 0 rfl) ?_
  refine tr_g_filled hx hb hts inB_X5 hown hK hP (hts _ mb_647) dX5_read_25 ?_
  refine lv_iload_n hx hb dX5_read_28 rfl (lv_at hl 1 rfl) ?_
  refine tr_l_filled hx hb hK hP (by omega) dX5_read_29 ?_
  refine kq_ti (y := (u.2.1 8 j)) (by simp [tm_L, tm_I, tm_D]) ?_
  refine lv_if_ne (tgt := 38) hx hb dX5_read_30 (by decide) (fun _ => ?_) (fun c => absurd c hw)
  refine lv_aload_n hx hb dX5_read_38 rfl (lv_at hl 0 rfl) ?_
  refine tr_g_thrown hx hb hts inB_X5 hown hK hP (hts _ mb_652) dX5_read_39 ?_
  refine kq_ti (y := (nI 0)) (by simp [tm_L, tm_I, tm_D]) ?_
  refine lv_if_ne (tgt := 54) hx hb dX5_read_42 (by decide) (fun c => absurd (by decide) c) (fun _ => ?_)
  refine lv_aload_n hx hb dX5_read_45 rfl (lv_at hl 0 rfl) ?_
  refine tr_g_cell hx hb hts inB_X5 hown hK hP (hts _ mb_634) dX5_read_46 ?_
  refine lv_iload_n hx hb dX5_read_49 rfl (lv_at hl 1 rfl) ?_
  refine tr_l_cell hx hb hK hP (by omega) dX5_read_50 ?_
  refine kq_tl (y := (u.1 8 j)) (by simp [tm_L, tm_I, tm_D]) ?_
  refine lv_goto (tgt := 55) hx hb dX5_read_51 (by decide) ?_
  exact kq_lret hx hb hr hlk hP hD hS dX5_read_55
set_option maxHeartbeats 4000000 in
set_option maxRecDepth 100000 in
theorem p_clear_lo (u : tm_S) (hlo : ¬ u.2.1 11 0 = 0)  : kr_M l dC dI ad cc yX5_clear wsX5_clear { frames := 1, cells := 0, slots := 0, locals := 26 } [.ref (ad 0)] u (tm_I u 14 0 (nI 1)) none := by
  refine kq_ofW (cc := cX5_clear) (maxL := 2) (ret := none) (R0 := RX5) (by decide) rfl rfl (Nat.le_of_ble_eq_true rfl) ?_
  intro p e s m below meth c A ls hx hb hr hlk hml hown hts hP hK hD hA hG hS hl
  have hl : lv_has ls 2 [(0, .ref (ad 0))] := hl
  refine lv_aload_n hx hb dX5_clear_0 rfl (lv_at hl 0 rfl) ?_
  refine lv_aload_n hx hb dX5_clear_1 rfl (lv_at hl 0 rfl) ?_
  refine tr_g_lost hx hb hts inB_X5 hown hK hP (hts _ mb_653) dX5_clear_2 ?_
  refine lv_if_eq (tgt := 12) hx hb dX5_clear_5 (by decide) (fun c => absurd c hlo) (fun _ => ?_)
  refine lv_iconst (v := (nI 1)) hx hb dX5_clear_8 (by decide) ?_
  refine lv_goto (tgt := 13) hx hb dX5_clear_9 (by decide) ?_
  refine tr_p_thrown hx hb hts inB_X5 hown hK hP hD hS (hts _ mb_652) dX5_clear_13 (fun H locs hP hD hS => ?_)
  refine lv_aload_n hx hb dX5_clear_16 rfl (lv_at hl 0 rfl) ?_
  refine tr_g_thrown hx hb hts inB_X5 hown hK hP (hts _ mb_652) dX5_clear_17 ?_
  refine kq_ti (y := (nI 1)) (by simp [tm_L, tm_I, tm_D]) ?_
  refine lv_if_eq (tgt := 24) hx hb dX5_clear_20 (by decide) (fun c => absurd c (by decide)) (fun _ => ?_)
  exact kq_vret hx hb hr hlk hP hD hS dX5_clear_23
set_option maxHeartbeats 4000000 in
set_option maxRecDepth 100000 in
theorem p_clear_ok (u : tm_S) (hnl : u.2.1 11 0 = 0)  : kr_M l dC dI ad cc yX5_clear wsX5_clear { frames := 1, cells := 0, slots := 0, locals := 26 } [.ref (ad 0)] u (tm_I (tm_I (tm_I (tm_I (tm_I (tm_I (tm_I (tm_I (tm_I (tm_L (tm_I u 14 0 (nI 0)) 0 0 (tm_h (u.1 0 0) 4)) 13 0 (nI 0)) 0 0 (nI 0)) 6 0 (nI 0)) 0 1 (nI 0)) 6 1 (nI 0)) 0 2 (nI 0)) 6 2 (nI 0)) 0 3 (nI 0)) 6 3 (nI 0)) none := by
  refine kq_ofW (cc := cX5_clear) (maxL := 2) (ret := none) (R0 := RX5) (by decide) rfl rfl (Nat.le_of_ble_eq_true rfl) ?_
  intro p e s m below meth c A ls hx hb hr hlk hml hown hts hP hK hD hA hG hS hl
  have hl : lv_has ls 2 [(0, .ref (ad 0))] := hl
  refine lv_aload_n hx hb dX5_clear_0 rfl (lv_at hl 0 rfl) ?_
  refine lv_aload_n hx hb dX5_clear_1 rfl (lv_at hl 0 rfl) ?_
  refine tr_g_lost hx hb hts inB_X5 hown hK hP (hts _ mb_653) dX5_clear_2 ?_
  refine lv_if_eq (tgt := 12) hx hb dX5_clear_5 (by decide) (fun _ => ?_) (fun c => absurd hnl c)
  refine lv_iconst (v := (nI 0)) hx hb dX5_clear_12 (by decide) ?_
  refine tr_p_thrown hx hb hts inB_X5 hown hK hP hD hS (hts _ mb_652) dX5_clear_13 (fun H locs hP hD hS => ?_)
  refine lv_aload_n hx hb dX5_clear_16 rfl (lv_at hl 0 rfl) ?_
  refine tr_g_thrown hx hb hts inB_X5 hown hK hP (hts _ mb_652) dX5_clear_17 ?_
  refine kq_ti (y := (nI 0)) (by simp [tm_L, tm_I, tm_D]) ?_
  refine lv_if_eq (tgt := 24) hx hb dX5_clear_20 (by decide) (fun _ => ?_) (fun c => absurd (by decide) c)
  refine lv_aload_n hx hb dX5_clear_24 rfl (lv_at hl 0 rfl) ?_
  refine tr_g_seed hx hb hts inB_X5 hown hK hP (hts _ mb_630) dX5_clear_25 ?_
  refine lv_iconst (v := (nI 0)) hx hb dX5_clear_28 (by decide) ?_
  refine lv_aload_n hx hb dX5_clear_29 rfl (lv_at hl 0 rfl) ?_
  refine lv_aload_n hx hb dX5_clear_30 rfl (lv_at hl 0 rfl) ?_
  refine tr_g_seed hx hb hts inB_X5 hown hK hP (hts _ mb_630) dX5_clear_31 ?_
  refine lv_iconst (v := (nI 0)) hx hb dX5_clear_34 (by decide) ?_
  refine tr_l_seed hx hb hK hP (by omega) dX5_clear_35 ?_
  refine kq_tl (y := (u.1 0 0)) (by simp [tm_L, tm_I, tm_D]) ?_
  refine lv_ldc2 hx hb hown (hts _ mb_843) dX5_clear_36 ?_
  refine kq_cV (st1 := [.long (tm_h (u.1 0 0) 4), .int (nI 0), .ref (ad 1)]) ⟨hx, hb, hml, hown, hts⟩ (r_mix (tm_I u 14 0 (nI 0)) (u.1 0 0) 4) (cwV 2 hts gX5_74_X5_mix rfl rfl rfl (by decide +kernel) ⟨Nat.le_of_ble_eq_true rfl, Nat.le_of_ble_eq_true rfl⟩) kq_okT hK hP hD hA hG hS (va_recv hK hP (ci := 5) (q0 := 0) rfl (tm_at (i := 0) (by omega) rfl)) rfl hl.1 rfl rfl (Nat.le_of_ble_eq_true rfl) dX5_clear_39 ⟨Nat.le_of_ble_eq_true rfl, Nat.le_of_ble_eq_true rfl⟩ (fun H locs hP hD hS => ?_)
  refine tr_t_seed hx hb hK hP hD hS (by omega) dX5_clear_42 (fun H locs hP hD hS => ?_)
  refine lv_aload_n hx hb dX5_clear_43 rfl (lv_at hl 0 rfl) ?_
  refine lv_iconst (v := (nI 0)) hx hb dX5_clear_44 (by decide) ?_
  refine tr_p_guesses hx hb hts inB_X5 hown hK hP hD hS (hts _ mb_649) dX5_clear_45 (fun H locs hP hD hS => ?_)
  refine lv_iconst (v := (nI 0)) hx hb dX5_clear_48 (by decide) ?_
  refine lv_istore_n (lv' := [(1, .int (nI 0)), (0, .ref (ad 0))]) hx hb dX5_clear_49 rfl hl (by decide) rfl (fun ls hl => ?_)
  refine lv_iload_n hx hb dX5_clear_50 rfl (lv_at hl 0 rfl) ?_
  refine lv_iconst (v := (nI 4)) hx hb dX5_clear_51 (by decide) ?_
  refine lv_icmp_ge (tgt := 75) hx hb dX5_clear_52 (by decide) (fun c => absurd c (by decide)) (fun _ => ?_)
  refine lv_aload_n hx hb dX5_clear_55 rfl (lv_at hl 1 rfl) ?_
  refine tr_g_used hx hb hts inB_X5 hown hK hP (hts _ mb_641) dX5_clear_56 ?_
  refine lv_iload_n hx hb dX5_clear_59 rfl (lv_at hl 0 rfl) ?_
  refine lv_iconst (v := (nI 0)) hx hb dX5_clear_60 (by decide) ?_
  refine tr_t_used hx hb hK hP hD hS (by omega) (by first | rfl | decide) dX5_clear_61 (fun H locs hP hD hS => ?_)
  refine lv_aload_n hx hb dX5_clear_62 rfl (lv_at hl 1 rfl) ?_
  refine tr_g_defined hx hb hts inB_X5 hown hK hP (hts _ mb_645) dX5_clear_63 ?_
  refine lv_iload_n hx hb dX5_clear_66 rfl (lv_at hl 0 rfl) ?_
  refine lv_iconst (v := (nI 0)) hx hb dX5_clear_67 (by decide) ?_
  refine tr_t_defined hx hb hK hP hD hS (by omega) (by first | rfl | decide) dX5_clear_68 (fun H locs hP hD hS => ?_)
  refine lv_iinc (v := (nI 1)) (lv' := [(1, .int (nI 1)), (0, .ref (ad 0))]) hx hb dX5_clear_69 hl (k := 0) rfl (by decide) (by decide) rfl (fun ls hl => ?_)
  refine lv_goto (tgt := 50) hx hb dX5_clear_72 (by decide) ?_
  refine lv_iload_n hx hb dX5_clear_50 rfl (lv_at hl 0 rfl) ?_
  refine lv_iconst (v := (nI 4)) hx hb dX5_clear_51 (by decide) ?_
  refine lv_icmp_ge (tgt := 75) hx hb dX5_clear_52 (by decide) (fun c => absurd c (by decide)) (fun _ => ?_)
  refine lv_aload_n hx hb dX5_clear_55 rfl (lv_at hl 1 rfl) ?_
  refine tr_g_used hx hb hts inB_X5 hown hK hP (hts _ mb_641) dX5_clear_56 ?_
  refine lv_iload_n hx hb dX5_clear_59 rfl (lv_at hl 0 rfl) ?_
  refine lv_iconst (v := (nI 0)) hx hb dX5_clear_60 (by decide) ?_
  refine tr_t_used hx hb hK hP hD hS (by omega) (by first | rfl | decide) dX5_clear_61 (fun H locs hP hD hS => ?_)
  refine lv_aload_n hx hb dX5_clear_62 rfl (lv_at hl 1 rfl) ?_
  refine tr_g_defined hx hb hts inB_X5 hown hK hP (hts _ mb_645) dX5_clear_63 ?_
  refine lv_iload_n hx hb dX5_clear_66 rfl (lv_at hl 0 rfl) ?_
  refine lv_iconst (v := (nI 0)) hx hb dX5_clear_67 (by decide) ?_
  refine tr_t_defined hx hb hK hP hD hS (by omega) (by first | rfl | decide) dX5_clear_68 (fun H locs hP hD hS => ?_)
  refine lv_iinc (v := (nI 2)) (lv' := [(1, .int (nI 2)), (0, .ref (ad 0))]) hx hb dX5_clear_69 hl (k := 0) rfl (by decide) (by decide) rfl (fun ls hl => ?_)
  refine lv_goto (tgt := 50) hx hb dX5_clear_72 (by decide) ?_
  refine lv_iload_n hx hb dX5_clear_50 rfl (lv_at hl 0 rfl) ?_
  refine lv_iconst (v := (nI 4)) hx hb dX5_clear_51 (by decide) ?_
  refine lv_icmp_ge (tgt := 75) hx hb dX5_clear_52 (by decide) (fun c => absurd c (by decide)) (fun _ => ?_)
  refine lv_aload_n hx hb dX5_clear_55 rfl (lv_at hl 1 rfl) ?_
  refine tr_g_used hx hb hts inB_X5 hown hK hP (hts _ mb_641) dX5_clear_56 ?_
  refine lv_iload_n hx hb dX5_clear_59 rfl (lv_at hl 0 rfl) ?_
  refine lv_iconst (v := (nI 0)) hx hb dX5_clear_60 (by decide) ?_
  refine tr_t_used hx hb hK hP hD hS (by omega) (by first | rfl | decide) dX5_clear_61 (fun H locs hP hD hS => ?_)
  refine lv_aload_n hx hb dX5_clear_62 rfl (lv_at hl 1 rfl) ?_
  refine tr_g_defined hx hb hts inB_X5 hown hK hP (hts _ mb_645) dX5_clear_63 ?_
  refine lv_iload_n hx hb dX5_clear_66 rfl (lv_at hl 0 rfl) ?_
  refine lv_iconst (v := (nI 0)) hx hb dX5_clear_67 (by decide) ?_
  refine tr_t_defined hx hb hK hP hD hS (by omega) (by first | rfl | decide) dX5_clear_68 (fun H locs hP hD hS => ?_)
  refine lv_iinc (v := (nI 3)) (lv' := [(1, .int (nI 3)), (0, .ref (ad 0))]) hx hb dX5_clear_69 hl (k := 0) rfl (by decide) (by decide) rfl (fun ls hl => ?_)
  refine lv_goto (tgt := 50) hx hb dX5_clear_72 (by decide) ?_
  refine lv_iload_n hx hb dX5_clear_50 rfl (lv_at hl 0 rfl) ?_
  refine lv_iconst (v := (nI 4)) hx hb dX5_clear_51 (by decide) ?_
  refine lv_icmp_ge (tgt := 75) hx hb dX5_clear_52 (by decide) (fun c => absurd c (by decide)) (fun _ => ?_)
  refine lv_aload_n hx hb dX5_clear_55 rfl (lv_at hl 1 rfl) ?_
  refine tr_g_used hx hb hts inB_X5 hown hK hP (hts _ mb_641) dX5_clear_56 ?_
  refine lv_iload_n hx hb dX5_clear_59 rfl (lv_at hl 0 rfl) ?_
  refine lv_iconst (v := (nI 0)) hx hb dX5_clear_60 (by decide) ?_
  refine tr_t_used hx hb hK hP hD hS (by omega) (by first | rfl | decide) dX5_clear_61 (fun H locs hP hD hS => ?_)
  refine lv_aload_n hx hb dX5_clear_62 rfl (lv_at hl 1 rfl) ?_
  refine tr_g_defined hx hb hts inB_X5 hown hK hP (hts _ mb_645) dX5_clear_63 ?_
  refine lv_iload_n hx hb dX5_clear_66 rfl (lv_at hl 0 rfl) ?_
  refine lv_iconst (v := (nI 0)) hx hb dX5_clear_67 (by decide) ?_
  refine tr_t_defined hx hb hK hP hD hS (by omega) (by first | rfl | decide) dX5_clear_68 (fun H locs hP hD hS => ?_)
  refine lv_iinc (v := (nI 4)) (lv' := [(1, .int (nI 4)), (0, .ref (ad 0))]) hx hb dX5_clear_69 hl (k := 0) rfl (by decide) (by decide) rfl (fun ls hl => ?_)
  refine lv_goto (tgt := 50) hx hb dX5_clear_72 (by decide) ?_
  refine lv_iload_n hx hb dX5_clear_50 rfl (lv_at hl 0 rfl) ?_
  refine lv_iconst (v := (nI 4)) hx hb dX5_clear_51 (by decide) ?_
  refine lv_icmp_ge (tgt := 75) hx hb dX5_clear_52 (by decide) (fun _ => ?_) (fun c => absurd (by decide) c)
  exact kq_vret hx hb hr hlk hP hD hS dX5_clear_75
set_option maxHeartbeats 4000000 in
set_option maxRecDepth 100000 in
theorem p_rate_ok (u : tm_S)  : kr_M l dC dI ad cc yX5_rate wsX5_rate { frames := 0, cells := 0, slots := 0, locals := 0 } [.ref (ad 0)] u (tm_I u 14 0 (nI 0)) (some (.double (u.2.2 2))) := by
  refine kq_ofW (cc := cX5_rate) (maxL := 1) (ret := (some .double)) (R0 := RX5) (by decide) rfl rfl (Nat.le_of_ble_eq_true rfl) ?_
  intro p e s m below meth c A ls hx hb hr hlk hml hown hts hP hK hD hA hG hS hl
  have hl : lv_has ls 1 [(0, .ref (ad 0))] := hl
  refine lv_aload_n hx hb dX5_rate_0 rfl (lv_at hl 0 rfl) ?_
  refine lv_iconst (v := (nI 0)) hx hb dX5_rate_1 (by decide) ?_
  refine tr_p_thrown hx hb hts inB_X5 hown hK hP hD hS (hts _ mb_652) dX5_rate_2 (fun H locs hP hD hS => ?_)
  refine lv_aload_n hx hb dX5_rate_5 rfl (lv_at hl 0 rfl) ?_
  refine tr_g_rate hx hb hts inB_X5 hown hK hP (hts _ mb_657) dX5_rate_6 ?_
  refine kq_td (y := (u.2.2 2)) (by simp [tm_L, tm_I, tm_D]) ?_
  exact kq_dret hx hb hr hlk hP hD hS dX5_rate_9
end S21
