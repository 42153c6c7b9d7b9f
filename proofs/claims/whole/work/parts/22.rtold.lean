section S22
variable {l : Launch} {dC : Nat → ClassId} {dI : Nat → Nat → Nat} {gs : Nat → Nat} {ad : Nat → Nat} {cc : Nat → ClassId}
set_option maxHeartbeats 4000000 in
set_option maxRecDepth 100000 in
theorem p_told_b1 (u : tm_S) (x : Int32) (h : x < 0 ∨ ¬ x ≤ nI 4) (i : Int32) : kr_M l dC dI ad cc yX5_told wsX5_told { frames := 2, cells := 0, slots := 0, locals := 47 } [.ref (ad 0), .int x, .int i] u (tm_I u 14 0 (nI 1)) (some (.long 0)) := by
  refine kq_ofW (cc := cX5_told) (maxL := 3) (ret := (some .long)) (R0 := RX5) (by decide) rfl rfl (Nat.le_of_ble_eq_true rfl) ?_
  intro p e s m below meth c A ls hx hb hr hlk hml hown hts hP hK hD hA hG hS hl
  have hl : lv_has ls 3 [(0, .ref (ad 0)), (1, .int x), (2, .int i)] := hl
  refine lv_aload_n hx hb dX5_told_0 rfl (lv_at hl 0 rfl) ?_
  refine lv_aload_n hx hb dX5_told_1 rfl (lv_at hl 0 rfl) ?_
  refine lv_iload_n hx hb dX5_told_2 rfl (lv_at hl 1 rfl) ?_
  refine lv_iconst (v := (nI 4)) hx hb dX5_told_3 (by decide) ?_
  refine kq_cV (st1 := [.int (nI 1), .ref (ad 0)]) ⟨hx, hb, hml, hown, hts⟩ (r_out_no u h) (cwV 2 hts gX5_109_X5_out rfl rfl rfl (by decide +kernel) ⟨Nat.le_of_ble_eq_true rfl, Nat.le_of_ble_eq_true rfl⟩) kq_okT hK hP hD hA hG hS (va_recv hK hP (ci := 5) (q0 := 0) rfl (tm_at (i := 0) (by omega) rfl)) rfl hl.1 rfl rfl (Nat.le_of_ble_eq_true rfl) dX5_told_4 ⟨Nat.le_of_ble_eq_true rfl, Nat.le_of_ble_eq_true rfl⟩ (fun H locs hP hD hS => ?_)
  refine lv_if_ne (tgt := 48) hx hb dX5_told_7 (by decide) (fun _ => ?_) (fun c => absurd c (by decide))
  refine lv_iconst (v := (nI 1)) hx hb dX5_told_48 (by decide) ?_
  refine lv_goto (tgt := 53) hx hb dX5_told_49 (by decide) ?_
  refine tr_p_thrown hx hb hts inB_X5 hown hK hP hD hS (hts _ mb_652) dX5_told_53 (fun H locs hP hD hS => ?_)
  refine lv_aload_n hx hb dX5_told_56 rfl (lv_at hl 0 rfl) ?_
  refine tr_g_thrown hx hb hts inB_X5 hown hK hP (hts _ mb_652) dX5_told_57 ?_
  refine kq_ti (y := (nI 1)) (by simp [tm_L, tm_I, tm_D]) ?_
  refine lv_if_ne (tgt := 98) hx hb dX5_told_60 (by decide) (fun _ => ?_) (fun c => absurd c (by decide))
  refine lv_aload_n hx hb dX5_told_98 rfl (lv_at hl 0 rfl) ?_
  refine tr_g_thrown hx hb hts inB_X5 hown hK hP (hts _ mb_652) dX5_told_99 ?_
  refine kq_ti (y := (nI 1)) (by simp [tm_L, tm_I, tm_D]) ?_
  refine lv_if_eq (tgt := 107) hx hb dX5_told_102 (by decide) (fun c => absurd c (by decide)) (fun _ => ?_)
  refine lv_lconst (v := 0) hx hb dX5_told_105 (by decide) ?_
  exact kq_lret hx hb hr hlk hP hD hS dX5_told_106
set_option maxHeartbeats 4000000 in
set_option maxRecDepth 100000 in
theorem p_told_b2_0 (u : tm_S) (x : Int32) (h : x < 0 ∨ ¬ x ≤ nI 7)  : kr_M l dC dI ad cc yX5_told wsX5_told { frames := 2, cells := 0, slots := 0, locals := 47 } [.ref (ad 0), .int (nI 0), .int x] u (tm_I u 14 0 (nI 1)) (some (.long 0)) := by
  refine kq_ofW (cc := cX5_told) (maxL := 3) (ret := (some .long)) (R0 := RX5) (by decide) rfl rfl (Nat.le_of_ble_eq_true rfl) ?_
  intro p e s m below meth c A ls hx hb hr hlk hml hown hts hP hK hD hA hG hS hl
  have hl : lv_has ls 3 [(0, .ref (ad 0)), (1, .int (nI 0)), (2, .int x)] := hl
  refine lv_aload_n hx hb dX5_told_0 rfl (lv_at hl 0 rfl) ?_
  refine lv_aload_n hx hb dX5_told_1 rfl (lv_at hl 0 rfl) ?_
  refine lv_iload_n hx hb dX5_told_2 rfl (lv_at hl 1 rfl) ?_
  refine lv_iconst (v := (nI 4)) hx hb dX5_told_3 (by decide) ?_
  refine kq_cV (st1 := [.int (nI 0), .ref (ad 0)]) ⟨hx, hb, hml, hown, hts⟩ (r_out_in u (by omega) (by omega)) (cwV 2 hts gX5_109_X5_out rfl rfl rfl (by decide +kernel) ⟨Nat.le_of_ble_eq_true rfl, Nat.le_of_ble_eq_true rfl⟩) kq_okT hK hP hD hA hG hS (va_recv hK hP (ci := 5) (q0 := 0) rfl (tm_at (i := 0) (by omega) rfl)) rfl hl.1 rfl rfl (Nat.le_of_ble_eq_true rfl) dX5_told_4 ⟨Nat.le_of_ble_eq_true rfl, Nat.le_of_ble_eq_true rfl⟩ (fun H locs hP hD hS => ?_)
  refine lv_if_ne (tgt := 48) hx hb dX5_told_7 (by decide) (fun c => absurd (by decide) c) (fun _ => ?_)
  refine lv_aload_n hx hb dX5_told_10 rfl (lv_at hl 0 rfl) ?_
  refine lv_iload_n hx hb dX5_told_11 rfl (lv_at hl 2 rfl) ?_
  refine lv_iload_n hx hb dX5_told_12 rfl (lv_at hl 1 rfl) ?_
  refine lv_iconst (v := (nI 2)) hx hb dX5_told_13 (by decide) ?_
  refine lv_icmp_ge (tgt := 22) hx hb dX5_told_14 (by decide) (fun c => absurd c (by decide)) (fun _ => ?_)
  refine lv_bipush (v := (nI 7)) hx hb dX5_told_17 (by decide) ?_
  refine lv_goto (tgt := 42) hx hb dX5_told_19 (by decide) ?_
  refine kq_cV (st1 := [.int (nI 1), .ref (ad 0)]) ⟨hx, hb, hml, hown, hts⟩ (r_out_no u h) (cwV 2 hts gX5_109_X5_out rfl rfl rfl (by decide +kernel) ⟨Nat.le_of_ble_eq_true rfl, Nat.le_of_ble_eq_true rfl⟩) kq_okT hK hP hD hA hG hS (va_recv hK hP (ci := 5) (q0 := 0) rfl (tm_at (i := 0) (by omega) rfl)) rfl hl.1 rfl rfl (Nat.le_of_ble_eq_true rfl) dX5_told_42 ⟨Nat.le_of_ble_eq_true rfl, Nat.le_of_ble_eq_true rfl⟩ (fun H locs hP hD hS => ?_)
  refine lv_if_eq (tgt := 52) hx hb dX5_told_45 (by decide) (fun c => absurd c (by decide)) (fun _ => ?_)
  refine lv_iconst (v := (nI 1)) hx hb dX5_told_48 (by decide) ?_
  refine lv_goto (tgt := 53) hx hb dX5_told_49 (by decide) ?_
  refine tr_p_thrown hx hb hts inB_X5 hown hK hP hD hS (hts _ mb_652) dX5_told_53 (fun H locs hP hD hS => ?_)
  refine lv_aload_n hx hb dX5_told_56 rfl (lv_at hl 0 rfl) ?_
  refine tr_g_thrown hx hb hts inB_X5 hown hK hP (hts _ mb_652) dX5_told_57 ?_
  refine kq_ti (y := (nI 1)) (by simp [tm_L, tm_I, tm_D]) ?_
  refine lv_if_ne (tgt := 98) hx hb dX5_told_60 (by decide) (fun _ => ?_) (fun c => absurd c (by decide))
  refine lv_aload_n hx hb dX5_told_98 rfl (lv_at hl 0 rfl) ?_
  refine tr_g_thrown hx hb hts inB_X5 hown hK hP (hts _ mb_652) dX5_told_99 ?_
  refine kq_ti (y := (nI 1)) (by simp [tm_L, tm_I, tm_D]) ?_
  refine lv_if_eq (tgt := 107) hx hb dX5_told_102 (by decide) (fun c => absurd c (by decide)) (fun _ => ?_)
  refine lv_lconst (v := 0) hx hb dX5_told_105 (by decide) ?_
  exact kq_lret hx hb hr hlk hP hD hS dX5_told_106
set_option maxHeartbeats 4000000 in
set_option maxRecDepth 100000 in
theorem p_told_0 (u : tm_S) {j : Nat} (hj : j < 8)  : kr_M l dC dI ad cc yX5_told wsX5_told { frames := 2, cells := 0, slots := 0, locals := 47 } [.ref (ad 0), .int (nI 0), .int (nI j)] u (tm_I u 14 0 (nI 0)) (some (.long (u.1 1 (0 + j)))) := by
  refine kq_ofW (cc := cX5_told) (maxL := 3) (ret := (some .long)) (R0 := RX5) (by decide) rfl rfl (Nat.le_of_ble_eq_true rfl) ?_
  intro p e s m below meth c A ls hx hb hr hlk hml hown hts hP hK hD hA hG hS hl
  have hl : lv_has ls 3 [(0, .ref (ad 0)), (1, .int (nI 0)), (2, .int (nI j))] := hl
  refine lv_aload_n hx hb dX5_told_0 rfl (lv_at hl 0 rfl) ?_
  refine lv_aload_n hx hb dX5_told_1 rfl (lv_at hl 0 rfl) ?_
  refine lv_iload_n hx hb dX5_told_2 rfl (lv_at hl 1 rfl) ?_
  refine lv_iconst (v := (nI 4)) hx hb dX5_told_3 (by decide) ?_
  refine kq_cV (st1 := [.int (nI 0), .ref (ad 0)]) ⟨hx, hb, hml, hown, hts⟩ (r_out_in u (by omega) (by omega)) (cwV 2 hts gX5_109_X5_out rfl rfl rfl (by decide +kernel) ⟨Nat.le_of_ble_eq_true rfl, Nat.le_of_ble_eq_true rfl⟩) kq_okT hK hP hD hA hG hS (va_recv hK hP (ci := 5) (q0 := 0) rfl (tm_at (i := 0) (by omega) rfl)) rfl hl.1 rfl rfl (Nat.le_of_ble_eq_true rfl) dX5_told_4 ⟨Nat.le_of_ble_eq_true rfl, Nat.le_of_ble_eq_true rfl⟩ (fun H locs hP hD hS => ?_)
  refine lv_if_ne (tgt := 48) hx hb dX5_told_7 (by decide) (fun c => absurd (by decide) c) (fun _ => ?_)
  refine lv_aload_n hx hb dX5_told_10 rfl (lv_at hl 0 rfl) ?_
  refine lv_iload_n hx hb dX5_told_11 rfl (lv_at hl 2 rfl) ?_
  refine lv_iload_n hx hb dX5_told_12 rfl (lv_at hl 1 rfl) ?_
  refine lv_iconst (v := (nI 2)) hx hb dX5_told_13 (by decide) ?_
  refine lv_icmp_ge (tgt := 22) hx hb dX5_told_14 (by decide) (fun c => absurd c (by decide)) (fun _ => ?_)
  refine lv_bipush (v := (nI 7)) hx hb dX5_told_17 (by decide) ?_
  refine lv_goto (tgt := 42) hx hb dX5_told_19 (by decide) ?_
  refine kq_cV (st1 := [.int (nI 0), .ref (ad 0)]) ⟨hx, hb, hml, hown, hts⟩ (r_out_in u (by omega) (by omega)) (cwV 2 hts gX5_109_X5_out rfl rfl rfl (by decide +kernel) ⟨Nat.le_of_ble_eq_true rfl, Nat.le_of_ble_eq_true rfl⟩) kq_okT hK hP hD hA hG hS (va_recv hK hP (ci := 5) (q0 := 0) rfl (tm_at (i := 0) (by omega) rfl)) rfl hl.1 rfl rfl (Nat.le_of_ble_eq_true rfl) dX5_told_42 ⟨Nat.le_of_ble_eq_true rfl, Nat.le_of_ble_eq_true rfl⟩ (fun H locs hP hD hS => ?_)
  refine lv_if_eq (tgt := 52) hx hb dX5_told_45 (by decide) (fun _ => ?_) (fun c => absurd (by decide) c)
  refine lv_iconst (v := (nI 0)) hx hb dX5_told_52 (by decide) ?_
  refine tr_p_thrown hx hb hts inB_X5 hown hK hP hD hS (hts _ mb_652) dX5_told_53 (fun H locs hP hD hS => ?_)
  refine lv_aload_n hx hb dX5_told_56 rfl (lv_at hl 0 rfl) ?_
  refine tr_g_thrown hx hb hts inB_X5 hown hK hP (hts _ mb_652) dX5_told_57 ?_
  refine kq_ti (y := (nI 0)) (by simp [tm_L, tm_I, tm_D]) ?_
  refine lv_if_ne (tgt := 98) hx hb dX5_told_60 (by decide) (fun c => absurd (by decide) c) (fun _ => ?_)
  refine lv_iload_n hx hb dX5_told_63 rfl (lv_at hl 1 rfl) ?_
  refine lv_iconst (v := (nI 2)) hx hb dX5_told_64 (by decide) ?_
  refine lv_icmp_ne (tgt := 77) hx hb dX5_told_65 (by decide) (fun _ => ?_) (fun c => absurd c (by decide))
  refine lv_iload_n hx hb dX5_told_77 rfl (lv_at hl 1 rfl) ?_
  refine lv_iconst (v := (nI 3)) hx hb dX5_told_78 (by decide) ?_
  refine lv_icmp_ne (tgt := 98) hx hb dX5_told_79 (by decide) (fun _ => ?_) (fun c => absurd c (by decide))
  refine lv_aload_n hx hb dX5_told_98 rfl (lv_at hl 0 rfl) ?_
  refine tr_g_thrown hx hb hts inB_X5 hown hK hP (hts _ mb_652) dX5_told_99 ?_
  refine kq_ti (y := (nI 0)) (by simp [tm_L, tm_I, tm_D]) ?_
  refine lv_if_eq (tgt := 107) hx hb dX5_told_102 (by decide) (fun _ => ?_) (fun c => absurd (by decide) c)
  refine lv_iload_n hx hb dX5_told_107 rfl (lv_at hl 1 rfl) ?_
  refine lv_iconst (v := (nI 2)) hx hb dX5_told_108 (by decide) ?_
  refine lv_icmp_ge (tgt := 124) hx hb dX5_told_109 (by decide) (fun c => absurd c (by decide)) (fun _ => ?_)
  refine lv_aload_n hx hb dX5_told_112 rfl (lv_at hl 0 rfl) ?_
  refine tr_g_pcr hx hb hts inB_X5 hown hK hP (hts _ mb_631) dX5_told_113 ?_
  refine lv_iload_n hx hb dX5_told_116 rfl (lv_at hl 1 rfl) ?_
  refine lv_bipush (v := (nI 8)) hx hb dX5_told_117 (by decide) ?_
  refine lv_imul hx hb dX5_told_119 ?_
  refine kq_ti (y := (nI 0)) (by decide) ?_
  refine lv_iload_n hx hb dX5_told_120 rfl (lv_at hl 2 rfl) ?_
  refine lv_iadd hx hb dX5_told_121 ?_
  refine kq_ti (y := (nI (0 + j))) (nI_add 0 j) ?_
  refine tr_l_pcr hx hb hK hP (by omega) dX5_told_122 ?_
  refine kq_tl (y := (u.1 1 (0 + j))) (by simp [tm_L, tm_I, tm_D]) ?_
  exact kq_lret hx hb hr hlk hP hD hS dX5_told_123
set_option maxHeartbeats 4000000 in
set_option maxRecDepth 100000 in
theorem p_told_b2_1 (u : tm_S) (x : Int32) (h : x < 0 ∨ ¬ x ≤ nI 7)  : kr_M l dC dI ad cc yX5_told wsX5_told { frames := 2, cells := 0, slots := 0, locals := 47 } [.ref (ad 0), .int (nI 1), .int x] u (tm_I u 14 0 (nI 1)) (some (.long 0)) := by
  refine kq_ofW (cc := cX5_told) (maxL := 3) (ret := (some .long)) (R0 := RX5) (by decide) rfl rfl (Nat.le_of_ble_eq_true rfl) ?_
  intro p e s m below meth c A ls hx hb hr hlk hml hown hts hP hK hD hA hG hS hl
  have hl : lv_has ls 3 [(0, .ref (ad 0)), (1, .int (nI 1)), (2, .int x)] := hl
  refine lv_aload_n hx hb dX5_told_0 rfl (lv_at hl 0 rfl) ?_
  refine lv_aload_n hx hb dX5_told_1 rfl (lv_at hl 0 rfl) ?_
  refine lv_iload_n hx hb dX5_told_2 rfl (lv_at hl 1 rfl) ?_
  refine lv_iconst (v := (nI 4)) hx hb dX5_told_3 (by decide) ?_
  refine kq_cV (st1 := [.int (nI 0), .ref (ad 0)]) ⟨hx, hb, hml, hown, hts⟩ (r_out_in u (by omega) (by omega)) (cwV 2 hts gX5_109_X5_out rfl rfl rfl (by decide +kernel) ⟨Nat.le_of_ble_eq_true rfl, Nat.le_of_ble_eq_true rfl⟩) kq_okT hK hP hD hA hG hS (va_recv hK hP (ci := 5) (q0 := 0) rfl (tm_at (i := 0) (by omega) rfl)) rfl hl.1 rfl rfl (Nat.le_of_ble_eq_true rfl) dX5_told_4 ⟨Nat.le_of_ble_eq_true rfl, Nat.le_of_ble_eq_true rfl⟩ (fun H locs hP hD hS => ?_)
  refine lv_if_ne (tgt := 48) hx hb dX5_told_7 (by decide) (fun c => absurd (by decide) c) (fun _ => ?_)
  refine lv_aload_n hx hb dX5_told_10 rfl (lv_at hl 0 rfl) ?_
  refine lv_iload_n hx hb dX5_told_11 rfl (lv_at hl 2 rfl) ?_
  refine lv_iload_n hx hb dX5_told_12 rfl (lv_at hl 1 rfl) ?_
  refine lv_iconst (v := (nI 2)) hx hb dX5_told_13 (by decide) ?_
  refine lv_icmp_ge (tgt := 22) hx hb dX5_told_14 (by decide) (fun c => absurd c (by decide)) (fun _ => ?_)
  refine lv_bipush (v := (nI 7)) hx hb dX5_told_17 (by decide) ?_
  refine lv_goto (tgt := 42) hx hb dX5_told_19 (by decide) ?_
  refine kq_cV (st1 := [.int (nI 1), .ref (ad 0)]) ⟨hx, hb, hml, hown, hts⟩ (r_out_no u h) (cwV 2 hts gX5_109_X5_out rfl rfl rfl (by decide +kernel) ⟨Nat.le_of_ble_eq_true rfl, Nat.le_of_ble_eq_true rfl⟩) kq_okT hK hP hD hA hG hS (va_recv hK hP (ci := 5) (q0 := 0) rfl (tm_at (i := 0) (by omega) rfl)) rfl hl.1 rfl rfl (Nat.le_of_ble_eq_true rfl) dX5_told_42 ⟨Nat.le_of_ble_eq_true rfl, Nat.le_of_ble_eq_true rfl⟩ (fun H locs hP hD hS => ?_)
  refine lv_if_eq (tgt := 52) hx hb dX5_told_45 (by decide) (fun c => absurd c (by decide)) (fun _ => ?_)
  refine lv_iconst (v := (nI 1)) hx hb dX5_told_48 (by decide) ?_
  refine lv_goto (tgt := 53) hx hb dX5_told_49 (by decide) ?_
  refine tr_p_thrown hx hb hts inB_X5 hown hK hP hD hS (hts _ mb_652) dX5_told_53 (fun H locs hP hD hS => ?_)
  refine lv_aload_n hx hb dX5_told_56 rfl (lv_at hl 0 rfl) ?_
  refine tr_g_thrown hx hb hts inB_X5 hown hK hP (hts _ mb_652) dX5_told_57 ?_
  refine kq_ti (y := (nI 1)) (by simp [tm_L, tm_I, tm_D]) ?_
  refine lv_if_ne (tgt := 98) hx hb dX5_told_60 (by decide) (fun _ => ?_) (fun c => absurd c (by decide))
  refine lv_aload_n hx hb dX5_told_98 rfl (lv_at hl 0 rfl) ?_
  refine tr_g_thrown hx hb hts inB_X5 hown hK hP (hts _ mb_652) dX5_told_99 ?_
  refine kq_ti (y := (nI 1)) (by simp [tm_L, tm_I, tm_D]) ?_
  refine lv_if_eq (tgt := 107) hx hb dX5_told_102 (by decide) (fun c => absurd c (by decide)) (fun _ => ?_)
  refine lv_lconst (v := 0) hx hb dX5_told_105 (by decide) ?_
  exact kq_lret hx hb hr hlk hP hD hS dX5_told_106
set_option maxHeartbeats 4000000 in
set_option maxRecDepth 100000 in
theorem p_told_1 (u : tm_S) {j : Nat} (hj : j < 8)  : kr_M l dC dI ad cc yX5_told wsX5_told { frames := 2, cells := 0, slots := 0, locals := 47 } [.ref (ad 0), .int (nI 1), .int (nI j)] u (tm_I u 14 0 (nI 0)) (some (.long (u.1 1 (8 + j)))) := by
  refine kq_ofW (cc := cX5_told) (maxL := 3) (ret := (some .long)) (R0 := RX5) (by decide) rfl rfl (Nat.le_of_ble_eq_true rfl) ?_
  intro p e s m below meth c A ls hx hb hr hlk hml hown hts hP hK hD hA hG hS hl
  have hl : lv_has ls 3 [(0, .ref (ad 0)), (1, .int (nI 1)), (2, .int (nI j))] := hl
  refine lv_aload_n hx hb dX5_told_0 rfl (lv_at hl 0 rfl) ?_
  refine lv_aload_n hx hb dX5_told_1 rfl (lv_at hl 0 rfl) ?_
  refine lv_iload_n hx hb dX5_told_2 rfl (lv_at hl 1 rfl) ?_
  refine lv_iconst (v := (nI 4)) hx hb dX5_told_3 (by decide) ?_
  refine kq_cV (st1 := [.int (nI 0), .ref (ad 0)]) ⟨hx, hb, hml, hown, hts⟩ (r_out_in u (by omega) (by omega)) (cwV 2 hts gX5_109_X5_out rfl rfl rfl (by decide +kernel) ⟨Nat.le_of_ble_eq_true rfl, Nat.le_of_ble_eq_true rfl⟩) kq_okT hK hP hD hA hG hS (va_recv hK hP (ci := 5) (q0 := 0) rfl (tm_at (i := 0) (by omega) rfl)) rfl hl.1 rfl rfl (Nat.le_of_ble_eq_true rfl) dX5_told_4 ⟨Nat.le_of_ble_eq_true rfl, Nat.le_of_ble_eq_true rfl⟩ (fun H locs hP hD hS => ?_)
  refine lv_if_ne (tgt := 48) hx hb dX5_told_7 (by decide) (fun c => absurd (by decide) c) (fun _ => ?_)
  refine lv_aload_n hx hb dX5_told_10 rfl (lv_at hl 0 rfl) ?_
  refine lv_iload_n hx hb dX5_told_11 rfl (lv_at hl 2 rfl) ?_
  refine lv_iload_n hx hb dX5_told_12 rfl (lv_at hl 1 rfl) ?_
  refine lv_iconst (v := (nI 2)) hx hb dX5_told_13 (by decide) ?_
  refine lv_icmp_ge (tgt := 22) hx hb dX5_told_14 (by decide) (fun c => absurd c (by decide)) (fun _ => ?_)
  refine lv_bipush (v := (nI 7)) hx hb dX5_told_17 (by decide) ?_
  refine lv_goto (tgt := 42) hx hb dX5_told_19 (by decide) ?_
  refine kq_cV (st1 := [.int (nI 0), .ref (ad 0)]) ⟨hx, hb, hml, hown, hts⟩ (r_out_in u (by omega) (by omega)) (cwV 2 hts gX5_109_X5_out rfl rfl rfl (by decide +kernel) ⟨Nat.le_of_ble_eq_true rfl, Nat.le_of_ble_eq_true rfl⟩) kq_okT hK hP hD hA hG hS (va_recv hK hP (ci := 5) (q0 := 0) rfl (tm_at (i := 0) (by omega) rfl)) rfl hl.1 rfl rfl (Nat.le_of_ble_eq_true rfl) dX5_told_42 ⟨Nat.le_of_ble_eq_true rfl, Nat.le_of_ble_eq_true rfl⟩ (fun H locs hP hD hS => ?_)
  refine lv_if_eq (tgt := 52) hx hb dX5_told_45 (by decide) (fun _ => ?_) (fun c => absurd (by decide) c)
  refine lv_iconst (v := (nI 0)) hx hb dX5_told_52 (by decide) ?_
  refine tr_p_thrown hx hb hts inB_X5 hown hK hP hD hS (hts _ mb_652) dX5_told_53 (fun H locs hP hD hS => ?_)
  refine lv_aload_n hx hb dX5_told_56 rfl (lv_at hl 0 rfl) ?_
  refine tr_g_thrown hx hb hts inB_X5 hown hK hP (hts _ mb_652) dX5_told_57 ?_
  refine kq_ti (y := (nI 0)) (by simp [tm_L, tm_I, tm_D]) ?_
  refine lv_if_ne (tgt := 98) hx hb dX5_told_60 (by decide) (fun c => absurd (by decide) c) (fun _ => ?_)
  refine lv_iload_n hx hb dX5_told_63 rfl (lv_at hl 1 rfl) ?_
  refine lv_iconst (v := (nI 2)) hx hb dX5_told_64 (by decide) ?_
  refine lv_icmp_ne (tgt := 77) hx hb dX5_told_65 (by decide) (fun _ => ?_) (fun c => absurd c (by decide))
  refine lv_iload_n hx hb dX5_told_77 rfl (lv_at hl 1 rfl) ?_
  refine lv_iconst (v := (nI 3)) hx hb dX5_told_78 (by decide) ?_
  refine lv_icmp_ne (tgt := 98) hx hb dX5_told_79 (by decide) (fun _ => ?_) (fun c => absurd c (by decide))
  refine lv_aload_n hx hb dX5_told_98 rfl (lv_at hl 0 rfl) ?_
  refine tr_g_thrown hx hb hts inB_X5 hown hK hP (hts _ mb_652) dX5_told_99 ?_
  refine kq_ti (y := (nI 0)) (by simp [tm_L, tm_I, tm_D]) ?_
  refine lv_if_eq (tgt := 107) hx hb dX5_told_102 (by decide) (fun _ => ?_) (fun c => absurd (by decide) c)
  refine lv_iload_n hx hb dX5_told_107 rfl (lv_at hl 1 rfl) ?_
  refine lv_iconst (v := (nI 2)) hx hb dX5_told_108 (by decide) ?_
  refine lv_icmp_ge (tgt := 124) hx hb dX5_told_109 (by decide) (fun c => absurd c (by decide)) (fun _ => ?_)
  refine lv_aload_n hx hb dX5_told_112 rfl (lv_at hl 0 rfl) ?_
  refine tr_g_pcr hx hb hts inB_X5 hown hK hP (hts _ mb_631) dX5_told_113 ?_
  refine lv_iload_n hx hb dX5_told_116 rfl (lv_at hl 1 rfl) ?_
  refine lv_bipush (v := (nI 8)) hx hb dX5_told_117 (by decide) ?_
  refine lv_imul hx hb dX5_told_119 ?_
  refine kq_ti (y := (nI 8)) (by decide) ?_
  refine lv_iload_n hx hb dX5_told_120 rfl (lv_at hl 2 rfl) ?_
  refine lv_iadd hx hb dX5_told_121 ?_
  refine kq_ti (y := (nI (8 + j))) (nI_add 8 j) ?_
  refine tr_l_pcr hx hb hK hP (by omega) dX5_told_122 ?_
  refine kq_tl (y := (u.1 1 (8 + j))) (by simp [tm_L, tm_I, tm_D]) ?_
  exact kq_lret hx hb hr hlk hP hD hS dX5_told_123
set_option maxHeartbeats 4000000 in
set_option maxRecDepth 100000 in
theorem p_told_b2_2 (u : tm_S) (x : Int32) (h : x < 0 ∨ ¬ x ≤ nI 3)  : kr_M l dC dI ad cc yX5_told wsX5_told { frames := 2, cells := 0, slots := 0, locals := 47 } [.ref (ad 0), .int (nI 2), .int x] u (tm_I u 14 0 (nI 1)) (some (.long 0)) := by
  refine kq_ofW (cc := cX5_told) (maxL := 3) (ret := (some .long)) (R0 := RX5) (by decide) rfl rfl (Nat.le_of_ble_eq_true rfl) ?_
  intro p e s m below meth c A ls hx hb hr hlk hml hown hts hP hK hD hA hG hS hl
  have hl : lv_has ls 3 [(0, .ref (ad 0)), (1, .int (nI 2)), (2, .int x)] := hl
  refine lv_aload_n hx hb dX5_told_0 rfl (lv_at hl 0 rfl) ?_
  refine lv_aload_n hx hb dX5_told_1 rfl (lv_at hl 0 rfl) ?_
  refine lv_iload_n hx hb dX5_told_2 rfl (lv_at hl 1 rfl) ?_
  refine lv_iconst (v := (nI 4)) hx hb dX5_told_3 (by decide) ?_
  refine kq_cV (st1 := [.int (nI 0), .ref (ad 0)]) ⟨hx, hb, hml, hown, hts⟩ (r_out_in u (by omega) (by omega)) (cwV 2 hts gX5_109_X5_out rfl rfl rfl (by decide +kernel) ⟨Nat.le_of_ble_eq_true rfl, Nat.le_of_ble_eq_true rfl⟩) kq_okT hK hP hD hA hG hS (va_recv hK hP (ci := 5) (q0 := 0) rfl (tm_at (i := 0) (by omega) rfl)) rfl hl.1 rfl rfl (Nat.le_of_ble_eq_true rfl) dX5_told_4 ⟨Nat.le_of_ble_eq_true rfl, Nat.le_of_ble_eq_true rfl⟩ (fun H locs hP hD hS => ?_)
  refine lv_if_ne (tgt := 48) hx hb dX5_told_7 (by decide) (fun c => absurd (by decide) c) (fun _ => ?_)
  refine lv_aload_n hx hb dX5_told_10 rfl (lv_at hl 0 rfl) ?_
  refine lv_iload_n hx hb dX5_told_11 rfl (lv_at hl 2 rfl) ?_
  refine lv_iload_n hx hb dX5_told_12 rfl (lv_at hl 1 rfl) ?_
  refine lv_iconst (v := (nI 2)) hx hb dX5_told_13 (by decide) ?_
  refine lv_icmp_ge (tgt := 22) hx hb dX5_told_14 (by decide) (fun _ => ?_) (fun c => absurd (by decide) c)
  refine lv_iload_n hx hb dX5_told_22 rfl (lv_at hl 1 rfl) ?_
  refine lv_iconst (v := (nI 2)) hx hb dX5_told_23 (by decide) ?_
  refine lv_icmp_ne (tgt := 31) hx hb dX5_told_24 (by decide) (fun c => absurd (by decide) c) (fun _ => ?_)
  refine lv_iconst (v := (nI 3)) hx hb dX5_told_27 (by decide) ?_
  refine lv_goto (tgt := 42) hx hb dX5_told_28 (by decide) ?_
  refine kq_cV (st1 := [.int (nI 1), .ref (ad 0)]) ⟨hx, hb, hml, hown, hts⟩ (r_out_no u h) (cwV 2 hts gX5_109_X5_out rfl rfl rfl (by decide +kernel) ⟨Nat.le_of_ble_eq_true rfl, Nat.le_of_ble_eq_true rfl⟩) kq_okT hK hP hD hA hG hS (va_recv hK hP (ci := 5) (q0 := 0) rfl (tm_at (i := 0) (by omega) rfl)) rfl hl.1 rfl rfl (Nat.le_of_ble_eq_true rfl) dX5_told_42 ⟨Nat.le_of_ble_eq_true rfl, Nat.le_of_ble_eq_true rfl⟩ (fun H locs hP hD hS => ?_)
  refine lv_if_eq (tgt := 52) hx hb dX5_told_45 (by decide) (fun c => absurd c (by decide)) (fun _ => ?_)
  refine lv_iconst (v := (nI 1)) hx hb dX5_told_48 (by decide) ?_
  refine lv_goto (tgt := 53) hx hb dX5_told_49 (by decide) ?_
  refine tr_p_thrown hx hb hts inB_X5 hown hK hP hD hS (hts _ mb_652) dX5_told_53 (fun H locs hP hD hS => ?_)
  refine lv_aload_n hx hb dX5_told_56 rfl (lv_at hl 0 rfl) ?_
  refine tr_g_thrown hx hb hts inB_X5 hown hK hP (hts _ mb_652) dX5_told_57 ?_
  refine kq_ti (y := (nI 1)) (by simp [tm_L, tm_I, tm_D]) ?_
  refine lv_if_ne (tgt := 98) hx hb dX5_told_60 (by decide) (fun _ => ?_) (fun c => absurd c (by decide))
  refine lv_aload_n hx hb dX5_told_98 rfl (lv_at hl 0 rfl) ?_
  refine tr_g_thrown hx hb hts inB_X5 hown hK hP (hts _ mb_652) dX5_told_99 ?_
  refine kq_ti (y := (nI 1)) (by simp [tm_L, tm_I, tm_D]) ?_
  refine lv_if_eq (tgt := 107) hx hb dX5_told_102 (by decide) (fun c => absurd c (by decide)) (fun _ => ?_)
  refine lv_lconst (v := 0) hx hb dX5_told_105 (by decide) ?_
  exact kq_lret hx hb hr hlk hP hD hS dX5_told_106
set_option maxHeartbeats 4000000 in
set_option maxRecDepth 100000 in
theorem p_told_free (u : tm_S) {j : Nat} (hj : j < 4) (hh : u.2.1 0 j = 0) : kr_M l dC dI ad cc yX5_told wsX5_told { frames := 2, cells := 0, slots := 0, locals := 47 } [.ref (ad 0), .int (nI 2), .int (nI j)] u (tm_I (tm_I u 14 0 (nI 0)) 14 0 (nI 2)) (some (.long 0)) := by
  refine kq_ofW (cc := cX5_told) (maxL := 3) (ret := (some .long)) (R0 := RX5) (by decide) rfl rfl (Nat.le_of_ble_eq_true rfl) ?_
  intro p e s m below meth c A ls hx hb hr hlk hml hown hts hP hK hD hA hG hS hl
  have hl : lv_has ls 3 [(0, .ref (ad 0)), (1, .int (nI 2)), (2, .int (nI j))] := hl
  refine lv_aload_n hx hb dX5_told_0 rfl (lv_at hl 0 rfl) ?_
  refine lv_aload_n hx hb dX5_told_1 rfl (lv_at hl 0 rfl) ?_
  refine lv_iload_n hx hb dX5_told_2 rfl (lv_at hl 1 rfl) ?_
  refine lv_iconst (v := (nI 4)) hx hb dX5_told_3 (by decide) ?_
  refine kq_cV (st1 := [.int (nI 0), .ref (ad 0)]) ⟨hx, hb, hml, hown, hts⟩ (r_out_in u (by omega) (by omega)) (cwV 2 hts gX5_109_X5_out rfl rfl rfl (by decide +kernel) ⟨Nat.le_of_ble_eq_true rfl, Nat.le_of_ble_eq_true rfl⟩) kq_okT hK hP hD hA hG hS (va_recv hK hP (ci := 5) (q0 := 0) rfl (tm_at (i := 0) (by omega) rfl)) rfl hl.1 rfl rfl (Nat.le_of_ble_eq_true rfl) dX5_told_4 ⟨Nat.le_of_ble_eq_true rfl, Nat.le_of_ble_eq_true rfl⟩ (fun H locs hP hD hS => ?_)
  refine lv_if_ne (tgt := 48) hx hb dX5_told_7 (by decide) (fun c => absurd (by decide) c) (fun _ => ?_)
  refine lv_aload_n hx hb dX5_told_10 rfl (lv_at hl 0 rfl) ?_
  refine lv_iload_n hx hb dX5_told_11 rfl (lv_at hl 2 rfl) ?_
  refine lv_iload_n hx hb dX5_told_12 rfl (lv_at hl 1 rfl) ?_
  refine lv_iconst (v := (nI 2)) hx hb dX5_told_13 (by decide) ?_
  refine lv_icmp_ge (tgt := 22) hx hb dX5_told_14 (by decide) (fun _ => ?_) (fun c => absurd (by decide) c)
  refine lv_iload_n hx hb dX5_told_22 rfl (lv_at hl 1 rfl) ?_
  refine lv_iconst (v := (nI 2)) hx hb dX5_told_23 (by decide) ?_
  refine lv_icmp_ne (tgt := 31) hx hb dX5_told_24 (by decide) (fun c => absurd (by decide) c) (fun _ => ?_)
  refine lv_iconst (v := (nI 3)) hx hb dX5_told_27 (by decide) ?_
  refine lv_goto (tgt := 42) hx hb dX5_told_28 (by decide) ?_
  refine kq_cV (st1 := [.int (nI 0), .ref (ad 0)]) ⟨hx, hb, hml, hown, hts⟩ (r_out_in u (by omega) (by omega)) (cwV 2 hts gX5_109_X5_out rfl rfl rfl (by decide +kernel) ⟨Nat.le_of_ble_eq_true rfl, Nat.le_of_ble_eq_true rfl⟩) kq_okT hK hP hD hA hG hS (va_recv hK hP (ci := 5) (q0 := 0) rfl (tm_at (i := 0) (by omega) rfl)) rfl hl.1 rfl rfl (Nat.le_of_ble_eq_true rfl) dX5_told_42 ⟨Nat.le_of_ble_eq_true rfl, Nat.le_of_ble_eq_true rfl⟩ (fun H locs hP hD hS => ?_)
  refine lv_if_eq (tgt := 52) hx hb dX5_told_45 (by decide) (fun _ => ?_) (fun c => absurd (by decide) c)
  refine lv_iconst (v := (nI 0)) hx hb dX5_told_52 (by decide) ?_
  refine tr_p_thrown hx hb hts inB_X5 hown hK hP hD hS (hts _ mb_652) dX5_told_53 (fun H locs hP hD hS => ?_)
  refine lv_aload_n hx hb dX5_told_56 rfl (lv_at hl 0 rfl) ?_
  refine tr_g_thrown hx hb hts inB_X5 hown hK hP (hts _ mb_652) dX5_told_57 ?_
  refine kq_ti (y := (nI 0)) (by simp [tm_L, tm_I, tm_D]) ?_
  refine lv_if_ne (tgt := 98) hx hb dX5_told_60 (by decide) (fun c => absurd (by decide) c) (fun _ => ?_)
  refine lv_iload_n hx hb dX5_told_63 rfl (lv_at hl 1 rfl) ?_
  refine lv_iconst (v := (nI 2)) hx hb dX5_told_64 (by decide) ?_
  refine lv_icmp_ne (tgt := 77) hx hb dX5_told_65 (by decide) (fun c => absurd (by decide) c) (fun _ => ?_)
  refine lv_aload_n hx hb dX5_told_68 rfl (lv_at hl 0 rfl) ?_
  refine tr_g_used hx hb hts inB_X5 hown hK hP (hts _ mb_641) dX5_told_69 ?_
  refine lv_iload_n hx hb dX5_told_72 rfl (lv_at hl 2 rfl) ?_
  refine tr_l_used hx hb hK hP (by omega) dX5_told_73 ?_
  refine kq_ti (y := (u.2.1 0 j)) (by simp [tm_L, tm_I, tm_D]) ?_
  refine lv_if_eq (tgt := 93) hx hb dX5_told_74 (by decide) (fun _ => ?_) (fun c => absurd hh c)
  refine lv_aload_n hx hb dX5_told_93 rfl (lv_at hl 0 rfl) ?_
  refine lv_iconst (v := (nI 2)) hx hb dX5_told_94 (by decide) ?_
  refine tr_p_thrown hx hb hts inB_X5 hown hK hP hD hS (hts _ mb_652) dX5_told_95 (fun H locs hP hD hS => ?_)
  refine lv_aload_n hx hb dX5_told_98 rfl (lv_at hl 0 rfl) ?_
  refine tr_g_thrown hx hb hts inB_X5 hown hK hP (hts _ mb_652) dX5_told_99 ?_
  refine kq_ti (y := (nI 2)) (by simp [tm_L, tm_I, tm_D]) ?_
  refine lv_if_eq (tgt := 107) hx hb dX5_told_102 (by decide) (fun c => absurd c (by decide)) (fun _ => ?_)
  refine lv_lconst (v := 0) hx hb dX5_told_105 (by decide) ?_
  exact kq_lret hx hb hr hlk hP hD hS dX5_told_106
set_option maxHeartbeats 4000000 in
set_option maxRecDepth 100000 in
theorem p_told_2 (u : tm_S) {j : Nat} (hj : j < 4) (hh : ¬ u.2.1 0 j = 0) : kr_M l dC dI ad cc yX5_told wsX5_told { frames := 2, cells := 0, slots := 0, locals := 47 } [.ref (ad 0), .int (nI 2), .int (nI j)] u (tm_I u 14 0 (nI 0)) (some (.long (tm_h (tm_h ((tm_I u 14 0 (nI 0)).1 2 j) (((tm_I u 14 0 (nI 0)).2.1 1 j).toInt64)) (tm_h ((tm_I u 14 0 (nI 0)).1 3 j) ((tm_I u 14 0 (nI 0)).1 4 j))))) := by
  refine kq_ofW (cc := cX5_told) (maxL := 3) (ret := (some .long)) (R0 := RX5) (by decide) rfl rfl (Nat.le_of_ble_eq_true rfl) ?_
  intro p e s m below meth c A ls hx hb hr hlk hml hown hts hP hK hD hA hG hS hl
  have hl : lv_has ls 3 [(0, .ref (ad 0)), (1, .int (nI 2)), (2, .int (nI j))] := hl
  refine lv_aload_n hx hb dX5_told_0 rfl (lv_at hl 0 rfl) ?_
  refine lv_aload_n hx hb dX5_told_1 rfl (lv_at hl 0 rfl) ?_
  refine lv_iload_n hx hb dX5_told_2 rfl (lv_at hl 1 rfl) ?_
  refine lv_iconst (v := (nI 4)) hx hb dX5_told_3 (by decide) ?_
  refine kq_cV (st1 := [.int (nI 0), .ref (ad 0)]) ⟨hx, hb, hml, hown, hts⟩ (r_out_in u (by omega) (by omega)) (cwV 2 hts gX5_109_X5_out rfl rfl rfl (by decide +kernel) ⟨Nat.le_of_ble_eq_true rfl, Nat.le_of_ble_eq_true rfl⟩) kq_okT hK hP hD hA hG hS (va_recv hK hP (ci := 5) (q0 := 0) rfl (tm_at (i := 0) (by omega) rfl)) rfl hl.1 rfl rfl (Nat.le_of_ble_eq_true rfl) dX5_told_4 ⟨Nat.le_of_ble_eq_true rfl, Nat.le_of_ble_eq_true rfl⟩ (fun H locs hP hD hS => ?_)
  refine lv_if_ne (tgt := 48) hx hb dX5_told_7 (by decide) (fun c => absurd (by decide) c) (fun _ => ?_)
  refine lv_aload_n hx hb dX5_told_10 rfl (lv_at hl 0 rfl) ?_
  refine lv_iload_n hx hb dX5_told_11 rfl (lv_at hl 2 rfl) ?_
  refine lv_iload_n hx hb dX5_told_12 rfl (lv_at hl 1 rfl) ?_
  refine lv_iconst (v := (nI 2)) hx hb dX5_told_13 (by decide) ?_
  refine lv_icmp_ge (tgt := 22) hx hb dX5_told_14 (by decide) (fun _ => ?_) (fun c => absurd (by decide) c)
  refine lv_iload_n hx hb dX5_told_22 rfl (lv_at hl 1 rfl) ?_
  refine lv_iconst (v := (nI 2)) hx hb dX5_told_23 (by decide) ?_
  refine lv_icmp_ne (tgt := 31) hx hb dX5_told_24 (by decide) (fun c => absurd (by decide) c) (fun _ => ?_)
  refine lv_iconst (v := (nI 3)) hx hb dX5_told_27 (by decide) ?_
  refine lv_goto (tgt := 42) hx hb dX5_told_28 (by decide) ?_
  refine kq_cV (st1 := [.int (nI 0), .ref (ad 0)]) ⟨hx, hb, hml, hown, hts⟩ (r_out_in u (by omega) (by omega)) (cwV 2 hts gX5_109_X5_out rfl rfl rfl (by decide +kernel) ⟨Nat.le_of_ble_eq_true rfl, Nat.le_of_ble_eq_true rfl⟩) kq_okT hK hP hD hA hG hS (va_recv hK hP (ci := 5) (q0 := 0) rfl (tm_at (i := 0) (by omega) rfl)) rfl hl.1 rfl rfl (Nat.le_of_ble_eq_true rfl) dX5_told_42 ⟨Nat.le_of_ble_eq_true rfl, Nat.le_of_ble_eq_true rfl⟩ (fun H locs hP hD hS => ?_)
  refine lv_if_eq (tgt := 52) hx hb dX5_told_45 (by decide) (fun _ => ?_) (fun c => absurd (by decide) c)
  refine lv_iconst (v := (nI 0)) hx hb dX5_told_52 (by decide) ?_
  refine tr_p_thrown hx hb hts inB_X5 hown hK hP hD hS (hts _ mb_652) dX5_told_53 (fun H locs hP hD hS => ?_)
  refine lv_aload_n hx hb dX5_told_56 rfl (lv_at hl 0 rfl) ?_
  refine tr_g_thrown hx hb hts inB_X5 hown hK hP (hts _ mb_652) dX5_told_57 ?_
  refine kq_ti (y := (nI 0)) (by simp [tm_L, tm_I, tm_D]) ?_
  refine lv_if_ne (tgt := 98) hx hb dX5_told_60 (by decide) (fun c => absurd (by decide) c) (fun _ => ?_)
  refine lv_iload_n hx hb dX5_told_63 rfl (lv_at hl 1 rfl) ?_
  refine lv_iconst (v := (nI 2)) hx hb dX5_told_64 (by decide) ?_
  refine lv_icmp_ne (tgt := 77) hx hb dX5_told_65 (by decide) (fun c => absurd (by decide) c) (fun _ => ?_)
  refine lv_aload_n hx hb dX5_told_68 rfl (lv_at hl 0 rfl) ?_
  refine tr_g_used hx hb hts inB_X5 hown hK hP (hts _ mb_641) dX5_told_69 ?_
  refine lv_iload_n hx hb dX5_told_72 rfl (lv_at hl 2 rfl) ?_
  refine tr_l_used hx hb hK hP (by omega) dX5_told_73 ?_
  refine kq_ti (y := (u.2.1 0 j)) (by simp [tm_L, tm_I, tm_D]) ?_
  refine lv_if_eq (tgt := 93) hx hb dX5_told_74 (by decide) (fun c => absurd c hh) (fun _ => ?_)
  refine lv_iload_n hx hb dX5_told_77 rfl (lv_at hl 1 rfl) ?_
  refine lv_iconst (v := (nI 3)) hx hb dX5_told_78 (by decide) ?_
  refine lv_icmp_ne (tgt := 98) hx hb dX5_told_79 (by decide) (fun _ => ?_) (fun c => absurd c (by decide))
  refine lv_aload_n hx hb dX5_told_98 rfl (lv_at hl 0 rfl) ?_
  refine tr_g_thrown hx hb hts inB_X5 hown hK hP (hts _ mb_652) dX5_told_99 ?_
  refine kq_ti (y := (nI 0)) (by simp [tm_L, tm_I, tm_D]) ?_
  refine lv_if_eq (tgt := 107) hx hb dX5_told_102 (by decide) (fun _ => ?_) (fun c => absurd (by decide) c)
  refine lv_iload_n hx hb dX5_told_107 rfl (lv_at hl 1 rfl) ?_
  refine lv_iconst (v := (nI 2)) hx hb dX5_told_108 (by decide) ?_
  refine lv_icmp_ge (tgt := 124) hx hb dX5_told_109 (by decide) (fun _ => ?_) (fun c => absurd (by decide) c)
  refine lv_iload_n hx hb dX5_told_124 rfl (lv_at hl 1 rfl) ?_
  refine lv_iconst (v := (nI 2)) hx hb dX5_told_125 (by decide) ?_
  refine lv_icmp_ne (tgt := 137) hx hb dX5_told_126 (by decide) (fun c => absurd (by decide) c) (fun _ => ?_)
  refine lv_aload_n hx hb dX5_told_129 rfl (lv_at hl 0 rfl) ?_
  refine lv_iload_n hx hb dX5_told_130 rfl (lv_at hl 2 rfl) ?_
  refine kq_cV (st1 := [.long (tm_h (tm_h ((tm_I u 14 0 (nI 0)).1 2 j) (((tm_I u 14 0 (nI 0)).2.1 1 j).toInt64)) (tm_h ((tm_I u 14 0 (nI 0)).1 3 j) ((tm_I u 14 0 (nI 0)).1 4 j)))]) ⟨hx, hb, hml, hown, hts⟩ (r_name (tm_I u 14 0 (nI 0)) (k := j) (by omega)) (cwV 1 hts gX5_150_X5_name rfl rfl rfl (by decide +kernel) ⟨Nat.le_of_ble_eq_true rfl, Nat.le_of_ble_eq_true rfl⟩) kq_okT hK hP hD hA hG hS (va_recv hK hP (ci := 5) (q0 := 0) rfl (tm_at (i := 0) (by omega) rfl)) rfl hl.1 rfl rfl (Nat.le_of_ble_eq_true rfl) dX5_told_131 ⟨Nat.le_of_ble_eq_true rfl, Nat.le_of_ble_eq_true rfl⟩ (fun H locs hP hD hS => ?_)
  refine lv_goto (tgt := 157) hx hb dX5_told_134 (by decide) ?_
  exact kq_lret hx hb hr hlk hP hD hS dX5_told_157
set_option maxHeartbeats 4000000 in
set_option maxRecDepth 100000 in
theorem p_told_b2_3 (u : tm_S) (x : Int32) (h : x < 0 ∨ ¬ x ≤ nI 31)  : kr_M l dC dI ad cc yX5_told wsX5_told { frames := 2, cells := 0, slots := 0, locals := 47 } [.ref (ad 0), .int (nI 3), .int x] u (tm_I u 14 0 (nI 1)) (some (.long 0)) := by
  refine kq_ofW (cc := cX5_told) (maxL := 3) (ret := (some .long)) (R0 := RX5) (by decide) rfl rfl (Nat.le_of_ble_eq_true rfl) ?_
  intro p e s m below meth c A ls hx hb hr hlk hml hown hts hP hK hD hA hG hS hl
  have hl : lv_has ls 3 [(0, .ref (ad 0)), (1, .int (nI 3)), (2, .int x)] := hl
  refine lv_aload_n hx hb dX5_told_0 rfl (lv_at hl 0 rfl) ?_
  refine lv_aload_n hx hb dX5_told_1 rfl (lv_at hl 0 rfl) ?_
  refine lv_iload_n hx hb dX5_told_2 rfl (lv_at hl 1 rfl) ?_
  refine lv_iconst (v := (nI 4)) hx hb dX5_told_3 (by decide) ?_
  refine kq_cV (st1 := [.int (nI 0), .ref (ad 0)]) ⟨hx, hb, hml, hown, hts⟩ (r_out_in u (by omega) (by omega)) (cwV 2 hts gX5_109_X5_out rfl rfl rfl (by decide +kernel) ⟨Nat.le_of_ble_eq_true rfl, Nat.le_of_ble_eq_true rfl⟩) kq_okT hK hP hD hA hG hS (va_recv hK hP (ci := 5) (q0 := 0) rfl (tm_at (i := 0) (by omega) rfl)) rfl hl.1 rfl rfl (Nat.le_of_ble_eq_true rfl) dX5_told_4 ⟨Nat.le_of_ble_eq_true rfl, Nat.le_of_ble_eq_true rfl⟩ (fun H locs hP hD hS => ?_)
  refine lv_if_ne (tgt := 48) hx hb dX5_told_7 (by decide) (fun c => absurd (by decide) c) (fun _ => ?_)
  refine lv_aload_n hx hb dX5_told_10 rfl (lv_at hl 0 rfl) ?_
  refine lv_iload_n hx hb dX5_told_11 rfl (lv_at hl 2 rfl) ?_
  refine lv_iload_n hx hb dX5_told_12 rfl (lv_at hl 1 rfl) ?_
  refine lv_iconst (v := (nI 2)) hx hb dX5_told_13 (by decide) ?_
  refine lv_icmp_ge (tgt := 22) hx hb dX5_told_14 (by decide) (fun _ => ?_) (fun c => absurd (by decide) c)
  refine lv_iload_n hx hb dX5_told_22 rfl (lv_at hl 1 rfl) ?_
  refine lv_iconst (v := (nI 2)) hx hb dX5_told_23 (by decide) ?_
  refine lv_icmp_ne (tgt := 31) hx hb dX5_told_24 (by decide) (fun _ => ?_) (fun c => absurd c (by decide))
  refine lv_iload_n hx hb dX5_told_31 rfl (lv_at hl 1 rfl) ?_
  refine lv_iconst (v := (nI 3)) hx hb dX5_told_32 (by decide) ?_
  refine lv_icmp_ne (tgt := 41) hx hb dX5_told_33 (by decide) (fun c => absurd (by decide) c) (fun _ => ?_)
  refine lv_bipush (v := (nI 31)) hx hb dX5_told_36 (by decide) ?_
  refine lv_goto (tgt := 42) hx hb dX5_told_38 (by decide) ?_
  refine kq_cV (st1 := [.int (nI 1), .ref (ad 0)]) ⟨hx, hb, hml, hown, hts⟩ (r_out_no u h) (cwV 2 hts gX5_109_X5_out rfl rfl rfl (by decide +kernel) ⟨Nat.le_of_ble_eq_true rfl, Nat.le_of_ble_eq_true rfl⟩) kq_okT hK hP hD hA hG hS (va_recv hK hP (ci := 5) (q0 := 0) rfl (tm_at (i := 0) (by omega) rfl)) rfl hl.1 rfl rfl (Nat.le_of_ble_eq_true rfl) dX5_told_42 ⟨Nat.le_of_ble_eq_true rfl, Nat.le_of_ble_eq_true rfl⟩ (fun H locs hP hD hS => ?_)
  refine lv_if_eq (tgt := 52) hx hb dX5_told_45 (by decide) (fun c => absurd c (by decide)) (fun _ => ?_)
  refine lv_iconst (v := (nI 1)) hx hb dX5_told_48 (by decide) ?_
  refine lv_goto (tgt := 53) hx hb dX5_told_49 (by decide) ?_
  refine tr_p_thrown hx hb hts inB_X5 hown hK hP hD hS (hts _ mb_652) dX5_told_53 (fun H locs hP hD hS => ?_)
  refine lv_aload_n hx hb dX5_told_56 rfl (lv_at hl 0 rfl) ?_
  refine tr_g_thrown hx hb hts inB_X5 hown hK hP (hts _ mb_652) dX5_told_57 ?_
  refine kq_ti (y := (nI 1)) (by simp [tm_L, tm_I, tm_D]) ?_
  refine lv_if_ne (tgt := 98) hx hb dX5_told_60 (by decide) (fun _ => ?_) (fun c => absurd c (by decide))
  refine lv_aload_n hx hb dX5_told_98 rfl (lv_at hl 0 rfl) ?_
  refine tr_g_thrown hx hb hts inB_X5 hown hK hP (hts _ mb_652) dX5_told_99 ?_
  refine kq_ti (y := (nI 1)) (by simp [tm_L, tm_I, tm_D]) ?_
  refine lv_if_eq (tgt := 107) hx hb dX5_told_102 (by decide) (fun c => absurd c (by decide)) (fun _ => ?_)
  refine lv_lconst (v := 0) hx hb dX5_told_105 (by decide) ?_
  exact kq_lret hx hb hr hlk hP hD hS dX5_told_106
set_option maxHeartbeats 4000000 in
set_option maxRecDepth 100000 in
theorem p_told_none (u : tm_S) {j : Nat} (hj : j < 32) (hm : u.2.1 3 (j / 4) = 0) : kr_M l dC dI ad cc yX5_told wsX5_told { frames := 2, cells := 0, slots := 0, locals := 47 } [.ref (ad 0), .int (nI 3), .int (nI j)] u (tm_I (tm_I u 14 0 (nI 0)) 14 0 (nI 2)) (some (.long 0)) := by
  refine kq_ofW (cc := cX5_told) (maxL := 3) (ret := (some .long)) (R0 := RX5) (by decide) rfl rfl (Nat.le_of_ble_eq_true rfl) ?_
  intro p e s m below meth c A ls hx hb hr hlk hml hown hts hP hK hD hA hG hS hl
  have hl : lv_has ls 3 [(0, .ref (ad 0)), (1, .int (nI 3)), (2, .int (nI j))] := hl
  refine lv_aload_n hx hb dX5_told_0 rfl (lv_at hl 0 rfl) ?_
  refine lv_aload_n hx hb dX5_told_1 rfl (lv_at hl 0 rfl) ?_
  refine lv_iload_n hx hb dX5_told_2 rfl (lv_at hl 1 rfl) ?_
  refine lv_iconst (v := (nI 4)) hx hb dX5_told_3 (by decide) ?_
  refine kq_cV (st1 := [.int (nI 0), .ref (ad 0)]) ⟨hx, hb, hml, hown, hts⟩ (r_out_in u (by omega) (by omega)) (cwV 2 hts gX5_109_X5_out rfl rfl rfl (by decide +kernel) ⟨Nat.le_of_ble_eq_true rfl, Nat.le_of_ble_eq_true rfl⟩) kq_okT hK hP hD hA hG hS (va_recv hK hP (ci := 5) (q0 := 0) rfl (tm_at (i := 0) (by omega) rfl)) rfl hl.1 rfl rfl (Nat.le_of_ble_eq_true rfl) dX5_told_4 ⟨Nat.le_of_ble_eq_true rfl, Nat.le_of_ble_eq_true rfl⟩ (fun H locs hP hD hS => ?_)
  refine lv_if_ne (tgt := 48) hx hb dX5_told_7 (by decide) (fun c => absurd (by decide) c) (fun _ => ?_)
  refine lv_aload_n hx hb dX5_told_10 rfl (lv_at hl 0 rfl) ?_
  refine lv_iload_n hx hb dX5_told_11 rfl (lv_at hl 2 rfl) ?_
  refine lv_iload_n hx hb dX5_told_12 rfl (lv_at hl 1 rfl) ?_
  refine lv_iconst (v := (nI 2)) hx hb dX5_told_13 (by decide) ?_
  refine lv_icmp_ge (tgt := 22) hx hb dX5_told_14 (by decide) (fun _ => ?_) (fun c => absurd (by decide) c)
  refine lv_iload_n hx hb dX5_told_22 rfl (lv_at hl 1 rfl) ?_
  refine lv_iconst (v := (nI 2)) hx hb dX5_told_23 (by decide) ?_
  refine lv_icmp_ne (tgt := 31) hx hb dX5_told_24 (by decide) (fun _ => ?_) (fun c => absurd c (by decide))
  refine lv_iload_n hx hb dX5_told_31 rfl (lv_at hl 1 rfl) ?_
  refine lv_iconst (v := (nI 3)) hx hb dX5_told_32 (by decide) ?_
  refine lv_icmp_ne (tgt := 41) hx hb dX5_told_33 (by decide) (fun c => absurd (by decide) c) (fun _ => ?_)
  refine lv_bipush (v := (nI 31)) hx hb dX5_told_36 (by decide) ?_
  refine lv_goto (tgt := 42) hx hb dX5_told_38 (by decide) ?_
  refine kq_cV (st1 := [.int (nI 0), .ref (ad 0)]) ⟨hx, hb, hml, hown, hts⟩ (r_out_in u (by omega) (by omega)) (cwV 2 hts gX5_109_X5_out rfl rfl rfl (by decide +kernel) ⟨Nat.le_of_ble_eq_true rfl, Nat.le_of_ble_eq_true rfl⟩) kq_okT hK hP hD hA hG hS (va_recv hK hP (ci := 5) (q0 := 0) rfl (tm_at (i := 0) (by omega) rfl)) rfl hl.1 rfl rfl (Nat.le_of_ble_eq_true rfl) dX5_told_42 ⟨Nat.le_of_ble_eq_true rfl, Nat.le_of_ble_eq_true rfl⟩ (fun H locs hP hD hS => ?_)
  refine lv_if_eq (tgt := 52) hx hb dX5_told_45 (by decide) (fun _ => ?_) (fun c => absurd (by decide) c)
  refine lv_iconst (v := (nI 0)) hx hb dX5_told_52 (by decide) ?_
  refine tr_p_thrown hx hb hts inB_X5 hown hK hP hD hS (hts _ mb_652) dX5_told_53 (fun H locs hP hD hS => ?_)
  refine lv_aload_n hx hb dX5_told_56 rfl (lv_at hl 0 rfl) ?_
  refine tr_g_thrown hx hb hts inB_X5 hown hK hP (hts _ mb_652) dX5_told_57 ?_
  refine kq_ti (y := (nI 0)) (by simp [tm_L, tm_I, tm_D]) ?_
  refine lv_if_ne (tgt := 98) hx hb dX5_told_60 (by decide) (fun c => absurd (by decide) c) (fun _ => ?_)
  refine lv_iload_n hx hb dX5_told_63 rfl (lv_at hl 1 rfl) ?_
  refine lv_iconst (v := (nI 2)) hx hb dX5_told_64 (by decide) ?_
  refine lv_icmp_ne (tgt := 77) hx hb dX5_told_65 (by decide) (fun _ => ?_) (fun c => absurd c (by decide))
  refine lv_iload_n hx hb dX5_told_77 rfl (lv_at hl 1 rfl) ?_
  refine lv_iconst (v := (nI 3)) hx hb dX5_told_78 (by decide) ?_
  refine lv_icmp_ne (tgt := 98) hx hb dX5_told_79 (by decide) (fun c => absurd (by decide) c) (fun _ => ?_)
  refine lv_aload_n hx hb dX5_told_82 rfl (lv_at hl 0 rfl) ?_
  refine tr_g_there hx hb hts inB_X5 hown hK hP (hts _ mb_643) dX5_told_83 ?_
  refine lv_iload_n hx hb dX5_told_86 rfl (lv_at hl 2 rfl) ?_
  refine lv_iconst (v := (nI 4)) hx hb dX5_told_87 (by decide) ?_
  refine lv_idiv hx hb dX5_told_88 (by decide) ?_
  refine kq_ti (y := (nI (j / 4))) (pk_div (by omega) (by omega) (by omega)) ?_
  refine tr_l_there hx hb hK hP (by omega) dX5_told_89 ?_
  refine kq_ti (y := (u.2.1 3 (j / 4))) (by simp [tm_L, tm_I, tm_D]) ?_
  refine lv_if_ne (tgt := 98) hx hb dX5_told_90 (by decide) (fun c => absurd hm c) (fun _ => ?_)
  refine lv_aload_n hx hb dX5_told_93 rfl (lv_at hl 0 rfl) ?_
  refine lv_iconst (v := (nI 2)) hx hb dX5_told_94 (by decide) ?_
  refine tr_p_thrown hx hb hts inB_X5 hown hK hP hD hS (hts _ mb_652) dX5_told_95 (fun H locs hP hD hS => ?_)
  refine lv_aload_n hx hb dX5_told_98 rfl (lv_at hl 0 rfl) ?_
  refine tr_g_thrown hx hb hts inB_X5 hown hK hP (hts _ mb_652) dX5_told_99 ?_
  refine kq_ti (y := (nI 2)) (by simp [tm_L, tm_I, tm_D]) ?_
  refine lv_if_eq (tgt := 107) hx hb dX5_told_102 (by decide) (fun c => absurd c (by decide)) (fun _ => ?_)
  refine lv_lconst (v := 0) hx hb dX5_told_105 (by decide) ?_
  exact kq_lret hx hb hr hlk hP hD hS dX5_told_106
set_option maxHeartbeats 4000000 in
set_option maxRecDepth 100000 in
theorem p_told_3 (u : tm_S) {j : Nat} (hj : j < 32) (hm : ¬ u.2.1 3 (j / 4) = 0) : kr_M l dC dI ad cc yX5_told wsX5_told { frames := 2, cells := 0, slots := 0, locals := 47 } [.ref (ad 0), .int (nI 3), .int (nI j)] u (tm_I u 14 0 (nI 0)) (some (.long (u.1 5 j))) := by
  refine kq_ofW (cc := cX5_told) (maxL := 3) (ret := (some .long)) (R0 := RX5) (by decide) rfl rfl (Nat.le_of_ble_eq_true rfl) ?_
  intro p e s m below meth c A ls hx hb hr hlk hml hown hts hP hK hD hA hG hS hl
  have hl : lv_has ls 3 [(0, .ref (ad 0)), (1, .int (nI 3)), (2, .int (nI j))] := hl
  refine lv_aload_n hx hb dX5_told_0 rfl (lv_at hl 0 rfl) ?_
  refine lv_aload_n hx hb dX5_told_1 rfl (lv_at hl 0 rfl) ?_
  refine lv_iload_n hx hb dX5_told_2 rfl (lv_at hl 1 rfl) ?_
  refine lv_iconst (v := (nI 4)) hx hb dX5_told_3 (by decide) ?_
  refine kq_cV (st1 := [.int (nI 0), .ref (ad 0)]) ⟨hx, hb, hml, hown, hts⟩ (r_out_in u (by omega) (by omega)) (cwV 2 hts gX5_109_X5_out rfl rfl rfl (by decide +kernel) ⟨Nat.le_of_ble_eq_true rfl, Nat.le_of_ble_eq_true rfl⟩) kq_okT hK hP hD hA hG hS (va_recv hK hP (ci := 5) (q0 := 0) rfl (tm_at (i := 0) (by omega) rfl)) rfl hl.1 rfl rfl (Nat.le_of_ble_eq_true rfl) dX5_told_4 ⟨Nat.le_of_ble_eq_true rfl, Nat.le_of_ble_eq_true rfl⟩ (fun H locs hP hD hS => ?_)
  refine lv_if_ne (tgt := 48) hx hb dX5_told_7 (by decide) (fun c => absurd (by decide) c) (fun _ => ?_)
  refine lv_aload_n hx hb dX5_told_10 rfl (lv_at hl 0 rfl) ?_
  refine lv_iload_n hx hb dX5_told_11 rfl (lv_at hl 2 rfl) ?_
  refine lv_iload_n hx hb dX5_told_12 rfl (lv_at hl 1 rfl) ?_
  refine lv_iconst (v := (nI 2)) hx hb dX5_told_13 (by decide) ?_
  refine lv_icmp_ge (tgt := 22) hx hb dX5_told_14 (by decide) (fun _ => ?_) (fun c => absurd (by decide) c)
  refine lv_iload_n hx hb dX5_told_22 rfl (lv_at hl 1 rfl) ?_
  refine lv_iconst (v := (nI 2)) hx hb dX5_told_23 (by decide) ?_
  refine lv_icmp_ne (tgt := 31) hx hb dX5_told_24 (by decide) (fun _ => ?_) (fun c => absurd c (by decide))
  refine lv_iload_n hx hb dX5_told_31 rfl (lv_at hl 1 rfl) ?_
  refine lv_iconst (v := (nI 3)) hx hb dX5_told_32 (by decide) ?_
  refine lv_icmp_ne (tgt := 41) hx hb dX5_told_33 (by decide) (fun c => absurd (by decide) c) (fun _ => ?_)
  refine lv_bipush (v := (nI 31)) hx hb dX5_told_36 (by decide) ?_
  refine lv_goto (tgt := 42) hx hb dX5_told_38 (by decide) ?_
  refine kq_cV (st1 := [.int (nI 0), .ref (ad 0)]) ⟨hx, hb, hml, hown, hts⟩ (r_out_in u (by omega) (by omega)) (cwV 2 hts gX5_109_X5_out rfl rfl rfl (by decide +kernel) ⟨Nat.le_of_ble_eq_true rfl, Nat.le_of_ble_eq_true rfl⟩) kq_okT hK hP hD hA hG hS (va_recv hK hP (ci := 5) (q0 := 0) rfl (tm_at (i := 0) (by omega) rfl)) rfl hl.1 rfl rfl (Nat.le_of_ble_eq_true rfl) dX5_told_42 ⟨Nat.le_of_ble_eq_true rfl, Nat.le_of_ble_eq_true rfl⟩ (fun H locs hP hD hS => ?_)
  refine lv_if_eq (tgt := 52) hx hb dX5_told_45 (by decide) (fun _ => ?_) (fun c => absurd (by decide) c)
  refine lv_iconst (v := (nI 0)) hx hb dX5_told_52 (by decide) ?_
  refine tr_p_thrown hx hb hts inB_X5 hown hK hP hD hS (hts _ mb_652) dX5_told_53 (fun H locs hP hD hS => ?_)
  refine lv_aload_n hx hb dX5_told_56 rfl (lv_at hl 0 rfl) ?_
  refine tr_g_thrown hx hb hts inB_X5 hown hK hP (hts _ mb_652) dX5_told_57 ?_
  refine kq_ti (y := (nI 0)) (by simp [tm_L, tm_I, tm_D]) ?_
  refine lv_if_ne (tgt := 98) hx hb dX5_told_60 (by decide) (fun c => absurd (by decide) c) (fun _ => ?_)
  refine lv_iload_n hx hb dX5_told_63 rfl (lv_at hl 1 rfl) ?_
  refine lv_iconst (v := (nI 2)) hx hb dX5_told_64 (by decide) ?_
  refine lv_icmp_ne (tgt := 77) hx hb dX5_told_65 (by decide) (fun _ => ?_) (fun c => absurd c (by decide))
  refine lv_iload_n hx hb dX5_told_77 rfl (lv_at hl 1 rfl) ?_
  refine lv_iconst (v := (nI 3)) hx hb dX5_told_78 (by decide) ?_
  refine lv_icmp_ne (tgt := 98) hx hb dX5_told_79 (by decide) (fun c => absurd (by decide) c) (fun _ => ?_)
  refine lv_aload_n hx hb dX5_told_82 rfl (lv_at hl 0 rfl) ?_
  refine tr_g_there hx hb hts inB_X5 hown hK hP (hts _ mb_643) dX5_told_83 ?_
  refine lv_iload_n hx hb dX5_told_86 rfl (lv_at hl 2 rfl) ?_
  refine lv_iconst (v := (nI 4)) hx hb dX5_told_87 (by decide) ?_
  refine lv_idiv hx hb dX5_told_88 (by decide) ?_
  refine kq_ti (y := (nI (j / 4))) (pk_div (by omega) (by omega) (by omega)) ?_
  refine tr_l_there hx hb hK hP (by omega) dX5_told_89 ?_
  refine kq_ti (y := (u.2.1 3 (j / 4))) (by simp [tm_L, tm_I, tm_D]) ?_
  refine lv_if_ne (tgt := 98) hx hb dX5_told_90 (by decide) (fun _ => ?_) (fun c => absurd c hm)
  refine lv_aload_n hx hb dX5_told_98 rfl (lv_at hl 0 rfl) ?_
  refine tr_g_thrown hx hb hts inB_X5 hown hK hP (hts _ mb_652) dX5_told_99 ?_
  refine kq_ti (y := (nI 0)) (by simp [tm_L, tm_I, tm_D]) ?_
  refine lv_if_eq (tgt := 107) hx hb dX5_told_102 (by decide) (fun _ => ?_) (fun c => absurd (by decide) c)
  refine lv_iload_n hx hb dX5_told_107 rfl (lv_at hl 1 rfl) ?_
  refine lv_iconst (v := (nI 2)) hx hb dX5_told_108 (by decide) ?_
  refine lv_icmp_ge (tgt := 124) hx hb dX5_told_109 (by decide) (fun _ => ?_) (fun c => absurd (by decide) c)
  refine lv_iload_n hx hb dX5_told_124 rfl (lv_at hl 1 rfl) ?_
  refine lv_iconst (v := (nI 2)) hx hb dX5_told_125 (by decide) ?_
  refine lv_icmp_ne (tgt := 137) hx hb dX5_told_126 (by decide) (fun _ => ?_) (fun c => absurd c (by decide))
  refine lv_iload_n hx hb dX5_told_137 rfl (lv_at hl 1 rfl) ?_
  refine lv_iconst (v := (nI 3)) hx hb dX5_told_138 (by decide) ?_
  refine lv_icmp_ne (tgt := 151) hx hb dX5_told_139 (by decide) (fun c => absurd (by decide) c) (fun _ => ?_)
  refine lv_aload_n hx hb dX5_told_142 rfl (lv_at hl 0 rfl) ?_
  refine tr_g_blob hx hb hts inB_X5 hown hK hP (hts _ mb_633) dX5_told_143 ?_
  refine lv_iload_n hx hb dX5_told_146 rfl (lv_at hl 2 rfl) ?_
  refine tr_l_blob hx hb hK hP (by omega) dX5_told_147 ?_
  refine kq_tl (y := (u.1 5 j)) (by simp [tm_L, tm_I, tm_D]) ?_
  refine lv_goto (tgt := 157) hx hb dX5_told_148 (by decide) ?_
  exact kq_lret hx hb hr hlk hP hD hS dX5_told_157
set_option maxHeartbeats 4000000 in
set_option maxRecDepth 100000 in
theorem p_told_b2_4 (u : tm_S) (x : Int32) (h : x < 0 ∨ ¬ x ≤ nI 2)  : kr_M l dC dI ad cc yX5_told wsX5_told { frames := 2, cells := 0, slots := 0, locals := 47 } [.ref (ad 0), .int (nI 4), .int x] u (tm_I u 14 0 (nI 1)) (some (.long 0)) := by
  refine kq_ofW (cc := cX5_told) (maxL := 3) (ret := (some .long)) (R0 := RX5) (by decide) rfl rfl (Nat.le_of_ble_eq_true rfl) ?_
  intro p e s m below meth c A ls hx hb hr hlk hml hown hts hP hK hD hA hG hS hl
  have hl : lv_has ls 3 [(0, .ref (ad 0)), (1, .int (nI 4)), (2, .int x)] := hl
  refine lv_aload_n hx hb dX5_told_0 rfl (lv_at hl 0 rfl) ?_
  refine lv_aload_n hx hb dX5_told_1 rfl (lv_at hl 0 rfl) ?_
  refine lv_iload_n hx hb dX5_told_2 rfl (lv_at hl 1 rfl) ?_
  refine lv_iconst (v := (nI 4)) hx hb dX5_told_3 (by decide) ?_
  refine kq_cV (st1 := [.int (nI 0), .ref (ad 0)]) ⟨hx, hb, hml, hown, hts⟩ (r_out_in u (by omega) (by omega)) (cwV 2 hts gX5_109_X5_out rfl rfl rfl (by decide +kernel) ⟨Nat.le_of_ble_eq_true rfl, Nat.le_of_ble_eq_true rfl⟩) kq_okT hK hP hD hA hG hS (va_recv hK hP (ci := 5) (q0 := 0) rfl (tm_at (i := 0) (by omega) rfl)) rfl hl.1 rfl rfl (Nat.le_of_ble_eq_true rfl) dX5_told_4 ⟨Nat.le_of_ble_eq_true rfl, Nat.le_of_ble_eq_true rfl⟩ (fun H locs hP hD hS => ?_)
  refine lv_if_ne (tgt := 48) hx hb dX5_told_7 (by decide) (fun c => absurd (by decide) c) (fun _ => ?_)
  refine lv_aload_n hx hb dX5_told_10 rfl (lv_at hl 0 rfl) ?_
  refine lv_iload_n hx hb dX5_told_11 rfl (lv_at hl 2 rfl) ?_
  refine lv_iload_n hx hb dX5_told_12 rfl (lv_at hl 1 rfl) ?_
  refine lv_iconst (v := (nI 2)) hx hb dX5_told_13 (by decide) ?_
  refine lv_icmp_ge (tgt := 22) hx hb dX5_told_14 (by decide) (fun _ => ?_) (fun c => absurd (by decide) c)
  refine lv_iload_n hx hb dX5_told_22 rfl (lv_at hl 1 rfl) ?_
  refine lv_iconst (v := (nI 2)) hx hb dX5_told_23 (by decide) ?_
  refine lv_icmp_ne (tgt := 31) hx hb dX5_told_24 (by decide) (fun _ => ?_) (fun c => absurd c (by decide))
  refine lv_iload_n hx hb dX5_told_31 rfl (lv_at hl 1 rfl) ?_
  refine lv_iconst (v := (nI 3)) hx hb dX5_told_32 (by decide) ?_
  refine lv_icmp_ne (tgt := 41) hx hb dX5_told_33 (by decide) (fun _ => ?_) (fun c => absurd c (by decide))
  refine lv_iconst (v := (nI 2)) hx hb dX5_told_41 (by decide) ?_
  refine kq_cV (st1 := [.int (nI 1), .ref (ad 0)]) ⟨hx, hb, hml, hown, hts⟩ (r_out_no u h) (cwV 2 hts gX5_109_X5_out rfl rfl rfl (by decide +kernel) ⟨Nat.le_of_ble_eq_true rfl, Nat.le_of_ble_eq_true rfl⟩) kq_okT hK hP hD hA hG hS (va_recv hK hP (ci := 5) (q0 := 0) rfl (tm_at (i := 0) (by omega) rfl)) rfl hl.1 rfl rfl (Nat.le_of_ble_eq_true rfl) dX5_told_42 ⟨Nat.le_of_ble_eq_true rfl, Nat.le_of_ble_eq_true rfl⟩ (fun H locs hP hD hS => ?_)
  refine lv_if_eq (tgt := 52) hx hb dX5_told_45 (by decide) (fun c => absurd c (by decide)) (fun _ => ?_)
  refine lv_iconst (v := (nI 1)) hx hb dX5_told_48 (by decide) ?_
  refine lv_goto (tgt := 53) hx hb dX5_told_49 (by decide) ?_
  refine tr_p_thrown hx hb hts inB_X5 hown hK hP hD hS (hts _ mb_652) dX5_told_53 (fun H locs hP hD hS => ?_)
  refine lv_aload_n hx hb dX5_told_56 rfl (lv_at hl 0 rfl) ?_
  refine tr_g_thrown hx hb hts inB_X5 hown hK hP (hts _ mb_652) dX5_told_57 ?_
  refine kq_ti (y := (nI 1)) (by simp [tm_L, tm_I, tm_D]) ?_
  refine lv_if_ne (tgt := 98) hx hb dX5_told_60 (by decide) (fun _ => ?_) (fun c => absurd c (by decide))
  refine lv_aload_n hx hb dX5_told_98 rfl (lv_at hl 0 rfl) ?_
  refine tr_g_thrown hx hb hts inB_X5 hown hK hP (hts _ mb_652) dX5_told_99 ?_
  refine kq_ti (y := (nI 1)) (by simp [tm_L, tm_I, tm_D]) ?_
  refine lv_if_eq (tgt := 107) hx hb dX5_told_102 (by decide) (fun c => absurd c (by decide)) (fun _ => ?_)
  refine lv_lconst (v := 0) hx hb dX5_told_105 (by decide) ?_
  exact kq_lret hx hb hr hlk hP hD hS dX5_told_106
set_option maxHeartbeats 4000000 in
set_option maxRecDepth 100000 in
theorem p_told_4 (u : tm_S) {j : Nat} (hj : j < 3)  : kr_M l dC dI ad cc yX5_told wsX5_told { frames := 2, cells := 0, slots := 0, locals := 47 } [.ref (ad 0), .int (nI 4), .int (nI j)] u (tm_I u 14 0 (nI 0)) (some (.long (u.1 6 j))) := by
  refine kq_ofW (cc := cX5_told) (maxL := 3) (ret := (some .long)) (R0 := RX5) (by decide) rfl rfl (Nat.le_of_ble_eq_true rfl) ?_
  intro p e s m below meth c A ls hx hb hr hlk hml hown hts hP hK hD hA hG hS hl
  have hl : lv_has ls 3 [(0, .ref (ad 0)), (1, .int (nI 4)), (2, .int (nI j))] := hl
  refine lv_aload_n hx hb dX5_told_0 rfl (lv_at hl 0 rfl) ?_
  refine lv_aload_n hx hb dX5_told_1 rfl (lv_at hl 0 rfl) ?_
  refine lv_iload_n hx hb dX5_told_2 rfl (lv_at hl 1 rfl) ?_
  refine lv_iconst (v := (nI 4)) hx hb dX5_told_3 (by decide) ?_
  refine kq_cV (st1 := [.int (nI 0), .ref (ad 0)]) ⟨hx, hb, hml, hown, hts⟩ (r_out_in u (by omega) (by omega)) (cwV 2 hts gX5_109_X5_out rfl rfl rfl (by decide +kernel) ⟨Nat.le_of_ble_eq_true rfl, Nat.le_of_ble_eq_true rfl⟩) kq_okT hK hP hD hA hG hS (va_recv hK hP (ci := 5) (q0 := 0) rfl (tm_at (i := 0) (by omega) rfl)) rfl hl.1 rfl rfl (Nat.le_of_ble_eq_true rfl) dX5_told_4 ⟨Nat.le_of_ble_eq_true rfl, Nat.le_of_ble_eq_true rfl⟩ (fun H locs hP hD hS => ?_)
  refine lv_if_ne (tgt := 48) hx hb dX5_told_7 (by decide) (fun c => absurd (by decide) c) (fun _ => ?_)
  refine lv_aload_n hx hb dX5_told_10 rfl (lv_at hl 0 rfl) ?_
  refine lv_iload_n hx hb dX5_told_11 rfl (lv_at hl 2 rfl) ?_
  refine lv_iload_n hx hb dX5_told_12 rfl (lv_at hl 1 rfl) ?_
  refine lv_iconst (v := (nI 2)) hx hb dX5_told_13 (by decide) ?_
  refine lv_icmp_ge (tgt := 22) hx hb dX5_told_14 (by decide) (fun _ => ?_) (fun c => absurd (by decide) c)
  refine lv_iload_n hx hb dX5_told_22 rfl (lv_at hl 1 rfl) ?_
  refine lv_iconst (v := (nI 2)) hx hb dX5_told_23 (by decide) ?_
  refine lv_icmp_ne (tgt := 31) hx hb dX5_told_24 (by decide) (fun _ => ?_) (fun c => absurd c (by decide))
  refine lv_iload_n hx hb dX5_told_31 rfl (lv_at hl 1 rfl) ?_
  refine lv_iconst (v := (nI 3)) hx hb dX5_told_32 (by decide) ?_
  refine lv_icmp_ne (tgt := 41) hx hb dX5_told_33 (by decide) (fun _ => ?_) (fun c => absurd c (by decide))
  refine lv_iconst (v := (nI 2)) hx hb dX5_told_41 (by decide) ?_
  refine kq_cV (st1 := [.int (nI 0), .ref (ad 0)]) ⟨hx, hb, hml, hown, hts⟩ (r_out_in u (by omega) (by omega)) (cwV 2 hts gX5_109_X5_out rfl rfl rfl (by decide +kernel) ⟨Nat.le_of_ble_eq_true rfl, Nat.le_of_ble_eq_true rfl⟩) kq_okT hK hP hD hA hG hS (va_recv hK hP (ci := 5) (q0 := 0) rfl (tm_at (i := 0) (by omega) rfl)) rfl hl.1 rfl rfl (Nat.le_of_ble_eq_true rfl) dX5_told_42 ⟨Nat.le_of_ble_eq_true rfl, Nat.le_of_ble_eq_true rfl⟩ (fun H locs hP hD hS => ?_)
  refine lv_if_eq (tgt := 52) hx hb dX5_told_45 (by decide) (fun _ => ?_) (fun c => absurd (by decide) c)
  refine lv_iconst (v := (nI 0)) hx hb dX5_told_52 (by decide) ?_
  refine tr_p_thrown hx hb hts inB_X5 hown hK hP hD hS (hts _ mb_652) dX5_told_53 (fun H locs hP hD hS => ?_)
  refine lv_aload_n hx hb dX5_told_56 rfl (lv_at hl 0 rfl) ?_
  refine tr_g_thrown hx hb hts inB_X5 hown hK hP (hts _ mb_652) dX5_told_57 ?_
  refine kq_ti (y := (nI 0)) (by simp [tm_L, tm_I, tm_D]) ?_
  refine lv_if_ne (tgt := 98) hx hb dX5_told_60 (by decide) (fun c => absurd (by decide) c) (fun _ => ?_)
  refine lv_iload_n hx hb dX5_told_63 rfl (lv_at hl 1 rfl) ?_
  refine lv_iconst (v := (nI 2)) hx hb dX5_told_64 (by decide) ?_
  refine lv_icmp_ne (tgt := 77) hx hb dX5_told_65 (by decide) (fun _ => ?_) (fun c => absurd c (by decide))
  refine lv_iload_n hx hb dX5_told_77 rfl (lv_at hl 1 rfl) ?_
  refine lv_iconst (v := (nI 3)) hx hb dX5_told_78 (by decide) ?_
  refine lv_icmp_ne (tgt := 98) hx hb dX5_told_79 (by decide) (fun _ => ?_) (fun c => absurd c (by decide))
  refine lv_aload_n hx hb dX5_told_98 rfl (lv_at hl 0 rfl) ?_
  refine tr_g_thrown hx hb hts inB_X5 hown hK hP (hts _ mb_652) dX5_told_99 ?_
  refine kq_ti (y := (nI 0)) (by simp [tm_L, tm_I, tm_D]) ?_
  refine lv_if_eq (tgt := 107) hx hb dX5_told_102 (by decide) (fun _ => ?_) (fun c => absurd (by decide) c)
  refine lv_iload_n hx hb dX5_told_107 rfl (lv_at hl 1 rfl) ?_
  refine lv_iconst (v := (nI 2)) hx hb dX5_told_108 (by decide) ?_
  refine lv_icmp_ge (tgt := 124) hx hb dX5_told_109 (by decide) (fun _ => ?_) (fun c => absurd (by decide) c)
  refine lv_iload_n hx hb dX5_told_124 rfl (lv_at hl 1 rfl) ?_
  refine lv_iconst (v := (nI 2)) hx hb dX5_told_125 (by decide) ?_
  refine lv_icmp_ne (tgt := 137) hx hb dX5_told_126 (by decide) (fun _ => ?_) (fun c => absurd c (by decide))
  refine lv_iload_n hx hb dX5_told_137 rfl (lv_at hl 1 rfl) ?_
  refine lv_iconst (v := (nI 3)) hx hb dX5_told_138 (by decide) ?_
  refine lv_icmp_ne (tgt := 151) hx hb dX5_told_139 (by decide) (fun _ => ?_) (fun c => absurd c (by decide))
  refine lv_aload_n hx hb dX5_told_151 rfl (lv_at hl 0 rfl) ?_
  refine tr_g_digest hx hb hts inB_X5 hown hK hP (hts _ mb_632) dX5_told_152 ?_
  refine lv_iload_n hx hb dX5_told_155 rfl (lv_at hl 2 rfl) ?_
  refine tr_l_digest hx hb hK hP (by omega) dX5_told_156 ?_
  refine kq_tl (y := (u.1 6 j)) (by simp [tm_L, tm_I, tm_D]) ?_
  exact kq_lret hx hb hr hlk hP hD hS dX5_told_157
set_option maxHeartbeats 4000000 in
set_option maxRecDepth 100000 in
theorem p_clock_b1 (u : tm_S) (x : Int32) (h : x < 0 ∨ ¬ x ≤ nI 100) (h9 : Int32) : kr_M l dC dI ad cc yX5_clock wsX5_clock { frames := 1, cells := 0, slots := 0, locals := 22 } [.ref (ad 0), .int x, .int h9] u (tm_I u 14 0 (nI 1)) (some (.double FP.dconst0)) := by
  refine kq_ofW (cc := cX5_clock) (maxL := 5) (ret := (some .double)) (R0 := RX5) (by decide) rfl rfl (Nat.le_of_ble_eq_true rfl) ?_
  intro p e s m below meth c A ls hx hb hr hlk hml hown hts hP hK hD hA hG hS hl
  have hl : lv_has ls 5 [(0, .ref (ad 0)), (1, .int x), (2, .int h9)] := hl
  refine lv_aload_n hx hb dX5_clock_0 rfl (lv_at hl 0 rfl) ?_
  refine lv_aload_n hx hb dX5_clock_1 rfl (lv_at hl 0 rfl) ?_
  refine lv_iload_n hx hb dX5_clock_2 rfl (lv_at hl 1 rfl) ?_
  refine lv_bipush (v := (nI 100)) hx hb dX5_clock_3 (by decide) ?_
  refine kq_cV (st1 := [.int (nI 1), .ref (ad 0)]) ⟨hx, hb, hml, hown, hts⟩ (r_out_no u h) (cwV 2 hts gX5_109_X5_out rfl rfl rfl (by decide +kernel) ⟨Nat.le_of_ble_eq_true rfl, Nat.le_of_ble_eq_true rfl⟩) kq_okT hK hP hD hA hG hS (va_recv hK hP (ci := 5) (q0 := 0) rfl (tm_at (i := 0) (by omega) rfl)) rfl hl.1 rfl rfl (Nat.le_of_ble_eq_true rfl) dX5_clock_5 ⟨Nat.le_of_ble_eq_true rfl, Nat.le_of_ble_eq_true rfl⟩ (fun H locs hP hD hS => ?_)
  refine lv_if_ne (tgt := 20) hx hb dX5_clock_8 (by decide) (fun _ => ?_) (fun c => absurd c (by decide))
  refine lv_iconst (v := (nI 1)) hx hb dX5_clock_20 (by decide) ?_
  refine lv_goto (tgt := 25) hx hb dX5_clock_21 (by decide) ?_
  refine kq_cV (st1 := [.int (nI 0)]) ⟨hx, hb, hml, hown, hts⟩ (r_begin_bad u) (cwV 1 hts gX5_113_X5_begin rfl rfl rfl (by decide +kernel) ⟨Nat.le_of_ble_eq_true rfl, Nat.le_of_ble_eq_true rfl⟩) kq_okT hK hP hD hA hG hS (va_recv hK hP (ci := 5) (q0 := 0) rfl (tm_at (i := 0) (by omega) rfl)) rfl hl.1 rfl rfl (Nat.le_of_ble_eq_true rfl) dX5_clock_25 ⟨Nat.le_of_ble_eq_true rfl, Nat.le_of_ble_eq_true rfl⟩ (fun H locs hP hD hS => ?_)
  refine lv_if_ne (tgt := 33) hx hb dX5_clock_28 (by decide) (fun c => absurd (by decide) c) (fun _ => ?_)
  refine lv_dconst0 hx hb dX5_clock_31 ?_
  exact kq_dret hx hb hr hlk hP hD hS dX5_clock_32
set_option maxHeartbeats 4000000 in
set_option maxRecDepth 100000 in
theorem p_clock_b2 (u : tm_S) {k : Nat} (hk : k < 101) (x : Int32) (h : x < 0 ∨ ¬ x ≤ nI 2)  : kr_M l dC dI ad cc yX5_clock wsX5_clock { frames := 1, cells := 0, slots := 0, locals := 22 } [.ref (ad 0), .int (nI k), .int x] u (tm_I u 14 0 (nI 1)) (some (.double FP.dconst0)) := by
  refine kq_ofW (cc := cX5_clock) (maxL := 5) (ret := (some .double)) (R0 := RX5) (by decide) rfl rfl (Nat.le_of_ble_eq_true rfl) ?_
  intro p e s m below meth c A ls hx hb hr hlk hml hown hts hP hK hD hA hG hS hl
  have hl : lv_has ls 5 [(0, .ref (ad 0)), (1, .int (nI k)), (2, .int x)] := hl
  refine lv_aload_n hx hb dX5_clock_0 rfl (lv_at hl 0 rfl) ?_
  refine lv_aload_n hx hb dX5_clock_1 rfl (lv_at hl 0 rfl) ?_
  refine lv_iload_n hx hb dX5_clock_2 rfl (lv_at hl 1 rfl) ?_
  refine lv_bipush (v := (nI 100)) hx hb dX5_clock_3 (by decide) ?_
  refine kq_cV (st1 := [.int (nI 0), .ref (ad 0)]) ⟨hx, hb, hml, hown, hts⟩ (r_out_in u (by omega) (by omega)) (cwV 2 hts gX5_109_X5_out rfl rfl rfl (by decide +kernel) ⟨Nat.le_of_ble_eq_true rfl, Nat.le_of_ble_eq_true rfl⟩) kq_okT hK hP hD hA hG hS (va_recv hK hP (ci := 5) (q0 := 0) rfl (tm_at (i := 0) (by omega) rfl)) rfl hl.1 rfl rfl (Nat.le_of_ble_eq_true rfl) dX5_clock_5 ⟨Nat.le_of_ble_eq_true rfl, Nat.le_of_ble_eq_true rfl⟩ (fun H locs hP hD hS => ?_)
  refine lv_if_ne (tgt := 20) hx hb dX5_clock_8 (by decide) (fun c => absurd (by decide) c) (fun _ => ?_)
  refine lv_aload_n hx hb dX5_clock_11 rfl (lv_at hl 0 rfl) ?_
  refine lv_iload_n hx hb dX5_clock_12 rfl (lv_at hl 2 rfl) ?_
  refine lv_iconst (v := (nI 2)) hx hb dX5_clock_13 (by decide) ?_
  refine kq_cV (st1 := [.int (nI 1), .ref (ad 0)]) ⟨hx, hb, hml, hown, hts⟩ (r_out_no u h) (cwV 2 hts gX5_109_X5_out rfl rfl rfl (by decide +kernel) ⟨Nat.le_of_ble_eq_true rfl, Nat.le_of_ble_eq_true rfl⟩) kq_okT hK hP hD hA hG hS (va_recv hK hP (ci := 5) (q0 := 0) rfl (tm_at (i := 0) (by omega) rfl)) rfl hl.1 rfl rfl (Nat.le_of_ble_eq_true rfl) dX5_clock_14 ⟨Nat.le_of_ble_eq_true rfl, Nat.le_of_ble_eq_true rfl⟩ (fun H locs hP hD hS => ?_)
  refine lv_if_eq (tgt := 24) hx hb dX5_clock_17 (by decide) (fun c => absurd c (by decide)) (fun _ => ?_)
  refine lv_iconst (v := (nI 1)) hx hb dX5_clock_20 (by decide) ?_
  refine lv_goto (tgt := 25) hx hb dX5_clock_21 (by decide) ?_
  refine kq_cV (st1 := [.int (nI 0)]) ⟨hx, hb, hml, hown, hts⟩ (r_begin_bad u) (cwV 1 hts gX5_113_X5_begin rfl rfl rfl (by decide +kernel) ⟨Nat.le_of_ble_eq_true rfl, Nat.le_of_ble_eq_true rfl⟩) kq_okT hK hP hD hA hG hS (va_recv hK hP (ci := 5) (q0 := 0) rfl (tm_at (i := 0) (by omega) rfl)) rfl hl.1 rfl rfl (Nat.le_of_ble_eq_true rfl) dX5_clock_25 ⟨Nat.le_of_ble_eq_true rfl, Nat.le_of_ble_eq_true rfl⟩ (fun H locs hP hD hS => ?_)
  refine lv_if_ne (tgt := 33) hx hb dX5_clock_28 (by decide) (fun c => absurd (by decide) c) (fun _ => ?_)
  refine lv_dconst0 hx hb dX5_clock_31 ?_
  exact kq_dret hx hb hr hlk hP hD hS dX5_clock_32
set_option maxHeartbeats 4000000 in
set_option maxRecDepth 100000 in
theorem p_clock_lo (u : tm_S) {k j : Nat} (hk : k < 101) (hj : j < 3) (hlo : ¬ u.2.1 11 0 = 0) : kr_M l dC dI ad cc yX5_clock wsX5_clock { frames := 1, cells := 0, slots := 0, locals := 22 } [.ref (ad 0), .int (nI k), .int (nI j)] u (tm_I u 14 0 (nI 2)) (some (.double FP.dconst0)) := by
  refine kq_ofW (cc := cX5_clock) (maxL := 5) (ret := (some .double)) (R0 := RX5) (by decide) rfl rfl (Nat.le_of_ble_eq_true rfl) ?_
  intro p e s m below meth c A ls hx hb hr hlk hml hown hts hP hK hD hA hG hS hl
  have hl : lv_has ls 5 [(0, .ref (ad 0)), (1, .int (nI k)), (2, .int (nI j))] := hl
  refine lv_aload_n hx hb dX5_clock_0 rfl (lv_at hl 0 rfl) ?_
  refine lv_aload_n hx hb dX5_clock_1 rfl (lv_at hl 0 rfl) ?_
  refine lv_iload_n hx hb dX5_clock_2 rfl (lv_at hl 1 rfl) ?_
  refine lv_bipush (v := (nI 100)) hx hb dX5_clock_3 (by decide) ?_
  refine kq_cV (st1 := [.int (nI 0), .ref (ad 0)]) ⟨hx, hb, hml, hown, hts⟩ (r_out_in u (by omega) (by omega)) (cwV 2 hts gX5_109_X5_out rfl rfl rfl (by decide +kernel) ⟨Nat.le_of_ble_eq_true rfl, Nat.le_of_ble_eq_true rfl⟩) kq_okT hK hP hD hA hG hS (va_recv hK hP (ci := 5) (q0 := 0) rfl (tm_at (i := 0) (by omega) rfl)) rfl hl.1 rfl rfl (Nat.le_of_ble_eq_true rfl) dX5_clock_5 ⟨Nat.le_of_ble_eq_true rfl, Nat.le_of_ble_eq_true rfl⟩ (fun H locs hP hD hS => ?_)
  refine lv_if_ne (tgt := 20) hx hb dX5_clock_8 (by decide) (fun c => absurd (by decide) c) (fun _ => ?_)
  refine lv_aload_n hx hb dX5_clock_11 rfl (lv_at hl 0 rfl) ?_
  refine lv_iload_n hx hb dX5_clock_12 rfl (lv_at hl 2 rfl) ?_
  refine lv_iconst (v := (nI 2)) hx hb dX5_clock_13 (by decide) ?_
  refine kq_cV (st1 := [.int (nI 0), .ref (ad 0)]) ⟨hx, hb, hml, hown, hts⟩ (r_out_in u (by omega) (by omega)) (cwV 2 hts gX5_109_X5_out rfl rfl rfl (by decide +kernel) ⟨Nat.le_of_ble_eq_true rfl, Nat.le_of_ble_eq_true rfl⟩) kq_okT hK hP hD hA hG hS (va_recv hK hP (ci := 5) (q0 := 0) rfl (tm_at (i := 0) (by omega) rfl)) rfl hl.1 rfl rfl (Nat.le_of_ble_eq_true rfl) dX5_clock_14 ⟨Nat.le_of_ble_eq_true rfl, Nat.le_of_ble_eq_true rfl⟩ (fun H locs hP hD hS => ?_)
  refine lv_if_eq (tgt := 24) hx hb dX5_clock_17 (by decide) (fun _ => ?_) (fun c => absurd (by decide) c)
  refine lv_iconst (v := (nI 0)) hx hb dX5_clock_24 (by decide) ?_
  refine kq_cV (st1 := [.int (nI 0)]) ⟨hx, hb, hml, hown, hts⟩ (r_begin_lost u hlo) (cwV 1 hts gX5_113_X5_begin rfl rfl rfl (by decide +kernel) ⟨Nat.le_of_ble_eq_true rfl, Nat.le_of_ble_eq_true rfl⟩) kq_okT hK hP hD hA hG hS (va_recv hK hP (ci := 5) (q0 := 0) rfl (tm_at (i := 0) (by omega) rfl)) rfl hl.1 rfl rfl (Nat.le_of_ble_eq_true rfl) dX5_clock_25 ⟨Nat.le_of_ble_eq_true rfl, Nat.le_of_ble_eq_true rfl⟩ (fun H locs hP hD hS => ?_)
  refine lv_if_ne (tgt := 33) hx hb dX5_clock_28 (by decide) (fun c => absurd (by decide) c) (fun _ => ?_)
  refine lv_dconst0 hx hb dX5_clock_31 ?_
  exact kq_dret hx hb hr hlk hP hD hS dX5_clock_32
set_option maxHeartbeats 4000000 in
set_option maxRecDepth 100000 in
theorem p_pcr_b1 (u : tm_S) (x : Int32) (h : x < 0 ∨ ¬ x ≤ nI 2) (i mk : Int32) : kr_M l dC dI ad cc yX5_pcr wsX5_pcr { frames := 1, cells := 0, slots := 0, locals := 26 } [.ref (ad 0), .int x, .int i, .int mk] u (tm_I u 14 0 (nI 1)) (some (.long 0)) := by
  refine kq_ofW (cc := cX5_pcr) (maxL := 7) (ret := (some .long)) (R0 := RX5) (by decide) rfl rfl (Nat.le_of_ble_eq_true rfl) ?_
  intro p e s m below meth c A ls hx hb hr hlk hml hown hts hP hK hD hA hG hS hl
  have hl : lv_has ls 7 [(0, .ref (ad 0)), (1, .int x), (2, .int i), (3, .int mk)] := hl
  refine lv_aload_n hx hb dX5_pcr_0 rfl (lv_at hl 0 rfl) ?_
  refine lv_aload_n hx hb dX5_pcr_1 rfl (lv_at hl 0 rfl) ?_
  refine lv_iload_n hx hb dX5_pcr_2 rfl (lv_at hl 1 rfl) ?_
  refine lv_iconst (v := (nI 2)) hx hb dX5_pcr_3 (by decide) ?_
  refine kq_cV (st1 := [.int (nI 1), .ref (ad 0)]) ⟨hx, hb, hml, hown, hts⟩ (r_out_no u h) (cwV 2 hts gX5_109_X5_out rfl rfl rfl (by decide +kernel) ⟨Nat.le_of_ble_eq_true rfl, Nat.le_of_ble_eq_true rfl⟩) kq_okT hK hP hD hA hG hS (va_recv hK hP (ci := 5) (q0 := 0) rfl (tm_at (i := 0) (by omega) rfl)) rfl hl.1 rfl rfl (Nat.le_of_ble_eq_true rfl) dX5_pcr_4 ⟨Nat.le_of_ble_eq_true rfl, Nat.le_of_ble_eq_true rfl⟩ (fun H locs hP hD hS => ?_)
  refine lv_if_ne (tgt := 31) hx hb dX5_pcr_7 (by decide) (fun _ => ?_) (fun c => absurd c (by decide))
  refine lv_iconst (v := (nI 1)) hx hb dX5_pcr_31 (by decide) ?_
  refine lv_goto (tgt := 36) hx hb dX5_pcr_32 (by decide) ?_
  refine kq_cV (st1 := [.int (nI 0)]) ⟨hx, hb, hml, hown, hts⟩ (r_begin_bad u) (cwV 1 hts gX5_113_X5_begin rfl rfl rfl (by decide +kernel) ⟨Nat.le_of_ble_eq_true rfl, Nat.le_of_ble_eq_true rfl⟩) kq_okT hK hP hD hA hG hS (va_recv hK hP (ci := 5) (q0 := 0) rfl (tm_at (i := 0) (by omega) rfl)) rfl hl.1 rfl rfl (Nat.le_of_ble_eq_true rfl) dX5_pcr_36 ⟨Nat.le_of_ble_eq_true rfl, Nat.le_of_ble_eq_true rfl⟩ (fun H locs hP hD hS => ?_)
  refine lv_if_ne (tgt := 44) hx hb dX5_pcr_39 (by decide) (fun c => absurd (by decide) c) (fun _ => ?_)
  refine lv_lconst (v := 0) hx hb dX5_pcr_42 (by decide) ?_
  exact kq_lret hx hb hr hlk hP hD hS dX5_pcr_43
set_option maxHeartbeats 4000000 in
set_option maxRecDepth 100000 in
theorem p_pcr_b2 (u : tm_S) {j : Nat} (hj : j < 3) (x : Int32) (h : x < 0 ∨ ¬ x ≤ nI 1) (mk : Int32) : kr_M l dC dI ad cc yX5_pcr wsX5_pcr { frames := 1, cells := 0, slots := 0, locals := 26 } [.ref (ad 0), .int (nI j), .int x, .int mk] u (tm_I u 14 0 (nI 1)) (some (.long 0)) := by
  refine kq_ofW (cc := cX5_pcr) (maxL := 7) (ret := (some .long)) (R0 := RX5) (by decide) rfl rfl (Nat.le_of_ble_eq_true rfl) ?_
  intro p e s m below meth c A ls hx hb hr hlk hml hown hts hP hK hD hA hG hS hl
  have hl : lv_has ls 7 [(0, .ref (ad 0)), (1, .int (nI j)), (2, .int x), (3, .int mk)] := hl
  refine lv_aload_n hx hb dX5_pcr_0 rfl (lv_at hl 0 rfl) ?_
  refine lv_aload_n hx hb dX5_pcr_1 rfl (lv_at hl 0 rfl) ?_
  refine lv_iload_n hx hb dX5_pcr_2 rfl (lv_at hl 1 rfl) ?_
  refine lv_iconst (v := (nI 2)) hx hb dX5_pcr_3 (by decide) ?_
  refine kq_cV (st1 := [.int (nI 0), .ref (ad 0)]) ⟨hx, hb, hml, hown, hts⟩ (r_out_in u (by omega) (by omega)) (cwV 2 hts gX5_109_X5_out rfl rfl rfl (by decide +kernel) ⟨Nat.le_of_ble_eq_true rfl, Nat.le_of_ble_eq_true rfl⟩) kq_okT hK hP hD hA hG hS (va_recv hK hP (ci := 5) (q0 := 0) rfl (tm_at (i := 0) (by omega) rfl)) rfl hl.1 rfl rfl (Nat.le_of_ble_eq_true rfl) dX5_pcr_4 ⟨Nat.le_of_ble_eq_true rfl, Nat.le_of_ble_eq_true rfl⟩ (fun H locs hP hD hS => ?_)
  refine lv_if_ne (tgt := 31) hx hb dX5_pcr_7 (by decide) (fun c => absurd (by decide) c) (fun _ => ?_)
  refine lv_aload_n hx hb dX5_pcr_10 rfl (lv_at hl 0 rfl) ?_
  refine lv_iload_n hx hb dX5_pcr_11 rfl (lv_at hl 2 rfl) ?_
  refine lv_iconst (v := (nI 1)) hx hb dX5_pcr_12 (by decide) ?_
  refine kq_cV (st1 := [.int (nI 1), .ref (ad 0)]) ⟨hx, hb, hml, hown, hts⟩ (r_out_no u h) (cwV 2 hts gX5_109_X5_out rfl rfl rfl (by decide +kernel) ⟨Nat.le_of_ble_eq_true rfl, Nat.le_of_ble_eq_true rfl⟩) kq_okT hK hP hD hA hG hS (va_recv hK hP (ci := 5) (q0 := 0) rfl (tm_at (i := 0) (by omega) rfl)) rfl hl.1 rfl rfl (Nat.le_of_ble_eq_true rfl) dX5_pcr_13 ⟨Nat.le_of_ble_eq_true rfl, Nat.le_of_ble_eq_true rfl⟩ (fun H locs hP hD hS => ?_)
  refine lv_if_ne (tgt := 31) hx hb dX5_pcr_16 (by decide) (fun _ => ?_) (fun c => absurd c (by decide))
  refine lv_iconst (v := (nI 1)) hx hb dX5_pcr_31 (by decide) ?_
  refine lv_goto (tgt := 36) hx hb dX5_pcr_32 (by decide) ?_
  refine kq_cV (st1 := [.int (nI 0)]) ⟨hx, hb, hml, hown, hts⟩ (r_begin_bad u) (cwV 1 hts gX5_113_X5_begin rfl rfl rfl (by decide +kernel) ⟨Nat.le_of_ble_eq_true rfl, Nat.le_of_ble_eq_true rfl⟩) kq_okT hK hP hD hA hG hS (va_recv hK hP (ci := 5) (q0 := 0) rfl (tm_at (i := 0) (by omega) rfl)) rfl hl.1 rfl rfl (Nat.le_of_ble_eq_true rfl) dX5_pcr_36 ⟨Nat.le_of_ble_eq_true rfl, Nat.le_of_ble_eq_true rfl⟩ (fun H locs hP hD hS => ?_)
  refine lv_if_ne (tgt := 44) hx hb dX5_pcr_39 (by decide) (fun c => absurd (by decide) c) (fun _ => ?_)
  refine lv_lconst (v := 0) hx hb dX5_pcr_42 (by decide) ?_
  exact kq_lret hx hb hr hlk hP hD hS dX5_pcr_43
set_option maxHeartbeats 4000000 in
set_option maxRecDepth 100000 in
theorem p_pcr_b3 (u : tm_S) {j i : Nat} (hj : j < 3) (hi : i < 2) (mk : Int32) (h : mk < nI 1) : kr_M l dC dI ad cc yX5_pcr wsX5_pcr { frames := 1, cells := 0, slots := 0, locals := 26 } [.ref (ad 0), .int (nI j), .int (nI i), .int mk] u (tm_I u 14 0 (nI 1)) (some (.long 0)) := by
  refine kq_ofW (cc := cX5_pcr) (maxL := 7) (ret := (some .long)) (R0 := RX5) (by decide) rfl rfl (Nat.le_of_ble_eq_true rfl) ?_
  intro p e s m below meth c A ls hx hb hr hlk hml hown hts hP hK hD hA hG hS hl
  have hl : lv_has ls 7 [(0, .ref (ad 0)), (1, .int (nI j)), (2, .int (nI i)), (3, .int mk)] := hl
  refine lv_aload_n hx hb dX5_pcr_0 rfl (lv_at hl 0 rfl) ?_
  refine lv_aload_n hx hb dX5_pcr_1 rfl (lv_at hl 0 rfl) ?_
  refine lv_iload_n hx hb dX5_pcr_2 rfl (lv_at hl 1 rfl) ?_
  refine lv_iconst (v := (nI 2)) hx hb dX5_pcr_3 (by decide) ?_
  refine kq_cV (st1 := [.int (nI 0), .ref (ad 0)]) ⟨hx, hb, hml, hown, hts⟩ (r_out_in u (by omega) (by omega)) (cwV 2 hts gX5_109_X5_out rfl rfl rfl (by decide +kernel) ⟨Nat.le_of_ble_eq_true rfl, Nat.le_of_ble_eq_true rfl⟩) kq_okT hK hP hD hA hG hS (va_recv hK hP (ci := 5) (q0 := 0) rfl (tm_at (i := 0) (by omega) rfl)) rfl hl.1 rfl rfl (Nat.le_of_ble_eq_true rfl) dX5_pcr_4 ⟨Nat.le_of_ble_eq_true rfl, Nat.le_of_ble_eq_true rfl⟩ (fun H locs hP hD hS => ?_)
  refine lv_if_ne (tgt := 31) hx hb dX5_pcr_7 (by decide) (fun c => absurd (by decide) c) (fun _ => ?_)
  refine lv_aload_n hx hb dX5_pcr_10 rfl (lv_at hl 0 rfl) ?_
  refine lv_iload_n hx hb dX5_pcr_11 rfl (lv_at hl 2 rfl) ?_
  refine lv_iconst (v := (nI 1)) hx hb dX5_pcr_12 (by decide) ?_
  refine kq_cV (st1 := [.int (nI 0), .ref (ad 0)]) ⟨hx, hb, hml, hown, hts⟩ (r_out_in u (by omega) (by omega)) (cwV 2 hts gX5_109_X5_out rfl rfl rfl (by decide +kernel) ⟨Nat.le_of_ble_eq_true rfl, Nat.le_of_ble_eq_true rfl⟩) kq_okT hK hP hD hA hG hS (va_recv hK hP (ci := 5) (q0 := 0) rfl (tm_at (i := 0) (by omega) rfl)) rfl hl.1 rfl rfl (Nat.le_of_ble_eq_true rfl) dX5_pcr_13 ⟨Nat.le_of_ble_eq_true rfl, Nat.le_of_ble_eq_true rfl⟩ (fun H locs hP hD hS => ?_)
  refine lv_if_ne (tgt := 31) hx hb dX5_pcr_16 (by decide) (fun c => absurd (by decide) c) (fun _ => ?_)
  refine lv_iload_n hx hb dX5_pcr_19 rfl (lv_at hl 3 rfl) ?_
  refine lv_iconst (v := (nI 1)) hx hb dX5_pcr_20 (by decide) ?_
  refine lv_icmp_lt (tgt := 31) hx hb dX5_pcr_21 (by decide) (fun _ => ?_) (fun c => absurd h c)
  refine lv_iconst (v := (nI 1)) hx hb dX5_pcr_31 (by decide) ?_
  refine lv_goto (tgt := 36) hx hb dX5_pcr_32 (by decide) ?_
  refine kq_cV (st1 := [.int (nI 0)]) ⟨hx, hb, hml, hown, hts⟩ (r_begin_bad u) (cwV 1 hts gX5_113_X5_begin rfl rfl rfl (by decide +kernel) ⟨Nat.le_of_ble_eq_true rfl, Nat.le_of_ble_eq_true rfl⟩) kq_okT hK hP hD hA hG hS (va_recv hK hP (ci := 5) (q0 := 0) rfl (tm_at (i := 0) (by omega) rfl)) rfl hl.1 rfl rfl (Nat.le_of_ble_eq_true rfl) dX5_pcr_36 ⟨Nat.le_of_ble_eq_true rfl, Nat.le_of_ble_eq_true rfl⟩ (fun H locs hP hD hS => ?_)
  refine lv_if_ne (tgt := 44) hx hb dX5_pcr_39 (by decide) (fun c => absurd (by decide) c) (fun _ => ?_)
  refine lv_lconst (v := 0) hx hb dX5_pcr_42 (by decide) ?_
  exact kq_lret hx hb hr hlk hP hD hS dX5_pcr_43
set_option maxHeartbeats 4000000 in
set_option maxRecDepth 100000 in
theorem p_pcr_b4 (u : tm_S) {j i : Nat} (hj : j < 3) (hi : i < 2) (mk : Int32) (h : ¬ mk < nI 1) (h2 : ¬ mk ≤ nI 255) : kr_M l dC dI ad cc yX5_pcr wsX5_pcr { frames := 1, cells := 0, slots := 0, locals := 26 } [.ref (ad 0), .int (nI j), .int (nI i), .int mk] u (tm_I u 14 0 (nI 1)) (some (.long 0)) := by
  refine kq_ofW (cc := cX5_pcr) (maxL := 7) (ret := (some .long)) (R0 := RX5) (by decide) rfl rfl (Nat.le_of_ble_eq_true rfl) ?_
  intro p e s m below meth c A ls hx hb hr hlk hml hown hts hP hK hD hA hG hS hl
  have hl : lv_has ls 7 [(0, .ref (ad 0)), (1, .int (nI j)), (2, .int (nI i)), (3, .int mk)] := hl
  refine lv_aload_n hx hb dX5_pcr_0 rfl (lv_at hl 0 rfl) ?_
  refine lv_aload_n hx hb dX5_pcr_1 rfl (lv_at hl 0 rfl) ?_
  refine lv_iload_n hx hb dX5_pcr_2 rfl (lv_at hl 1 rfl) ?_
  refine lv_iconst (v := (nI 2)) hx hb dX5_pcr_3 (by decide) ?_
  refine kq_cV (st1 := [.int (nI 0), .ref (ad 0)]) ⟨hx, hb, hml, hown, hts⟩ (r_out_in u (by omega) (by omega)) (cwV 2 hts gX5_109_X5_out rfl rfl rfl (by decide +kernel) ⟨Nat.le_of_ble_eq_true rfl, Nat.le_of_ble_eq_true rfl⟩) kq_okT hK hP hD hA hG hS (va_recv hK hP (ci := 5) (q0 := 0) rfl (tm_at (i := 0) (by omega) rfl)) rfl hl.1 rfl rfl (Nat.le_of_ble_eq_true rfl) dX5_pcr_4 ⟨Nat.le_of_ble_eq_true rfl, Nat.le_of_ble_eq_true rfl⟩ (fun H locs hP hD hS => ?_)
  refine lv_if_ne (tgt := 31) hx hb dX5_pcr_7 (by decide) (fun c => absurd (by decide) c) (fun _ => ?_)
  refine lv_aload_n hx hb dX5_pcr_10 rfl (lv_at hl 0 rfl) ?_
  refine lv_iload_n hx hb dX5_pcr_11 rfl (lv_at hl 2 rfl) ?_
  refine lv_iconst (v := (nI 1)) hx hb dX5_pcr_12 (by decide) ?_
  refine kq_cV (st1 := [.int (nI 0), .ref (ad 0)]) ⟨hx, hb, hml, hown, hts⟩ (r_out_in u (by omega) (by omega)) (cwV 2 hts gX5_109_X5_out rfl rfl rfl (by decide +kernel) ⟨Nat.le_of_ble_eq_true rfl, Nat.le_of_ble_eq_true rfl⟩) kq_okT hK hP hD hA hG hS (va_recv hK hP (ci := 5) (q0 := 0) rfl (tm_at (i := 0) (by omega) rfl)) rfl hl.1 rfl rfl (Nat.le_of_ble_eq_true rfl) dX5_pcr_13 ⟨Nat.le_of_ble_eq_true rfl, Nat.le_of_ble_eq_true rfl⟩ (fun H locs hP hD hS => ?_)
  refine lv_if_ne (tgt := 31) hx hb dX5_pcr_16 (by decide) (fun c => absurd (by decide) c) (fun _ => ?_)
  refine lv_iload_n hx hb dX5_pcr_19 rfl (lv_at hl 3 rfl) ?_
  refine lv_iconst (v := (nI 1)) hx hb dX5_pcr_20 (by decide) ?_
  refine lv_icmp_lt (tgt := 31) hx hb dX5_pcr_21 (by decide) (fun c => absurd c h) (fun _ => ?_)
  refine lv_iload_n hx hb dX5_pcr_24 rfl (lv_at hl 3 rfl) ?_
  refine lv_sipush (v := (nI 255)) hx hb dX5_pcr_25 (by decide) ?_
  refine lv_icmp_le (tgt := 35) hx hb dX5_pcr_28 (by decide) (fun c => absurd c h2) (fun _ => ?_)
  refine lv_iconst (v := (nI 1)) hx hb dX5_pcr_31 (by decide) ?_
  refine lv_goto (tgt := 36) hx hb dX5_pcr_32 (by decide) ?_
  refine kq_cV (st1 := [.int (nI 0)]) ⟨hx, hb, hml, hown, hts⟩ (r_begin_bad u) (cwV 1 hts gX5_113_X5_begin rfl rfl rfl (by decide +kernel) ⟨Nat.le_of_ble_eq_true rfl, Nat.le_of_ble_eq_true rfl⟩) kq_okT hK hP hD hA hG hS (va_recv hK hP (ci := 5) (q0 := 0) rfl (tm_at (i := 0) (by omega) rfl)) rfl hl.1 rfl rfl (Nat.le_of_ble_eq_true rfl) dX5_pcr_36 ⟨Nat.le_of_ble_eq_true rfl, Nat.le_of_ble_eq_true rfl⟩ (fun H locs hP hD hS => ?_)
  refine lv_if_ne (tgt := 44) hx hb dX5_pcr_39 (by decide) (fun c => absurd (by decide) c) (fun _ => ?_)
  refine lv_lconst (v := 0) hx hb dX5_pcr_42 (by decide) ?_
  exact kq_lret hx hb hr hlk hP hD hS dX5_pcr_43
set_option maxHeartbeats 4000000 in
set_option maxRecDepth 100000 in
theorem p_pcr_lo (u : tm_S) {j i : Nat} (hj : j < 3) (hi : i < 2) (mk : Int32) (h : ¬ mk < nI 1) (h2 : mk ≤ nI 255) (hlo : ¬ u.2.1 11 0 = 0) : kr_M l dC dI ad cc yX5_pcr wsX5_pcr { frames := 1, cells := 0, slots := 0, locals := 26 } [.ref (ad 0), .int (nI j), .int (nI i), .int mk] u (tm_I u 14 0 (nI 2)) (some (.long 0)) := by
  refine kq_ofW (cc := cX5_pcr) (maxL := 7) (ret := (some .long)) (R0 := RX5) (by decide) rfl rfl (Nat.le_of_ble_eq_true rfl) ?_
  intro p e s m below meth c A ls hx hb hr hlk hml hown hts hP hK hD hA hG hS hl
  have hl : lv_has ls 7 [(0, .ref (ad 0)), (1, .int (nI j)), (2, .int (nI i)), (3, .int mk)] := hl
  refine lv_aload_n hx hb dX5_pcr_0 rfl (lv_at hl 0 rfl) ?_
  refine lv_aload_n hx hb dX5_pcr_1 rfl (lv_at hl 0 rfl) ?_
  refine lv_iload_n hx hb dX5_pcr_2 rfl (lv_at hl 1 rfl) ?_
  refine lv_iconst (v := (nI 2)) hx hb dX5_pcr_3 (by decide) ?_
  refine kq_cV (st1 := [.int (nI 0), .ref (ad 0)]) ⟨hx, hb, hml, hown, hts⟩ (r_out_in u (by omega) (by omega)) (cwV 2 hts gX5_109_X5_out rfl rfl rfl (by decide +kernel) ⟨Nat.le_of_ble_eq_true rfl, Nat.le_of_ble_eq_true rfl⟩) kq_okT hK hP hD hA hG hS (va_recv hK hP (ci := 5) (q0 := 0) rfl (tm_at (i := 0) (by omega) rfl)) rfl hl.1 rfl rfl (Nat.le_of_ble_eq_true rfl) dX5_pcr_4 ⟨Nat.le_of_ble_eq_true rfl, Nat.le_of_ble_eq_true rfl⟩ (fun H locs hP hD hS => ?_)
  refine lv_if_ne (tgt := 31) hx hb dX5_pcr_7 (by decide) (fun c => absurd (by decide) c) (fun _ => ?_)
  refine lv_aload_n hx hb dX5_pcr_10 rfl (lv_at hl 0 rfl) ?_
  refine lv_iload_n hx hb dX5_pcr_11 rfl (lv_at hl 2 rfl) ?_
  refine lv_iconst (v := (nI 1)) hx hb dX5_pcr_12 (by decide) ?_
  refine kq_cV (st1 := [.int (nI 0), .ref (ad 0)]) ⟨hx, hb, hml, hown, hts⟩ (r_out_in u (by omega) (by omega)) (cwV 2 hts gX5_109_X5_out rfl rfl rfl (by decide +kernel) ⟨Nat.le_of_ble_eq_true rfl, Nat.le_of_ble_eq_true rfl⟩) kq_okT hK hP hD hA hG hS (va_recv hK hP (ci := 5) (q0 := 0) rfl (tm_at (i := 0) (by omega) rfl)) rfl hl.1 rfl rfl (Nat.le_of_ble_eq_true rfl) dX5_pcr_13 ⟨Nat.le_of_ble_eq_true rfl, Nat.le_of_ble_eq_true rfl⟩ (fun H locs hP hD hS => ?_)
  refine lv_if_ne (tgt := 31) hx hb dX5_pcr_16 (by decide) (fun c => absurd (by decide) c) (fun _ => ?_)
  refine lv_iload_n hx hb dX5_pcr_19 rfl (lv_at hl 3 rfl) ?_
  refine lv_iconst (v := (nI 1)) hx hb dX5_pcr_20 (by decide) ?_
  refine lv_icmp_lt (tgt := 31) hx hb dX5_pcr_21 (by decide) (fun c => absurd c h) (fun _ => ?_)
  refine lv_iload_n hx hb dX5_pcr_24 rfl (lv_at hl 3 rfl) ?_
  refine lv_sipush (v := (nI 255)) hx hb dX5_pcr_25 (by decide) ?_
  refine lv_icmp_le (tgt := 35) hx hb dX5_pcr_28 (by decide) (fun _ => ?_) (fun c => absurd h2 c)
  refine lv_iconst (v := (nI 0)) hx hb dX5_pcr_35 (by decide) ?_
  refine kq_cV (st1 := [.int (nI 0)]) ⟨hx, hb, hml, hown, hts⟩ (r_begin_lost u hlo) (cwV 1 hts gX5_113_X5_begin rfl rfl rfl (by decide +kernel) ⟨Nat.le_of_ble_eq_true rfl, Nat.le_of_ble_eq_true rfl⟩) kq_okT hK hP hD hA hG hS (va_recv hK hP (ci := 5) (q0 := 0) rfl (tm_at (i := 0) (by omega) rfl)) rfl hl.1 rfl rfl (Nat.le_of_ble_eq_true rfl) dX5_pcr_36 ⟨Nat.le_of_ble_eq_true rfl, Nat.le_of_ble_eq_true rfl⟩ (fun H locs hP hD hS => ?_)
  refine lv_if_ne (tgt := 44) hx hb dX5_pcr_39 (by decide) (fun c => absurd (by decide) c) (fun _ => ?_)
  refine lv_lconst (v := 0) hx hb dX5_pcr_42 (by decide) ?_
  exact kq_lret hx hb hr hlk hP hD hS dX5_pcr_43
end S22
