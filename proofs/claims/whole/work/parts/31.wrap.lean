section S31
variable {l : Launch} {dC : Nat → ClassId} {dI : Nat → Nat → Nat} {gs : Nat → Nat} {ad : Nat → Nat} {cc cr : Nat → ClassId} {cd : ClassId}
set_option maxHeartbeats 4000000 in
set_option maxRecDepth 100000 in
theorem w_power_ok (p0 : Int32) {u u' v : tm_S} {o : Int64 × UInt64} (hM : kc_M l dC dI gs ad cc yX4_power wsX4_power { frames := 7, cells := 0, slots := 0, locals := 104 } [.ref (ad 0), .int p0] u u' none) : kl_M l dC dI gs ad cc cr cd yL_power wsL_power { frames := 8, cells := 1, slots := 6, locals := 125 } [.ref (ad 0), .int p0] u v o u' v o (nI 0) := by
  refine kl_ofW (cb := cL_power) (maxL := 3) (hh := [(0, 5, 8, 13)]) (by decide) rfl rfl (Nat.le_of_ble_eq_true rfl) ?_
  intro p e s m below meth c A ls hx hb hr hlk hml hown hts hP hK hD hA hG hS hl hTab
  have hl : lv_has ls 3 [(0, .ref (ad 0)), (1, .int p0)] := hl
  refine lv_aload_n hx hb dL_power_0 rfl (lv_at hl 0 rfl) ?_
  refine lv_iload_n hx hb dL_power_1 rfl (lv_at hl 1 rfl) ?_
  refine kl_cV (st1 := []) ⟨hx, hb, hml, hown, hts⟩ hM (cwV 1 hts gL_7_X4_power rfl rfl rfl (by decide +kernel) ⟨Nat.le_of_ble_eq_true rfl, Nat.le_of_ble_eq_true rfl⟩) hK hP hD hA hG hS rfl hl.1 rfl rfl (Nat.le_of_ble_eq_true rfl) dL_power_2 ⟨Nat.le_of_ble_eq_true rfl, Nat.le_of_ble_eq_true rfl⟩ (fun H locs hP hD hS => ?_)
  refine lv_goto (tgt := 11) hx hb dL_power_5 (by decide) ?_
  refine lv_iconst (v := (nI 0)) hx hb dL_power_11 (by decide) ?_
  exact W.widen (k := 1) (n := 6) (Nat.le_of_ble_eq_true rfl) (Nat.le_of_ble_eq_true rfl) (kq_iret hx hb hr hlk hP hD hS dL_power_12)
set_option maxHeartbeats 4000000 in
set_option maxRecDepth 100000 in
theorem w_power_x1 (p0 : Int32) {u u' v : tm_S} {o : Int64 × UInt64} (hM : kc_T l dC dI gs ad cc yX4_power wsX4_power { frames := 7, cells := 1, slots := 6, locals := 104 } [.ref (ad 0), .int p0] u u' "java/lang/IllegalArgumentException") : kl_M l dC dI gs ad cc cr cd yL_power wsL_power { frames := 8, cells := 1, slots := 6, locals := 125 } [.ref (ad 0), .int p0] u v o u' v o (nI 1) := by
  refine kl_ofW (cb := cL_power) (maxL := 3) (hh := [(0, 5, 8, 13)]) (by decide) rfl rfl (Nat.le_of_ble_eq_true rfl) ?_
  intro p e s m below meth c A ls hx hb hr hlk hml hown hts hP hK hD hA hG hS hl hTab
  have hl : lv_has ls 3 [(0, .ref (ad 0)), (1, .int p0)] := hl
  refine lv_aload_n hx hb dL_power_0 rfl (lv_at hl 0 rfl) ?_
  refine lv_iload_n hx hb dL_power_1 rfl (lv_at hl 1 rfl) ?_
  refine kl_xV ⟨hx, hb, hml, hown, hts⟩ hM (cwV 1 hts gL_7_X4_power rfl rfl rfl (by decide +kernel) ⟨Nat.le_of_ble_eq_true rfl, Nat.le_of_ble_eq_true rfl⟩) hK hP hD hA hG hS rfl hl.1 rfl (Nat.le_of_ble_eq_true rfl) dL_power_2 ⟨Nat.le_of_ble_eq_true rfl, Nat.le_of_ble_eq_true rfl⟩ [] ⟨0, 5, 8, 13⟩ [] (by rw [hTab]; rfl) (fun z hz => nomatch hz) (by decide) (by decide) (hts _ mb_217) (va_Nw.use rfl (tm_GX hG (tm_inX 227 (by decide +kernel) rfl))) (fun q H locs hP hD hS => ?_)
  refine lv_astore_n (lv' := [(2, .ref q), (0, .ref (ad 0)), (1, .int p0)]) hx hb dL_power_8 rfl hl (by decide) rfl (fun ls hl => ?_)
  refine lv_iconst (v := (nI 1)) hx hb dL_power_9 (by decide) ?_
  exact kq_iret hx hb hr hlk hP hD hS dL_power_10
set_option maxHeartbeats 4000000 in
set_option maxRecDepth 100000 in
theorem w_extend_ok (p0 : Int32) (p1 : Int32) (p2 : Int64) {u u' v : tm_S} {o : Int64 × UInt64} {r : Int64} (hM : kc_M l dC dI gs ad cc yX4_extend wsX4_extend { frames := 8, cells := 0, slots := 0, locals := 125 } [.ref (ad 0), .int p0, .int p1, .long p2] u u' (some (.long r))) : kl_M l dC dI gs ad cc cr cd yL_extend wsL_extend { frames := 9, cells := 1, slots := 6, locals := 149 } [.ref (ad 0), .int p0, .int p1, .long p2, .ref (ad 55)] u v o u' v (r, o.2) (nI 0) := by
  refine kl_ofW (cb := cL_extend) (maxL := 7) (hh := [(0, 11, 14, 13), (0, 11, 18, 19)]) (by decide) rfl rfl (Nat.le_of_ble_eq_true rfl) ?_
  intro p e s m below meth c A ls hx hb hr hlk hml hown hts hP hK hD hA hG hS hl hTab
  have hl : lv_has ls 7 [(0, .ref (ad 0)), (1, .int p0), (2, .int p1), (3, .long p2), (5, .ref (ad 55))] := hl
  refine lv_aload hx hb dL_extend_0 (lv_at hl 4 rfl) ?_
  refine lv_iconst (v := (nI 0)) hx hb dL_extend_2 (by decide) ?_
  refine lv_aload_n hx hb dL_extend_3 rfl (lv_at hl 0 rfl) ?_
  refine lv_iload_n hx hb dL_extend_4 rfl (lv_at hl 1 rfl) ?_
  refine lv_iload_n hx hb dL_extend_5 rfl (lv_at hl 2 rfl) ?_
  refine lv_lload_n hx hb dL_extend_6 rfl (lv_at hl 3 rfl) ?_
  refine kl_cV (st1 := [.long r, .int (nI 0), .ref (ad 55)]) ⟨hx, hb, hml, hown, hts⟩ hM (cwV 3 hts gL_15_X4_extend rfl rfl rfl (by decide +kernel) ⟨Nat.le_of_ble_eq_true rfl, Nat.le_of_ble_eq_true rfl⟩) hK hP hD hA hG hS rfl hl.1 rfl rfl (Nat.le_of_ble_eq_true rfl) dL_extend_7 ⟨Nat.le_of_ble_eq_true rfl, Nat.le_of_ble_eq_true rfl⟩ (fun H locs hP hD hS => ?_)
  refine tl_t5 hx hb hK hP hD hS dL_extend_10 (fun H locs hP hD hS => ?_)
  refine lv_goto (tgt := 22) hx hb dL_extend_11 (by decide) ?_
  refine lv_iconst (v := (nI 0)) hx hb dL_extend_22 (by decide) ?_
  exact W.widen (k := 1) (n := 6) (Nat.le_of_ble_eq_true rfl) (Nat.le_of_ble_eq_true rfl) (kq_iret hx hb hr hlk hP hD hS dL_extend_23)
set_option maxHeartbeats 4000000 in
set_option maxRecDepth 100000 in
theorem w_extend_x1 (p0 : Int32) (p1 : Int32) (p2 : Int64) {u u' v : tm_S} {o : Int64 × UInt64} (hM : kc_T l dC dI gs ad cc yX4_extend wsX4_extend { frames := 8, cells := 1, slots := 6, locals := 125 } [.ref (ad 0), .int p0, .int p1, .long p2] u u' "java/lang/IllegalArgumentException") : kl_M l dC dI gs ad cc cr cd yL_extend wsL_extend { frames := 9, cells := 1, slots := 6, locals := 149 } [.ref (ad 0), .int p0, .int p1, .long p2, .ref (ad 55)] u v o u' v o (nI 1) := by
  refine kl_ofW (cb := cL_extend) (maxL := 7) (hh := [(0, 11, 14, 13), (0, 11, 18, 19)]) (by decide) rfl rfl (Nat.le_of_ble_eq_true rfl) ?_
  intro p e s m below meth c A ls hx hb hr hlk hml hown hts hP hK hD hA hG hS hl hTab
  have hl : lv_has ls 7 [(0, .ref (ad 0)), (1, .int p0), (2, .int p1), (3, .long p2), (5, .ref (ad 55))] := hl
  refine lv_aload hx hb dL_extend_0 (lv_at hl 4 rfl) ?_
  refine lv_iconst (v := (nI 0)) hx hb dL_extend_2 (by decide) ?_
  refine lv_aload_n hx hb dL_extend_3 rfl (lv_at hl 0 rfl) ?_
  refine lv_iload_n hx hb dL_extend_4 rfl (lv_at hl 1 rfl) ?_
  refine lv_iload_n hx hb dL_extend_5 rfl (lv_at hl 2 rfl) ?_
  refine lv_lload_n hx hb dL_extend_6 rfl (lv_at hl 3 rfl) ?_
  refine kl_xV ⟨hx, hb, hml, hown, hts⟩ hM (cwV 3 hts gL_15_X4_extend rfl rfl rfl (by decide +kernel) ⟨Nat.le_of_ble_eq_true rfl, Nat.le_of_ble_eq_true rfl⟩) hK hP hD hA hG hS rfl hl.1 rfl (Nat.le_of_ble_eq_true rfl) dL_extend_7 ⟨Nat.le_of_ble_eq_true rfl, Nat.le_of_ble_eq_true rfl⟩ [] ⟨0, 11, 14, 13⟩ [⟨0, 11, 18, 19⟩] (by rw [hTab]; rfl) (fun z hz => nomatch hz) (by decide) (by decide) (hts _ mb_217) (va_Nw.use rfl (tm_GX hG (tm_inX 227 (by decide +kernel) rfl))) (fun q H locs hP hD hS => ?_)
  refine lv_astore (lv' := [(6, .ref q), (0, .ref (ad 0)), (1, .int p0), (2, .int p1), (3, .long p2), (5, .ref (ad 55))]) hx hb dL_extend_14 hl (by decide) rfl (fun ls hl => ?_)
  refine lv_iconst (v := (nI 1)) hx hb dL_extend_16 (by decide) ?_
  exact kq_iret hx hb hr hlk hP hD hS dL_extend_17
set_option maxHeartbeats 4000000 in
set_option maxRecDepth 100000 in
theorem w_extend_x2 (p0 : Int32) (p1 : Int32) (p2 : Int64) {u u' v : tm_S} {o : Int64 × UInt64} (hM : kc_T l dC dI gs ad cc yX4_extend wsX4_extend { frames := 8, cells := 1, slots := 6, locals := 125 } [.ref (ad 0), .int p0, .int p1, .long p2] u u' "java/lang/IllegalStateException") : kl_M l dC dI gs ad cc cr cd yL_extend wsL_extend { frames := 9, cells := 1, slots := 6, locals := 149 } [.ref (ad 0), .int p0, .int p1, .long p2, .ref (ad 55)] u v o u' v o (nI 2) := by
  refine kl_ofW (cb := cL_extend) (maxL := 7) (hh := [(0, 11, 14, 13), (0, 11, 18, 19)]) (by decide) rfl rfl (Nat.le_of_ble_eq_true rfl) ?_
  intro p e s m below meth c A ls hx hb hr hlk hml hown hts hP hK hD hA hG hS hl hTab
  have hl : lv_has ls 7 [(0, .ref (ad 0)), (1, .int p0), (2, .int p1), (3, .long p2), (5, .ref (ad 55))] := hl
  refine lv_aload hx hb dL_extend_0 (lv_at hl 4 rfl) ?_
  refine lv_iconst (v := (nI 0)) hx hb dL_extend_2 (by decide) ?_
  refine lv_aload_n hx hb dL_extend_3 rfl (lv_at hl 0 rfl) ?_
  refine lv_iload_n hx hb dL_extend_4 rfl (lv_at hl 1 rfl) ?_
  refine lv_iload_n hx hb dL_extend_5 rfl (lv_at hl 2 rfl) ?_
  refine lv_lload_n hx hb dL_extend_6 rfl (lv_at hl 3 rfl) ?_
  refine kl_xV ⟨hx, hb, hml, hown, hts⟩ hM (cwV 3 hts gL_15_X4_extend rfl rfl rfl (by decide +kernel) ⟨Nat.le_of_ble_eq_true rfl, Nat.le_of_ble_eq_true rfl⟩) hK hP hD hA hG hS rfl hl.1 rfl (Nat.le_of_ble_eq_true rfl) dL_extend_7 ⟨Nat.le_of_ble_eq_true rfl, Nat.le_of_ble_eq_true rfl⟩ [⟨0, 11, 14, 13⟩] ⟨0, 11, 18, 19⟩ [] (by rw [hTab]; rfl) (List.forall_mem_cons.mpr ⟨Or.inr ⟨by decide, "java/lang/IllegalArgumentException", (hts _ mb_217), tm_Gc hG (by decide) (by decide) (by decide)⟩, fun z hz => nomatch hz⟩) (by decide) (by decide) (hts _ mb_298) (va_Nw.use rfl (tm_GX hG (tm_inX 312 (by decide +kernel) rfl))) (fun q H locs hP hD hS => ?_)
  refine lv_astore (lv' := [(6, .ref q), (0, .ref (ad 0)), (1, .int p0), (2, .int p1), (3, .long p2), (5, .ref (ad 55))]) hx hb dL_extend_18 hl (by decide) rfl (fun ls hl => ?_)
  refine lv_iconst (v := (nI 2)) hx hb dL_extend_20 (by decide) ?_
  exact kq_iret hx hb hr hlk hP hD hS dL_extend_21
set_option maxHeartbeats 4000000 in
set_option maxRecDepth 100000 in
theorem w_primary_ok (p0 : Int32) (p1 : Int64) {u u' v : tm_S} {o : Int64 × UInt64} {r : Int32} (hM : kc_M l dC dI gs ad cc yX4_primary wsX4_primary { frames := 8, cells := 0, slots := 0, locals := 125 } [.ref (ad 0), .int p0, .long p1] u u' (some (.int r))) : kl_M l dC dI gs ad cc cr cd yL_primary wsL_primary { frames := 9, cells := 1, slots := 6, locals := 149 } [.ref (ad 0), .int p0, .long p1, .ref (ad 55)] u v o u' v (r.toInt64, o.2) (nI 0) := by
  refine kl_ofW (cb := cL_primary) (maxL := 6) (hh := [(0, 11, 14, 13), (0, 11, 18, 19)]) (by decide) rfl rfl (Nat.le_of_ble_eq_true rfl) ?_
  intro p e s m below meth c A ls hx hb hr hlk hml hown hts hP hK hD hA hG hS hl hTab
  have hl : lv_has ls 6 [(0, .ref (ad 0)), (1, .int p0), (2, .long p1), (4, .ref (ad 55))] := hl
  refine lv_aload hx hb dL_primary_0 (lv_at hl 3 rfl) ?_
  refine lv_iconst (v := (nI 0)) hx hb dL_primary_2 (by decide) ?_
  refine lv_aload_n hx hb dL_primary_3 rfl (lv_at hl 0 rfl) ?_
  refine lv_iload_n hx hb dL_primary_4 rfl (lv_at hl 1 rfl) ?_
  refine lv_lload_n hx hb dL_primary_5 rfl (lv_at hl 2 rfl) ?_
  refine kl_cV (st1 := [.int r, .int (nI 0), .ref (ad 55)]) ⟨hx, hb, hml, hown, hts⟩ hM (cwV 2 hts gL_21_X4_primary rfl rfl rfl (by decide +kernel) ⟨Nat.le_of_ble_eq_true rfl, Nat.le_of_ble_eq_true rfl⟩) hK hP hD hA hG hS rfl hl.1 rfl rfl (Nat.le_of_ble_eq_true rfl) dL_primary_6 ⟨Nat.le_of_ble_eq_true rfl, Nat.le_of_ble_eq_true rfl⟩ (fun H locs hP hD hS => ?_)
  refine lv_i2l (v := r.toInt64) hx hb dL_primary_9 rfl ?_
  refine tl_t5 hx hb hK hP hD hS dL_primary_10 (fun H locs hP hD hS => ?_)
  refine lv_goto (tgt := 22) hx hb dL_primary_11 (by decide) ?_
  refine lv_iconst (v := (nI 0)) hx hb dL_primary_22 (by decide) ?_
  exact W.widen (k := 1) (n := 6) (Nat.le_of_ble_eq_true rfl) (Nat.le_of_ble_eq_true rfl) (kq_iret hx hb hr hlk hP hD hS dL_primary_23)
set_option maxHeartbeats 4000000 in
set_option maxRecDepth 100000 in
theorem w_primary_x1 (p0 : Int32) (p1 : Int64) {u u' v : tm_S} {o : Int64 × UInt64} (hM : kc_T l dC dI gs ad cc yX4_primary wsX4_primary { frames := 8, cells := 1, slots := 6, locals := 125 } [.ref (ad 0), .int p0, .long p1] u u' "java/lang/IllegalArgumentException") : kl_M l dC dI gs ad cc cr cd yL_primary wsL_primary { frames := 9, cells := 1, slots := 6, locals := 149 } [.ref (ad 0), .int p0, .long p1, .ref (ad 55)] u v o u' v o (nI 1) := by
  refine kl_ofW (cb := cL_primary) (maxL := 6) (hh := [(0, 11, 14, 13), (0, 11, 18, 19)]) (by decide) rfl rfl (Nat.le_of_ble_eq_true rfl) ?_
  intro p e s m below meth c A ls hx hb hr hlk hml hown hts hP hK hD hA hG hS hl hTab
  have hl : lv_has ls 6 [(0, .ref (ad 0)), (1, .int p0), (2, .long p1), (4, .ref (ad 55))] := hl
  refine lv_aload hx hb dL_primary_0 (lv_at hl 3 rfl) ?_
  refine lv_iconst (v := (nI 0)) hx hb dL_primary_2 (by decide) ?_
  refine lv_aload_n hx hb dL_primary_3 rfl (lv_at hl 0 rfl) ?_
  refine lv_iload_n hx hb dL_primary_4 rfl (lv_at hl 1 rfl) ?_
  refine lv_lload_n hx hb dL_primary_5 rfl (lv_at hl 2 rfl) ?_
  refine kl_xV ⟨hx, hb, hml, hown, hts⟩ hM (cwV 2 hts gL_21_X4_primary rfl rfl rfl (by decide +kernel) ⟨Nat.le_of_ble_eq_true rfl, Nat.le_of_ble_eq_true rfl⟩) hK hP hD hA hG hS rfl hl.1 rfl (Nat.le_of_ble_eq_true rfl) dL_primary_6 ⟨Nat.le_of_ble_eq_true rfl, Nat.le_of_ble_eq_true rfl⟩ [] ⟨0, 11, 14, 13⟩ [⟨0, 11, 18, 19⟩] (by rw [hTab]; rfl) (fun z hz => nomatch hz) (by decide) (by decide) (hts _ mb_217) (va_Nw.use rfl (tm_GX hG (tm_inX 227 (by decide +kernel) rfl))) (fun q H locs hP hD hS => ?_)
  refine lv_astore (lv' := [(5, .ref q), (0, .ref (ad 0)), (1, .int p0), (2, .long p1), (4, .ref (ad 55))]) hx hb dL_primary_14 hl (by decide) rfl (fun ls hl => ?_)
  refine lv_iconst (v := (nI 1)) hx hb dL_primary_16 (by decide) ?_
  exact kq_iret hx hb hr hlk hP hD hS dL_primary_17
set_option maxHeartbeats 4000000 in
set_option maxRecDepth 100000 in
theorem w_primary_x2 (p0 : Int32) (p1 : Int64) {u u' v : tm_S} {o : Int64 × UInt64} (hM : kc_T l dC dI gs ad cc yX4_primary wsX4_primary { frames := 8, cells := 1, slots := 6, locals := 125 } [.ref (ad 0), .int p0, .long p1] u u' "java/lang/IllegalStateException") : kl_M l dC dI gs ad cc cr cd yL_primary wsL_primary { frames := 9, cells := 1, slots := 6, locals := 149 } [.ref (ad 0), .int p0, .long p1, .ref (ad 55)] u v o u' v o (nI 2) := by
  refine kl_ofW (cb := cL_primary) (maxL := 6) (hh := [(0, 11, 14, 13), (0, 11, 18, 19)]) (by decide) rfl rfl (Nat.le_of_ble_eq_true rfl) ?_
  intro p e s m below meth c A ls hx hb hr hlk hml hown hts hP hK hD hA hG hS hl hTab
  have hl : lv_has ls 6 [(0, .ref (ad 0)), (1, .int p0), (2, .long p1), (4, .ref (ad 55))] := hl
  refine lv_aload hx hb dL_primary_0 (lv_at hl 3 rfl) ?_
  refine lv_iconst (v := (nI 0)) hx hb dL_primary_2 (by decide) ?_
  refine lv_aload_n hx hb dL_primary_3 rfl (lv_at hl 0 rfl) ?_
  refine lv_iload_n hx hb dL_primary_4 rfl (lv_at hl 1 rfl) ?_
  refine lv_lload_n hx hb dL_primary_5 rfl (lv_at hl 2 rfl) ?_
  refine kl_xV ⟨hx, hb, hml, hown, hts⟩ hM (cwV 2 hts gL_21_X4_primary rfl rfl rfl (by decide +kernel) ⟨Nat.le_of_ble_eq_true rfl, Nat.le_of_ble_eq_true rfl⟩) hK hP hD hA hG hS rfl hl.1 rfl (Nat.le_of_ble_eq_true rfl) dL_primary_6 ⟨Nat.le_of_ble_eq_true rfl, Nat.le_of_ble_eq_true rfl⟩ [⟨0, 11, 14, 13⟩] ⟨0, 11, 18, 19⟩ [] (by rw [hTab]; rfl) (List.forall_mem_cons.mpr ⟨Or.inr ⟨by decide, "java/lang/IllegalArgumentException", (hts _ mb_217), tm_Gc hG (by decide) (by decide) (by decide)⟩, fun z hz => nomatch hz⟩) (by decide) (by decide) (hts _ mb_298) (va_Nw.use rfl (tm_GX hG (tm_inX 312 (by decide +kernel) rfl))) (fun q H locs hP hD hS => ?_)
  refine lv_astore (lv' := [(5, .ref q), (0, .ref (ad 0)), (1, .int p0), (2, .long p1), (4, .ref (ad 55))]) hx hb dL_primary_18 hl (by decide) rfl (fun ls hl => ?_)
  refine lv_iconst (v := (nI 2)) hx hb dL_primary_20 (by decide) ?_
  exact kq_iret hx hb hr hlk hP hD hS dL_primary_21
set_option maxHeartbeats 4000000 in
set_option maxRecDepth 100000 in
theorem w_create_ok (p0 : Int32) (p1 : Int32) (p2 : Int64) (p3 : Int32) (p4 : Int64) {u u' v : tm_S} {o : Int64 × UInt64} (hM : kc_M l dC dI gs ad cc yX4_create wsX4_create { frames := 8, cells := 0, slots := 0, locals := 125 } [.ref (ad 0), .int p0, .int p1, .long p2, .int p3, .long p4] u u' none) : kl_M l dC dI gs ad cc cr cd yL_create wsL_create { frames := 9, cells := 1, slots := 6, locals := 153 } [.ref (ad 0), .int p0, .int p1, .long p2, .int p3, .long p4] u v o u' v o (nI 0) := by
  refine kl_ofW (cb := cL_create) (maxL := 9) (hh := [(0, 11, 14, 13), (0, 11, 18, 19), (0, 11, 22, 29), (0, 11, 26, 31)]) (by decide) rfl rfl (Nat.le_of_ble_eq_true rfl) ?_
  intro p e s m below meth c A ls hx hb hr hlk hml hown hts hP hK hD hA hG hS hl hTab
  have hl : lv_has ls 9 [(0, .ref (ad 0)), (1, .int p0), (2, .int p1), (3, .long p2), (5, .int p3), (6, .long p4)] := hl
  refine lv_aload_n hx hb dL_create_0 rfl (lv_at hl 0 rfl) ?_
  refine lv_iload_n hx hb dL_create_1 rfl (lv_at hl 1 rfl) ?_
  refine lv_iload_n hx hb dL_create_2 rfl (lv_at hl 2 rfl) ?_
  refine lv_lload_n hx hb dL_create_3 rfl (lv_at hl 3 rfl) ?_
  refine lv_iload hx hb dL_create_4 (lv_at hl 4 rfl) ?_
  refine lv_lload hx hb dL_create_6 (lv_at hl 5 rfl) ?_
  refine kl_cV (st1 := []) ⟨hx, hb, hml, hown, hts⟩ hM (cwV 5 hts gL_25_X4_create rfl rfl rfl (by decide +kernel) ⟨Nat.le_of_ble_eq_true rfl, Nat.le_of_ble_eq_true rfl⟩) hK hP hD hA hG hS rfl hl.1 rfl rfl (Nat.le_of_ble_eq_true rfl) dL_create_8 ⟨Nat.le_of_ble_eq_true rfl, Nat.le_of_ble_eq_true rfl⟩ (fun H locs hP hD hS => ?_)
  refine lv_goto (tgt := 30) hx hb dL_create_11 (by decide) ?_
  refine lv_iconst (v := (nI 0)) hx hb dL_create_30 (by decide) ?_
  exact W.widen (k := 1) (n := 6) (Nat.le_of_ble_eq_true rfl) (Nat.le_of_ble_eq_true rfl) (kq_iret hx hb hr hlk hP hD hS dL_create_31)
set_option maxHeartbeats 4000000 in
set_option maxRecDepth 100000 in
theorem w_create_x1 (p0 : Int32) (p1 : Int32) (p2 : Int64) (p3 : Int32) (p4 : Int64) {u u' v : tm_S} {o : Int64 × UInt64} (hM : kc_T l dC dI gs ad cc yX4_create wsX4_create { frames := 8, cells := 1, slots := 6, locals := 125 } [.ref (ad 0), .int p0, .int p1, .long p2, .int p3, .long p4] u u' "java/lang/IllegalArgumentException") : kl_M l dC dI gs ad cc cr cd yL_create wsL_create { frames := 9, cells := 1, slots := 6, locals := 153 } [.ref (ad 0), .int p0, .int p1, .long p2, .int p3, .long p4] u v o u' v o (nI 1) := by
  refine kl_ofW (cb := cL_create) (maxL := 9) (hh := [(0, 11, 14, 13), (0, 11, 18, 19), (0, 11, 22, 29), (0, 11, 26, 31)]) (by decide) rfl rfl (Nat.le_of_ble_eq_true rfl) ?_
  intro p e s m below meth c A ls hx hb hr hlk hml hown hts hP hK hD hA hG hS hl hTab
  have hl : lv_has ls 9 [(0, .ref (ad 0)), (1, .int p0), (2, .int p1), (3, .long p2), (5, .int p3), (6, .long p4)] := hl
  refine lv_aload_n hx hb dL_create_0 rfl (lv_at hl 0 rfl) ?_
  refine lv_iload_n hx hb dL_create_1 rfl (lv_at hl 1 rfl) ?_
  refine lv_iload_n hx hb dL_create_2 rfl (lv_at hl 2 rfl) ?_
  refine lv_lload_n hx hb dL_create_3 rfl (lv_at hl 3 rfl) ?_
  refine lv_iload hx hb dL_create_4 (lv_at hl 4 rfl) ?_
  refine lv_lload hx hb dL_create_6 (lv_at hl 5 rfl) ?_
  refine kl_xV ⟨hx, hb, hml, hown, hts⟩ hM (cwV 5 hts gL_25_X4_create rfl rfl rfl (by decide +kernel) ⟨Nat.le_of_ble_eq_true rfl, Nat.le_of_ble_eq_true rfl⟩) hK hP hD hA hG hS rfl hl.1 rfl (Nat.le_of_ble_eq_true rfl) dL_create_8 ⟨Nat.le_of_ble_eq_true rfl, Nat.le_of_ble_eq_true rfl⟩ [] ⟨0, 11, 14, 13⟩ [⟨0, 11, 18, 19⟩, ⟨0, 11, 22, 29⟩, ⟨0, 11, 26, 31⟩] (by rw [hTab]; rfl) (fun z hz => nomatch hz) (by decide) (by decide) (hts _ mb_217) (va_Nw.use rfl (tm_GX hG (tm_inX 227 (by decide +kernel) rfl))) (fun q H locs hP hD hS => ?_)
  refine lv_astore (lv' := [(8, .ref q), (0, .ref (ad 0)), (1, .int p0), (2, .int p1), (3, .long p2), (5, .int p3), (6, .long p4)]) hx hb dL_create_14 hl (by decide) rfl (fun ls hl => ?_)
  refine lv_iconst (v := (nI 1)) hx hb dL_create_16 (by decide) ?_
  exact kq_iret hx hb hr hlk hP hD hS dL_create_17
set_option maxHeartbeats 4000000 in
set_option maxRecDepth 100000 in
theorem w_create_x2 (p0 : Int32) (p1 : Int32) (p2 : Int64) (p3 : Int32) (p4 : Int64) {u u' v : tm_S} {o : Int64 × UInt64} (hM : kc_T l dC dI gs ad cc yX4_create wsX4_create { frames := 8, cells := 1, slots := 6, locals := 125 } [.ref (ad 0), .int p0, .int p1, .long p2, .int p3, .long p4] u u' "java/lang/IllegalStateException") : kl_M l dC dI gs ad cc cr cd yL_create wsL_create { frames := 9, cells := 1, slots := 6, locals := 153 } [.ref (ad 0), .int p0, .int p1, .long p2, .int p3, .long p4] u v o u' v o (nI 2) := by
  refine kl_ofW (cb := cL_create) (maxL := 9) (hh := [(0, 11, 14, 13), (0, 11, 18, 19), (0, 11, 22, 29), (0, 11, 26, 31)]) (by decide) rfl rfl (Nat.le_of_ble_eq_true rfl) ?_
  intro p e s m below meth c A ls hx hb hr hlk hml hown hts hP hK hD hA hG hS hl hTab
  have hl : lv_has ls 9 [(0, .ref (ad 0)), (1, .int p0), (2, .int p1), (3, .long p2), (5, .int p3), (6, .long p4)] := hl
  refine lv_aload_n hx hb dL_create_0 rfl (lv_at hl 0 rfl) ?_
  refine lv_iload_n hx hb dL_create_1 rfl (lv_at hl 1 rfl) ?_
  refine lv_iload_n hx hb dL_create_2 rfl (lv_at hl 2 rfl) ?_
  refine lv_lload_n hx hb dL_create_3 rfl (lv_at hl 3 rfl) ?_
  refine lv_iload hx hb dL_create_4 (lv_at hl 4 rfl) ?_
  refine lv_lload hx hb dL_create_6 (lv_at hl 5 rfl) ?_
  refine kl_xV ⟨hx, hb, hml, hown, hts⟩ hM (cwV 5 hts gL_25_X4_create rfl rfl rfl (by decide +kernel) ⟨Nat.le_of_ble_eq_true rfl, Nat.le_of_ble_eq_true rfl⟩) hK hP hD hA hG hS rfl hl.1 rfl (Nat.le_of_ble_eq_true rfl) dL_create_8 ⟨Nat.le_of_ble_eq_true rfl, Nat.le_of_ble_eq_true rfl⟩ [⟨0, 11, 14, 13⟩] ⟨0, 11, 18, 19⟩ [⟨0, 11, 22, 29⟩, ⟨0, 11, 26, 31⟩] (by rw [hTab]; rfl) (List.forall_mem_cons.mpr ⟨Or.inr ⟨by decide, "java/lang/IllegalArgumentException", (hts _ mb_217), tm_Gc hG (by decide) (by decide) (by decide)⟩, fun z hz => nomatch hz⟩) (by decide) (by decide) (hts _ mb_298) (va_Nw.use rfl (tm_GX hG (tm_inX 312 (by decide +kernel) rfl))) (fun q H locs hP hD hS => ?_)
  refine lv_astore (lv' := [(8, .ref q), (0, .ref (ad 0)), (1, .int p0), (2, .int p1), (3, .long p2), (5, .int p3), (6, .long p4)]) hx hb dL_create_18 hl (by decide) rfl (fun ls hl => ?_)
  refine lv_iconst (v := (nI 2)) hx hb dL_create_20 (by decide) ?_
  exact kq_iret hx hb hr hlk hP hD hS dL_create_21
set_option maxHeartbeats 4000000 in
set_option maxRecDepth 100000 in
theorem w_create_x3 (p0 : Int32) (p1 : Int32) (p2 : Int64) (p3 : Int32) (p4 : Int64) {u u' v : tm_S} {o : Int64 × UInt64} (hM : kc_T l dC dI gs ad cc yX4_create wsX4_create { frames := 8, cells := 1, slots := 6, locals := 125 } [.ref (ad 0), .int p0, .int p1, .long p2, .int p3, .long p4] u u' "java/util/NoSuchElementException") : kl_M l dC dI gs ad cc cr cd yL_create wsL_create { frames := 9, cells := 1, slots := 6, locals := 153 } [.ref (ad 0), .int p0, .int p1, .long p2, .int p3, .long p4] u v o u' v o (nI 3) := by
  refine kl_ofW (cb := cL_create) (maxL := 9) (hh := [(0, 11, 14, 13), (0, 11, 18, 19), (0, 11, 22, 29), (0, 11, 26, 31)]) (by decide) rfl rfl (Nat.le_of_ble_eq_true rfl) ?_
  intro p e s m below meth c A ls hx hb hr hlk hml hown hts hP hK hD hA hG hS hl hTab
  have hl : lv_has ls 9 [(0, .ref (ad 0)), (1, .int p0), (2, .int p1), (3, .long p2), (5, .int p3), (6, .long p4)] := hl
  refine lv_aload_n hx hb dL_create_0 rfl (lv_at hl 0 rfl) ?_
  refine lv_iload_n hx hb dL_create_1 rfl (lv_at hl 1 rfl) ?_
  refine lv_iload_n hx hb dL_create_2 rfl (lv_at hl 2 rfl) ?_
  refine lv_lload_n hx hb dL_create_3 rfl (lv_at hl 3 rfl) ?_
  refine lv_iload hx hb dL_create_4 (lv_at hl 4 rfl) ?_
  refine lv_lload hx hb dL_create_6 (lv_at hl 5 rfl) ?_
  refine kl_xV ⟨hx, hb, hml, hown, hts⟩ hM (cwV 5 hts gL_25_X4_create rfl rfl rfl (by decide +kernel) ⟨Nat.le_of_ble_eq_true rfl, Nat.le_of_ble_eq_true rfl⟩) hK hP hD hA hG hS rfl hl.1 rfl (Nat.le_of_ble_eq_true rfl) dL_create_8 ⟨Nat.le_of_ble_eq_true rfl, Nat.le_of_ble_eq_true rfl⟩ [⟨0, 11, 14, 13⟩, ⟨0, 11, 18, 19⟩] ⟨0, 11, 22, 29⟩ [⟨0, 11, 26, 31⟩] (by rw [hTab]; rfl) (List.forall_mem_cons.mpr ⟨Or.inr ⟨by decide, "java/lang/IllegalArgumentException", (hts _ mb_217), tm_Gc hG (by decide) (by decide) (by decide)⟩, List.forall_mem_cons.mpr ⟨Or.inr ⟨by decide, "java/lang/IllegalStateException", (hts _ mb_298), tm_Gc hG (by decide) (by decide) (by decide)⟩, fun z hz => nomatch hz⟩⟩) (by decide) (by decide) (hts _ mb_345) (va_Nw.use rfl (tm_GX hG (tm_inX 357 (by decide +kernel) rfl))) (fun q H locs hP hD hS => ?_)
  refine lv_astore (lv' := [(8, .ref q), (0, .ref (ad 0)), (1, .int p0), (2, .int p1), (3, .long p2), (5, .int p3), (6, .long p4)]) hx hb dL_create_22 hl (by decide) rfl (fun ls hl => ?_)
  refine lv_iconst (v := (nI 3)) hx hb dL_create_24 (by decide) ?_
  exact kq_iret hx hb hr hlk hP hD hS dL_create_25
set_option maxHeartbeats 4000000 in
set_option maxRecDepth 100000 in
theorem w_create_x4 (p0 : Int32) (p1 : Int32) (p2 : Int64) (p3 : Int32) (p4 : Int64) {u u' v : tm_S} {o : Int64 × UInt64} (hM : kc_T l dC dI gs ad cc yX4_create wsX4_create { frames := 8, cells := 1, slots := 6, locals := 125 } [.ref (ad 0), .int p0, .int p1, .long p2, .int p3, .long p4] u u' "java/lang/UnsupportedOperationException") : kl_M l dC dI gs ad cc cr cd yL_create wsL_create { frames := 9, cells := 1, slots := 6, locals := 153 } [.ref (ad 0), .int p0, .int p1, .long p2, .int p3, .long p4] u v o u' v o (nI 4) := by
  refine kl_ofW (cb := cL_create) (maxL := 9) (hh := [(0, 11, 14, 13), (0, 11, 18, 19), (0, 11, 22, 29), (0, 11, 26, 31)]) (by decide) rfl rfl (Nat.le_of_ble_eq_true rfl) ?_
  intro p e s m below meth c A ls hx hb hr hlk hml hown hts hP hK hD hA hG hS hl hTab
  have hl : lv_has ls 9 [(0, .ref (ad 0)), (1, .int p0), (2, .int p1), (3, .long p2), (5, .int p3), (6, .long p4)] := hl
  refine lv_aload_n hx hb dL_create_0 rfl (lv_at hl 0 rfl) ?_
  refine lv_iload_n hx hb dL_create_1 rfl (lv_at hl 1 rfl) ?_
  refine lv_iload_n hx hb dL_create_2 rfl (lv_at hl 2 rfl) ?_
  refine lv_lload_n hx hb dL_create_3 rfl (lv_at hl 3 rfl) ?_
  refine lv_iload hx hb dL_create_4 (lv_at hl 4 rfl) ?_
  refine lv_lload hx hb dL_create_6 (lv_at hl 5 rfl) ?_
  refine kl_xV ⟨hx, hb, hml, hown, hts⟩ hM (cwV 5 hts gL_25_X4_create rfl rfl rfl (by decide +kernel) ⟨Nat.le_of_ble_eq_true rfl, Nat.le_of_ble_eq_true rfl⟩) hK hP hD hA hG hS rfl hl.1 rfl (Nat.le_of_ble_eq_true rfl) dL_create_8 ⟨Nat.le_of_ble_eq_true rfl, Nat.le_of_ble_eq_true rfl⟩ [⟨0, 11, 14, 13⟩, ⟨0, 11, 18, 19⟩, ⟨0, 11, 22, 29⟩] ⟨0, 11, 26, 31⟩ [] (by rw [hTab]; rfl) (List.forall_mem_cons.mpr ⟨Or.inr ⟨by decide, "java/lang/IllegalArgumentException", (hts _ mb_217), tm_Gc hG (by decide) (by decide) (by decide)⟩, List.forall_mem_cons.mpr ⟨Or.inr ⟨by decide, "java/lang/IllegalStateException", (hts _ mb_298), tm_Gc hG (by decide) (by decide) (by decide)⟩, List.forall_mem_cons.mpr ⟨Or.inr ⟨by decide, "java/util/NoSuchElementException", (hts _ mb_345), tm_Gc hG (by decide) (by decide) (by decide)⟩, fun z hz => nomatch hz⟩⟩⟩) (by decide) (by decide) (hts _ mb_346) (va_Nw.use rfl (tm_GX hG (tm_inX 376 (by decide +kernel) rfl))) (fun q H locs hP hD hS => ?_)
  refine lv_astore (lv' := [(8, .ref q), (0, .ref (ad 0)), (1, .int p0), (2, .int p1), (3, .long p2), (5, .int p3), (6, .long p4)]) hx hb dL_create_26 hl (by decide) rfl (fun ls hl => ?_)
  refine lv_iconst (v := (nI 4)) hx hb dL_create_28 (by decide) ?_
  exact kq_iret hx hb hr hlk hP hD hS dL_create_29
set_option maxHeartbeats 4000000 in
set_option maxRecDepth 100000 in
theorem w_load_ok (p0 : Int32) (p1 : Int32) {u u' v : tm_S} {o : Int64 × UInt64} {r : Int32} (hM : kc_M l dC dI gs ad cc yX4_load wsX4_load { frames := 8, cells := 0, slots := 0, locals := 125 } [.ref (ad 0), .int p0, .int p1] u u' (some (.int r))) : kl_M l dC dI gs ad cc cr cd yL_load wsL_load { frames := 9, cells := 1, slots := 6, locals := 152 } [.ref (ad 0), .int p0, .int p1, .ref (ad 55)] u v o u' v (r.toInt64, o.2) (nI 0) := by
  refine kl_ofW (cb := cL_load) (maxL := 5) (hh := [(0, 10, 13, 13), (0, 10, 17, 19), (0, 10, 21, 29), (0, 10, 25, 31), (0, 10, 29, 37)]) (by decide) rfl rfl (Nat.le_of_ble_eq_true rfl) ?_
  intro p e s m below meth c A ls hx hb hr hlk hml hown hts hP hK hD hA hG hS hl hTab
  have hl : lv_has ls 5 [(0, .ref (ad 0)), (1, .int p0), (2, .int p1), (3, .ref (ad 55))] := hl
  refine lv_aload_n hx hb dL_load_0 rfl (lv_at hl 3 rfl) ?_
  refine lv_iconst (v := (nI 0)) hx hb dL_load_1 (by decide) ?_
  refine lv_aload_n hx hb dL_load_2 rfl (lv_at hl 0 rfl) ?_
  refine lv_iload_n hx hb dL_load_3 rfl (lv_at hl 1 rfl) ?_
  refine lv_iload_n hx hb dL_load_4 rfl (lv_at hl 2 rfl) ?_
  refine kl_cV (st1 := [.int r, .int (nI 0), .ref (ad 55)]) ⟨hx, hb, hml, hown, hts⟩ hM (cwV 2 hts gL_33_X4_load rfl rfl rfl (by decide +kernel) ⟨Nat.le_of_ble_eq_true rfl, Nat.le_of_ble_eq_true rfl⟩) hK hP hD hA hG hS rfl hl.1 rfl rfl (Nat.le_of_ble_eq_true rfl) dL_load_5 ⟨Nat.le_of_ble_eq_true rfl, Nat.le_of_ble_eq_true rfl⟩ (fun H locs hP hD hS => ?_)
  refine lv_i2l (v := r.toInt64) hx hb dL_load_8 rfl ?_
  refine tl_t5 hx hb hK hP hD hS dL_load_9 (fun H locs hP hD hS => ?_)
  refine lv_goto (tgt := 33) hx hb dL_load_10 (by decide) ?_
  refine lv_iconst (v := (nI 0)) hx hb dL_load_33 (by decide) ?_
  exact W.widen (k := 1) (n := 6) (Nat.le_of_ble_eq_true rfl) (Nat.le_of_ble_eq_true rfl) (kq_iret hx hb hr hlk hP hD hS dL_load_34)
set_option maxHeartbeats 4000000 in
set_option maxRecDepth 100000 in
theorem w_load_x1 (p0 : Int32) (p1 : Int32) {u u' v : tm_S} {o : Int64 × UInt64} (hM : kc_T l dC dI gs ad cc yX4_load wsX4_load { frames := 8, cells := 1, slots := 6, locals := 125 } [.ref (ad 0), .int p0, .int p1] u u' "java/lang/IllegalArgumentException") : kl_M l dC dI gs ad cc cr cd yL_load wsL_load { frames := 9, cells := 1, slots := 6, locals := 152 } [.ref (ad 0), .int p0, .int p1, .ref (ad 55)] u v o u' v o (nI 1) := by
  refine kl_ofW (cb := cL_load) (maxL := 5) (hh := [(0, 10, 13, 13), (0, 10, 17, 19), (0, 10, 21, 29), (0, 10, 25, 31), (0, 10, 29, 37)]) (by decide) rfl rfl (Nat.le_of_ble_eq_true rfl) ?_
  intro p e s m below meth c A ls hx hb hr hlk hml hown hts hP hK hD hA hG hS hl hTab
  have hl : lv_has ls 5 [(0, .ref (ad 0)), (1, .int p0), (2, .int p1), (3, .ref (ad 55))] := hl
  refine lv_aload_n hx hb dL_load_0 rfl (lv_at hl 3 rfl) ?_
  refine lv_iconst (v := (nI 0)) hx hb dL_load_1 (by decide) ?_
  refine lv_aload_n hx hb dL_load_2 rfl (lv_at hl 0 rfl) ?_
  refine lv_iload_n hx hb dL_load_3 rfl (lv_at hl 1 rfl) ?_
  refine lv_iload_n hx hb dL_load_4 rfl (lv_at hl 2 rfl) ?_
  refine kl_xV ⟨hx, hb, hml, hown, hts⟩ hM (cwV 2 hts gL_33_X4_load rfl rfl rfl (by decide +kernel) ⟨Nat.le_of_ble_eq_true rfl, Nat.le_of_ble_eq_true rfl⟩) hK hP hD hA hG hS rfl hl.1 rfl (Nat.le_of_ble_eq_true rfl) dL_load_5 ⟨Nat.le_of_ble_eq_true rfl, Nat.le_of_ble_eq_true rfl⟩ [] ⟨0, 10, 13, 13⟩ [⟨0, 10, 17, 19⟩, ⟨0, 10, 21, 29⟩, ⟨0, 10, 25, 31⟩, ⟨0, 10, 29, 37⟩] (by rw [hTab]; rfl) (fun z hz => nomatch hz) (by decide) (by decide) (hts _ mb_217) (va_Nw.use rfl (tm_GX hG (tm_inX 227 (by decide +kernel) rfl))) (fun q H locs hP hD hS => ?_)
  refine lv_astore (lv' := [(4, .ref q), (0, .ref (ad 0)), (1, .int p0), (2, .int p1), (3, .ref (ad 55))]) hx hb dL_load_13 hl (by decide) rfl (fun ls hl => ?_)
  refine lv_iconst (v := (nI 1)) hx hb dL_load_15 (by decide) ?_
  exact kq_iret hx hb hr hlk hP hD hS dL_load_16
set_option maxHeartbeats 4000000 in
set_option maxRecDepth 100000 in
theorem w_load_x2 (p0 : Int32) (p1 : Int32) {u u' v : tm_S} {o : Int64 × UInt64} (hM : kc_T l dC dI gs ad cc yX4_load wsX4_load { frames := 8, cells := 1, slots := 6, locals := 125 } [.ref (ad 0), .int p0, .int p1] u u' "java/lang/IllegalStateException") : kl_M l dC dI gs ad cc cr cd yL_load wsL_load { frames := 9, cells := 1, slots := 6, locals := 152 } [.ref (ad 0), .int p0, .int p1, .ref (ad 55)] u v o u' v o (nI 2) := by
  refine kl_ofW (cb := cL_load) (maxL := 5) (hh := [(0, 10, 13, 13), (0, 10, 17, 19), (0, 10, 21, 29), (0, 10, 25, 31), (0, 10, 29, 37)]) (by decide) rfl rfl (Nat.le_of_ble_eq_true rfl) ?_
  intro p e s m below meth c A ls hx hb hr hlk hml hown hts hP hK hD hA hG hS hl hTab
  have hl : lv_has ls 5 [(0, .ref (ad 0)), (1, .int p0), (2, .int p1), (3, .ref (ad 55))] := hl
  refine lv_aload_n hx hb dL_load_0 rfl (lv_at hl 3 rfl) ?_
  refine lv_iconst (v := (nI 0)) hx hb dL_load_1 (by decide) ?_
  refine lv_aload_n hx hb dL_load_2 rfl (lv_at hl 0 rfl) ?_
  refine lv_iload_n hx hb dL_load_3 rfl (lv_at hl 1 rfl) ?_
  refine lv_iload_n hx hb dL_load_4 rfl (lv_at hl 2 rfl) ?_
  refine kl_xV ⟨hx, hb, hml, hown, hts⟩ hM (cwV 2 hts gL_33_X4_load rfl rfl rfl (by decide +kernel) ⟨Nat.le_of_ble_eq_true rfl, Nat.le_of_ble_eq_true rfl⟩) hK hP hD hA hG hS rfl hl.1 rfl (Nat.le_of_ble_eq_true rfl) dL_load_5 ⟨Nat.le_of_ble_eq_true rfl, Nat.le_of_ble_eq_true rfl⟩ [⟨0, 10, 13, 13⟩] ⟨0, 10, 17, 19⟩ [⟨0, 10, 21, 29⟩, ⟨0, 10, 25, 31⟩, ⟨0, 10, 29, 37⟩] (by rw [hTab]; rfl) (List.forall_mem_cons.mpr ⟨Or.inr ⟨by decide, "java/lang/IllegalArgumentException", (hts _ mb_217), tm_Gc hG (by decide) (by decide) (by decide)⟩, fun z hz => nomatch hz⟩) (by decide) (by decide) (hts _ mb_298) (va_Nw.use rfl (tm_GX hG (tm_inX 312 (by decide +kernel) rfl))) (fun q H locs hP hD hS => ?_)
  refine lv_astore (lv' := [(4, .ref q), (0, .ref (ad 0)), (1, .int p0), (2, .int p1), (3, .ref (ad 55))]) hx hb dL_load_17 hl (by decide) rfl (fun ls hl => ?_)
  refine lv_iconst (v := (nI 2)) hx hb dL_load_19 (by decide) ?_
  exact kq_iret hx hb hr hlk hP hD hS dL_load_20
set_option maxHeartbeats 4000000 in
set_option maxRecDepth 100000 in
theorem w_load_x3 (p0 : Int32) (p1 : Int32) {u u' v : tm_S} {o : Int64 × UInt64} (hM : kc_T l dC dI gs ad cc yX4_load wsX4_load { frames := 8, cells := 1, slots := 6, locals := 125 } [.ref (ad 0), .int p0, .int p1] u u' "java/util/NoSuchElementException") : kl_M l dC dI gs ad cc cr cd yL_load wsL_load { frames := 9, cells := 1, slots := 6, locals := 152 } [.ref (ad 0), .int p0, .int p1, .ref (ad 55)] u v o u' v o (nI 3) := by
  refine kl_ofW (cb := cL_load) (maxL := 5) (hh := [(0, 10, 13, 13), (0, 10, 17, 19), (0, 10, 21, 29), (0, 10, 25, 31), (0, 10, 29, 37)]) (by decide) rfl rfl (Nat.le_of_ble_eq_true rfl) ?_
  intro p e s m below meth c A ls hx hb hr hlk hml hown hts hP hK hD hA hG hS hl hTab
  have hl : lv_has ls 5 [(0, .ref (ad 0)), (1, .int p0), (2, .int p1), (3, .ref (ad 55))] := hl
  refine lv_aload_n hx hb dL_load_0 rfl (lv_at hl 3 rfl) ?_
  refine lv_iconst (v := (nI 0)) hx hb dL_load_1 (by decide) ?_
  refine lv_aload_n hx hb dL_load_2 rfl (lv_at hl 0 rfl) ?_
  refine lv_iload_n hx hb dL_load_3 rfl (lv_at hl 1 rfl) ?_
  refine lv_iload_n hx hb dL_load_4 rfl (lv_at hl 2 rfl) ?_
  refine kl_xV ⟨hx, hb, hml, hown, hts⟩ hM (cwV 2 hts gL_33_X4_load rfl rfl rfl (by decide +kernel) ⟨Nat.le_of_ble_eq_true rfl, Nat.le_of_ble_eq_true rfl⟩) hK hP hD hA hG hS rfl hl.1 rfl (Nat.le_of_ble_eq_true rfl) dL_load_5 ⟨Nat.le_of_ble_eq_true rfl, Nat.le_of_ble_eq_true rfl⟩ [⟨0, 10, 13, 13⟩, ⟨0, 10, 17, 19⟩] ⟨0, 10, 21, 29⟩ [⟨0, 10, 25, 31⟩, ⟨0, 10, 29, 37⟩] (by rw [hTab]; rfl) (List.forall_mem_cons.mpr ⟨Or.inr ⟨by decide, "java/lang/IllegalArgumentException", (hts _ mb_217), tm_Gc hG (by decide) (by decide) (by decide)⟩, List.forall_mem_cons.mpr ⟨Or.inr ⟨by decide, "java/lang/IllegalStateException", (hts _ mb_298), tm_Gc hG (by decide) (by decide) (by decide)⟩, fun z hz => nomatch hz⟩⟩) (by decide) (by decide) (hts _ mb_345) (va_Nw.use rfl (tm_GX hG (tm_inX 357 (by decide +kernel) rfl))) (fun q H locs hP hD hS => ?_)
  refine lv_astore (lv' := [(4, .ref q), (0, .ref (ad 0)), (1, .int p0), (2, .int p1), (3, .ref (ad 55))]) hx hb dL_load_21 hl (by decide) rfl (fun ls hl => ?_)
  refine lv_iconst (v := (nI 3)) hx hb dL_load_23 (by decide) ?_
  exact kq_iret hx hb hr hlk hP hD hS dL_load_24
set_option maxHeartbeats 4000000 in
set_option maxRecDepth 100000 in
theorem w_load_x4 (p0 : Int32) (p1 : Int32) {u u' v : tm_S} {o : Int64 × UInt64} (hM : kc_T l dC dI gs ad cc yX4_load wsX4_load { frames := 8, cells := 1, slots := 6, locals := 125 } [.ref (ad 0), .int p0, .int p1] u u' "java/lang/UnsupportedOperationException") : kl_M l dC dI gs ad cc cr cd yL_load wsL_load { frames := 9, cells := 1, slots := 6, locals := 152 } [.ref (ad 0), .int p0, .int p1, .ref (ad 55)] u v o u' v o (nI 4) := by
  refine kl_ofW (cb := cL_load) (maxL := 5) (hh := [(0, 10, 13, 13), (0, 10, 17, 19), (0, 10, 21, 29), (0, 10, 25, 31), (0, 10, 29, 37)]) (by decide) rfl rfl (Nat.le_of_ble_eq_true rfl) ?_
  intro p e s m below meth c A ls hx hb hr hlk hml hown hts hP hK hD hA hG hS hl hTab
  have hl : lv_has ls 5 [(0, .ref (ad 0)), (1, .int p0), (2, .int p1), (3, .ref (ad 55))] := hl
  refine lv_aload_n hx hb dL_load_0 rfl (lv_at hl 3 rfl) ?_
  refine lv_iconst (v := (nI 0)) hx hb dL_load_1 (by decide) ?_
  refine lv_aload_n hx hb dL_load_2 rfl (lv_at hl 0 rfl) ?_
  refine lv_iload_n hx hb dL_load_3 rfl (lv_at hl 1 rfl) ?_
  refine lv_iload_n hx hb dL_load_4 rfl (lv_at hl 2 rfl) ?_
  refine kl_xV ⟨hx, hb, hml, hown, hts⟩ hM (cwV 2 hts gL_33_X4_load rfl rfl rfl (by decide +kernel) ⟨Nat.le_of_ble_eq_true rfl, Nat.le_of_ble_eq_true rfl⟩) hK hP hD hA hG hS rfl hl.1 rfl (Nat.le_of_ble_eq_true rfl) dL_load_5 ⟨Nat.le_of_ble_eq_true rfl, Nat.le_of_ble_eq_true rfl⟩ [⟨0, 10, 13, 13⟩, ⟨0, 10, 17, 19⟩, ⟨0, 10, 21, 29⟩] ⟨0, 10, 25, 31⟩ [⟨0, 10, 29, 37⟩] (by rw [hTab]; rfl) (List.forall_mem_cons.mpr ⟨Or.inr ⟨by decide, "java/lang/IllegalArgumentException", (hts _ mb_217), tm_Gc hG (by decide) (by decide) (by decide)⟩, List.forall_mem_cons.mpr ⟨Or.inr ⟨by decide, "java/lang/IllegalStateException", (hts _ mb_298), tm_Gc hG (by decide) (by decide) (by decide)⟩, List.forall_mem_cons.mpr ⟨Or.inr ⟨by decide, "java/util/NoSuchElementException", (hts _ mb_345), tm_Gc hG (by decide) (by decide) (by decide)⟩, fun z hz => nomatch hz⟩⟩⟩) (by decide) (by decide) (hts _ mb_346) (va_Nw.use rfl (tm_GX hG (tm_inX 376 (by decide +kernel) rfl))) (fun q H locs hP hD hS => ?_)
  refine lv_astore (lv' := [(4, .ref q), (0, .ref (ad 0)), (1, .int p0), (2, .int p1), (3, .ref (ad 55))]) hx hb dL_load_25 hl (by decide) rfl (fun ls hl => ?_)
  refine lv_iconst (v := (nI 4)) hx hb dL_load_27 (by decide) ?_
  exact kq_iret hx hb hr hlk hP hD hS dL_load_28
set_option maxHeartbeats 4000000 in
set_option maxRecDepth 100000 in
theorem w_load_x5 (p0 : Int32) (p1 : Int32) {u u' v : tm_S} {o : Int64 × UInt64} (hM : kc_T l dC dI gs ad cc yX4_load wsX4_load { frames := 8, cells := 1, slots := 6, locals := 125 } [.ref (ad 0), .int p0, .int p1] u u' "java/lang/ArithmeticException") : kl_M l dC dI gs ad cc cr cd yL_load wsL_load { frames := 9, cells := 1, slots := 6, locals := 152 } [.ref (ad 0), .int p0, .int p1, .ref (ad 55)] u v o u' v o (nI 5) := by
  refine kl_ofW (cb := cL_load) (maxL := 5) (hh := [(0, 10, 13, 13), (0, 10, 17, 19), (0, 10, 21, 29), (0, 10, 25, 31), (0, 10, 29, 37)]) (by decide) rfl rfl (Nat.le_of_ble_eq_true rfl) ?_
  intro p e s m below meth c A ls hx hb hr hlk hml hown hts hP hK hD hA hG hS hl hTab
  have hl : lv_has ls 5 [(0, .ref (ad 0)), (1, .int p0), (2, .int p1), (3, .ref (ad 55))] := hl
  refine lv_aload_n hx hb dL_load_0 rfl (lv_at hl 3 rfl) ?_
  refine lv_iconst (v := (nI 0)) hx hb dL_load_1 (by decide) ?_
  refine lv_aload_n hx hb dL_load_2 rfl (lv_at hl 0 rfl) ?_
  refine lv_iload_n hx hb dL_load_3 rfl (lv_at hl 1 rfl) ?_
  refine lv_iload_n hx hb dL_load_4 rfl (lv_at hl 2 rfl) ?_
  refine kl_xV ⟨hx, hb, hml, hown, hts⟩ hM (cwV 2 hts gL_33_X4_load rfl rfl rfl (by decide +kernel) ⟨Nat.le_of_ble_eq_true rfl, Nat.le_of_ble_eq_true rfl⟩) hK hP hD hA hG hS rfl hl.1 rfl (Nat.le_of_ble_eq_true rfl) dL_load_5 ⟨Nat.le_of_ble_eq_true rfl, Nat.le_of_ble_eq_true rfl⟩ [⟨0, 10, 13, 13⟩, ⟨0, 10, 17, 19⟩, ⟨0, 10, 21, 29⟩, ⟨0, 10, 25, 31⟩] ⟨0, 10, 29, 37⟩ [] (by rw [hTab]; rfl) (List.forall_mem_cons.mpr ⟨Or.inr ⟨by decide, "java/lang/IllegalArgumentException", (hts _ mb_217), tm_Gc hG (by decide) (by decide) (by decide)⟩, List.forall_mem_cons.mpr ⟨Or.inr ⟨by decide, "java/lang/IllegalStateException", (hts _ mb_298), tm_Gc hG (by decide) (by decide) (by decide)⟩, List.forall_mem_cons.mpr ⟨Or.inr ⟨by decide, "java/util/NoSuchElementException", (hts _ mb_345), tm_Gc hG (by decide) (by decide) (by decide)⟩, List.forall_mem_cons.mpr ⟨Or.inr ⟨by decide, "java/lang/UnsupportedOperationException", (hts _ mb_346), tm_Gc hG (by decide) (by decide) (by decide)⟩, fun z hz => nomatch hz⟩⟩⟩⟩) (by decide) (by decide) (hts _ mb_404) (va_Nw.use rfl (tm_GX hG (tm_inX 420 (by decide +kernel) rfl))) (fun q H locs hP hD hS => ?_)
  refine lv_astore (lv' := [(4, .ref q), (0, .ref (ad 0)), (1, .int p0), (2, .int p1), (3, .ref (ad 55))]) hx hb dL_load_29 hl (by decide) rfl (fun ls hl => ?_)
  refine lv_iconst (v := (nI 5)) hx hb dL_load_31 (by decide) ?_
  exact kq_iret hx hb hr hlk hP hD hS dL_load_32
set_option maxHeartbeats 4000000 in
set_option maxRecDepth 100000 in
theorem w_tamper_ok (p0 : Int32) (p1 : Int32) (p2 : Int64) {u u' v : tm_S} {o : Int64 × UInt64} (hM : kc_M l dC dI gs ad cc yX4_tamper wsX4_tamper { frames := 8, cells := 0, slots := 0, locals := 125 } [.ref (ad 0), .int p0, .int p1, .long p2] u u' none) : kl_M l dC dI gs ad cc cr cd yL_tamper wsL_tamper { frames := 9, cells := 1, slots := 6, locals := 150 } [.ref (ad 0), .int p0, .int p1, .long p2] u v o u' v o (nI 0) := by
  refine kl_ofW (cb := cL_tamper) (maxL := 6) (hh := [(0, 7, 10, 13), (0, 7, 14, 29)]) (by decide) rfl rfl (Nat.le_of_ble_eq_true rfl) ?_
  intro p e s m below meth c A ls hx hb hr hlk hml hown hts hP hK hD hA hG hS hl hTab
  have hl : lv_has ls 6 [(0, .ref (ad 0)), (1, .int p0), (2, .int p1), (3, .long p2)] := hl
  refine lv_aload_n hx hb dL_tamper_0 rfl (lv_at hl 0 rfl) ?_
  refine lv_iload_n hx hb dL_tamper_1 rfl (lv_at hl 1 rfl) ?_
  refine lv_iload_n hx hb dL_tamper_2 rfl (lv_at hl 2 rfl) ?_
  refine lv_lload_n hx hb dL_tamper_3 rfl (lv_at hl 3 rfl) ?_
  refine kl_cV (st1 := []) ⟨hx, hb, hml, hown, hts⟩ hM (cwV 3 hts gL_39_X4_tamper rfl rfl rfl (by decide +kernel) ⟨Nat.le_of_ble_eq_true rfl, Nat.le_of_ble_eq_true rfl⟩) hK hP hD hA hG hS rfl hl.1 rfl rfl (Nat.le_of_ble_eq_true rfl) dL_tamper_4 ⟨Nat.le_of_ble_eq_true rfl, Nat.le_of_ble_eq_true rfl⟩ (fun H locs hP hD hS => ?_)
  refine lv_goto (tgt := 18) hx hb dL_tamper_7 (by decide) ?_
  refine lv_iconst (v := (nI 0)) hx hb dL_tamper_18 (by decide) ?_
  exact W.widen (k := 1) (n := 6) (Nat.le_of_ble_eq_true rfl) (Nat.le_of_ble_eq_true rfl) (kq_iret hx hb hr hlk hP hD hS dL_tamper_19)
set_option maxHeartbeats 4000000 in
set_option maxRecDepth 100000 in
theorem w_tamper_x1 (p0 : Int32) (p1 : Int32) (p2 : Int64) {u u' v : tm_S} {o : Int64 × UInt64} (hM : kc_T l dC dI gs ad cc yX4_tamper wsX4_tamper { frames := 8, cells := 1, slots := 6, locals := 125 } [.ref (ad 0), .int p0, .int p1, .long p2] u u' "java/lang/IllegalArgumentException") : kl_M l dC dI gs ad cc cr cd yL_tamper wsL_tamper { frames := 9, cells := 1, slots := 6, locals := 150 } [.ref (ad 0), .int p0, .int p1, .long p2] u v o u' v o (nI 1) := by
  refine kl_ofW (cb := cL_tamper) (maxL := 6) (hh := [(0, 7, 10, 13), (0, 7, 14, 29)]) (by decide) rfl rfl (Nat.le_of_ble_eq_true rfl) ?_
  intro p e s m below meth c A ls hx hb hr hlk hml hown hts hP hK hD hA hG hS hl hTab
  have hl : lv_has ls 6 [(0, .ref (ad 0)), (1, .int p0), (2, .int p1), (3, .long p2)] := hl
  refine lv_aload_n hx hb dL_tamper_0 rfl (lv_at hl 0 rfl) ?_
  refine lv_iload_n hx hb dL_tamper_1 rfl (lv_at hl 1 rfl) ?_
  refine lv_iload_n hx hb dL_tamper_2 rfl (lv_at hl 2 rfl) ?_
  refine lv_lload_n hx hb dL_tamper_3 rfl (lv_at hl 3 rfl) ?_
  refine kl_xV ⟨hx, hb, hml, hown, hts⟩ hM (cwV 3 hts gL_39_X4_tamper rfl rfl rfl (by decide +kernel) ⟨Nat.le_of_ble_eq_true rfl, Nat.le_of_ble_eq_true rfl⟩) hK hP hD hA hG hS rfl hl.1 rfl (Nat.le_of_ble_eq_true rfl) dL_tamper_4 ⟨Nat.le_of_ble_eq_true rfl, Nat.le_of_ble_eq_true rfl⟩ [] ⟨0, 7, 10, 13⟩ [⟨0, 7, 14, 29⟩] (by rw [hTab]; rfl) (fun z hz => nomatch hz) (by decide) (by decide) (hts _ mb_217) (va_Nw.use rfl (tm_GX hG (tm_inX 227 (by decide +kernel) rfl))) (fun q H locs hP hD hS => ?_)
  refine lv_astore (lv' := [(5, .ref q), (0, .ref (ad 0)), (1, .int p0), (2, .int p1), (3, .long p2)]) hx hb dL_tamper_10 hl (by decide) rfl (fun ls hl => ?_)
  refine lv_iconst (v := (nI 1)) hx hb dL_tamper_12 (by decide) ?_
  exact kq_iret hx hb hr hlk hP hD hS dL_tamper_13
set_option maxHeartbeats 4000000 in
set_option maxRecDepth 100000 in
theorem w_tamper_x2 (p0 : Int32) (p1 : Int32) (p2 : Int64) {u u' v : tm_S} {o : Int64 × UInt64} (hM : kc_T l dC dI gs ad cc yX4_tamper wsX4_tamper { frames := 8, cells := 1, slots := 6, locals := 125 } [.ref (ad 0), .int p0, .int p1, .long p2] u u' "java/util/NoSuchElementException") : kl_M l dC dI gs ad cc cr cd yL_tamper wsL_tamper { frames := 9, cells := 1, slots := 6, locals := 150 } [.ref (ad 0), .int p0, .int p1, .long p2] u v o u' v o (nI 2) := by
  refine kl_ofW (cb := cL_tamper) (maxL := 6) (hh := [(0, 7, 10, 13), (0, 7, 14, 29)]) (by decide) rfl rfl (Nat.le_of_ble_eq_true rfl) ?_
  intro p e s m below meth c A ls hx hb hr hlk hml hown hts hP hK hD hA hG hS hl hTab
  have hl : lv_has ls 6 [(0, .ref (ad 0)), (1, .int p0), (2, .int p1), (3, .long p2)] := hl
  refine lv_aload_n hx hb dL_tamper_0 rfl (lv_at hl 0 rfl) ?_
  refine lv_iload_n hx hb dL_tamper_1 rfl (lv_at hl 1 rfl) ?_
  refine lv_iload_n hx hb dL_tamper_2 rfl (lv_at hl 2 rfl) ?_
  refine lv_lload_n hx hb dL_tamper_3 rfl (lv_at hl 3 rfl) ?_
  refine kl_xV ⟨hx, hb, hml, hown, hts⟩ hM (cwV 3 hts gL_39_X4_tamper rfl rfl rfl (by decide +kernel) ⟨Nat.le_of_ble_eq_true rfl, Nat.le_of_ble_eq_true rfl⟩) hK hP hD hA hG hS rfl hl.1 rfl (Nat.le_of_ble_eq_true rfl) dL_tamper_4 ⟨Nat.le_of_ble_eq_true rfl, Nat.le_of_ble_eq_true rfl⟩ [⟨0, 7, 10, 13⟩] ⟨0, 7, 14, 29⟩ [] (by rw [hTab]; rfl) (List.forall_mem_cons.mpr ⟨Or.inr ⟨by decide, "java/lang/IllegalArgumentException", (hts _ mb_217), tm_Gc hG (by decide) (by decide) (by decide)⟩, fun z hz => nomatch hz⟩) (by decide) (by decide) (hts _ mb_345) (va_Nw.use rfl (tm_GX hG (tm_inX 357 (by decide +kernel) rfl))) (fun q H locs hP hD hS => ?_)
  refine lv_astore (lv' := [(5, .ref q), (0, .ref (ad 0)), (1, .int p0), (2, .int p1), (3, .long p2)]) hx hb dL_tamper_14 hl (by decide) rfl (fun ls hl => ?_)
  refine lv_iconst (v := (nI 2)) hx hb dL_tamper_16 (by decide) ?_
  exact kq_iret hx hb hr hlk hP hD hS dL_tamper_17
set_option maxHeartbeats 4000000 in
set_option maxRecDepth 100000 in
theorem w_flush_ok (p0 : Int32) {u u' v : tm_S} {o : Int64 × UInt64} (hM : kc_M l dC dI gs ad cc yX4_flush wsX4_flush { frames := 8, cells := 0, slots := 0, locals := 125 } [.ref (ad 0), .int p0] u u' none) : kl_M l dC dI gs ad cc cr cd yL_flush wsL_flush { frames := 9, cells := 1, slots := 6, locals := 146 } [.ref (ad 0), .int p0] u v o u' v o (nI 0) := by
  refine kl_ofW (cb := cL_flush) (maxL := 3) (hh := [(0, 5, 8, 13), (0, 5, 11, 19), (0, 5, 14, 29)]) (by decide) rfl rfl (Nat.le_of_ble_eq_true rfl) ?_
  intro p e s m below meth c A ls hx hb hr hlk hml hown hts hP hK hD hA hG hS hl hTab
  have hl : lv_has ls 3 [(0, .ref (ad 0)), (1, .int p0)] := hl
  refine lv_aload_n hx hb dL_flush_0 rfl (lv_at hl 0 rfl) ?_
  refine lv_iload_n hx hb dL_flush_1 rfl (lv_at hl 1 rfl) ?_
  refine kl_cV (st1 := []) ⟨hx, hb, hml, hown, hts⟩ hM (cwV 1 hts gL_43_X4_flush rfl rfl rfl (by decide +kernel) ⟨Nat.le_of_ble_eq_true rfl, Nat.le_of_ble_eq_true rfl⟩) hK hP hD hA hG hS rfl hl.1 rfl rfl (Nat.le_of_ble_eq_true rfl) dL_flush_2 ⟨Nat.le_of_ble_eq_true rfl, Nat.le_of_ble_eq_true rfl⟩ (fun H locs hP hD hS => ?_)
  refine lv_goto (tgt := 17) hx hb dL_flush_5 (by decide) ?_
  refine lv_iconst (v := (nI 0)) hx hb dL_flush_17 (by decide) ?_
  exact W.widen (k := 1) (n := 6) (Nat.le_of_ble_eq_true rfl) (Nat.le_of_ble_eq_true rfl) (kq_iret hx hb hr hlk hP hD hS dL_flush_18)
set_option maxHeartbeats 4000000 in
set_option maxRecDepth 100000 in
theorem w_flush_x1 (p0 : Int32) {u u' v : tm_S} {o : Int64 × UInt64} (hM : kc_T l dC dI gs ad cc yX4_flush wsX4_flush { frames := 8, cells := 1, slots := 6, locals := 125 } [.ref (ad 0), .int p0] u u' "java/lang/IllegalArgumentException") : kl_M l dC dI gs ad cc cr cd yL_flush wsL_flush { frames := 9, cells := 1, slots := 6, locals := 146 } [.ref (ad 0), .int p0] u v o u' v o (nI 1) := by
  refine kl_ofW (cb := cL_flush) (maxL := 3) (hh := [(0, 5, 8, 13), (0, 5, 11, 19), (0, 5, 14, 29)]) (by decide) rfl rfl (Nat.le_of_ble_eq_true rfl) ?_
  intro p e s m below meth c A ls hx hb hr hlk hml hown hts hP hK hD hA hG hS hl hTab
  have hl : lv_has ls 3 [(0, .ref (ad 0)), (1, .int p0)] := hl
  refine lv_aload_n hx hb dL_flush_0 rfl (lv_at hl 0 rfl) ?_
  refine lv_iload_n hx hb dL_flush_1 rfl (lv_at hl 1 rfl) ?_
  refine kl_xV ⟨hx, hb, hml, hown, hts⟩ hM (cwV 1 hts gL_43_X4_flush rfl rfl rfl (by decide +kernel) ⟨Nat.le_of_ble_eq_true rfl, Nat.le_of_ble_eq_true rfl⟩) hK hP hD hA hG hS rfl hl.1 rfl (Nat.le_of_ble_eq_true rfl) dL_flush_2 ⟨Nat.le_of_ble_eq_true rfl, Nat.le_of_ble_eq_true rfl⟩ [] ⟨0, 5, 8, 13⟩ [⟨0, 5, 11, 19⟩, ⟨0, 5, 14, 29⟩] (by rw [hTab]; rfl) (fun z hz => nomatch hz) (by decide) (by decide) (hts _ mb_217) (va_Nw.use rfl (tm_GX hG (tm_inX 227 (by decide +kernel) rfl))) (fun q H locs hP hD hS => ?_)
  refine lv_astore_n (lv' := [(2, .ref q), (0, .ref (ad 0)), (1, .int p0)]) hx hb dL_flush_8 rfl hl (by decide) rfl (fun ls hl => ?_)
  refine lv_iconst (v := (nI 1)) hx hb dL_flush_9 (by decide) ?_
  exact kq_iret hx hb hr hlk hP hD hS dL_flush_10
set_option maxHeartbeats 4000000 in
set_option maxRecDepth 100000 in
theorem w_flush_x2 (p0 : Int32) {u u' v : tm_S} {o : Int64 × UInt64} (hM : kc_T l dC dI gs ad cc yX4_flush wsX4_flush { frames := 8, cells := 1, slots := 6, locals := 125 } [.ref (ad 0), .int p0] u u' "java/lang/IllegalStateException") : kl_M l dC dI gs ad cc cr cd yL_flush wsL_flush { frames := 9, cells := 1, slots := 6, locals := 146 } [.ref (ad 0), .int p0] u v o u' v o (nI 2) := by
  refine kl_ofW (cb := cL_flush) (maxL := 3) (hh := [(0, 5, 8, 13), (0, 5, 11, 19), (0, 5, 14, 29)]) (by decide) rfl rfl (Nat.le_of_ble_eq_true rfl) ?_
  intro p e s m below meth c A ls hx hb hr hlk hml hown hts hP hK hD hA hG hS hl hTab
  have hl : lv_has ls 3 [(0, .ref (ad 0)), (1, .int p0)] := hl
  refine lv_aload_n hx hb dL_flush_0 rfl (lv_at hl 0 rfl) ?_
  refine lv_iload_n hx hb dL_flush_1 rfl (lv_at hl 1 rfl) ?_
  refine kl_xV ⟨hx, hb, hml, hown, hts⟩ hM (cwV 1 hts gL_43_X4_flush rfl rfl rfl (by decide +kernel) ⟨Nat.le_of_ble_eq_true rfl, Nat.le_of_ble_eq_true rfl⟩) hK hP hD hA hG hS rfl hl.1 rfl (Nat.le_of_ble_eq_true rfl) dL_flush_2 ⟨Nat.le_of_ble_eq_true rfl, Nat.le_of_ble_eq_true rfl⟩ [⟨0, 5, 8, 13⟩] ⟨0, 5, 11, 19⟩ [⟨0, 5, 14, 29⟩] (by rw [hTab]; rfl) (List.forall_mem_cons.mpr ⟨Or.inr ⟨by decide, "java/lang/IllegalArgumentException", (hts _ mb_217), tm_Gc hG (by decide) (by decide) (by decide)⟩, fun z hz => nomatch hz⟩) (by decide) (by decide) (hts _ mb_298) (va_Nw.use rfl (tm_GX hG (tm_inX 312 (by decide +kernel) rfl))) (fun q H locs hP hD hS => ?_)
  refine lv_astore_n (lv' := [(2, .ref q), (0, .ref (ad 0)), (1, .int p0)]) hx hb dL_flush_11 rfl hl (by decide) rfl (fun ls hl => ?_)
  refine lv_iconst (v := (nI 2)) hx hb dL_flush_12 (by decide) ?_
  exact kq_iret hx hb hr hlk hP hD hS dL_flush_13
set_option maxHeartbeats 4000000 in
set_option maxRecDepth 100000 in
theorem w_flush_x3 (p0 : Int32) {u u' v : tm_S} {o : Int64 × UInt64} (hM : kc_T l dC dI gs ad cc yX4_flush wsX4_flush { frames := 8, cells := 1, slots := 6, locals := 125 } [.ref (ad 0), .int p0] u u' "java/util/NoSuchElementException") : kl_M l dC dI gs ad cc cr cd yL_flush wsL_flush { frames := 9, cells := 1, slots := 6, locals := 146 } [.ref (ad 0), .int p0] u v o u' v o (nI 3) := by
  refine kl_ofW (cb := cL_flush) (maxL := 3) (hh := [(0, 5, 8, 13), (0, 5, 11, 19), (0, 5, 14, 29)]) (by decide) rfl rfl (Nat.le_of_ble_eq_true rfl) ?_
  intro p e s m below meth c A ls hx hb hr hlk hml hown hts hP hK hD hA hG hS hl hTab
  have hl : lv_has ls 3 [(0, .ref (ad 0)), (1, .int p0)] := hl
  refine lv_aload_n hx hb dL_flush_0 rfl (lv_at hl 0 rfl) ?_
  refine lv_iload_n hx hb dL_flush_1 rfl (lv_at hl 1 rfl) ?_
  refine kl_xV ⟨hx, hb, hml, hown, hts⟩ hM (cwV 1 hts gL_43_X4_flush rfl rfl rfl (by decide +kernel) ⟨Nat.le_of_ble_eq_true rfl, Nat.le_of_ble_eq_true rfl⟩) hK hP hD hA hG hS rfl hl.1 rfl (Nat.le_of_ble_eq_true rfl) dL_flush_2 ⟨Nat.le_of_ble_eq_true rfl, Nat.le_of_ble_eq_true rfl⟩ [⟨0, 5, 8, 13⟩, ⟨0, 5, 11, 19⟩] ⟨0, 5, 14, 29⟩ [] (by rw [hTab]; rfl) (List.forall_mem_cons.mpr ⟨Or.inr ⟨by decide, "java/lang/IllegalArgumentException", (hts _ mb_217), tm_Gc hG (by decide) (by decide) (by decide)⟩, List.forall_mem_cons.mpr ⟨Or.inr ⟨by decide, "java/lang/IllegalStateException", (hts _ mb_298), tm_Gc hG (by decide) (by decide) (by decide)⟩, fun z hz => nomatch hz⟩⟩) (by decide) (by decide) (hts _ mb_345) (va_Nw.use rfl (tm_GX hG (tm_inX 357 (by decide +kernel) rfl))) (fun q H locs hP hD hS => ?_)
  refine lv_astore_n (lv' := [(2, .ref q), (0, .ref (ad 0)), (1, .int p0)]) hx hb dL_flush_14 rfl hl (by decide) rfl (fun ls hl => ?_)
  refine lv_iconst (v := (nI 3)) hx hb dL_flush_15 (by decide) ?_
  exact kq_iret hx hb hr hlk hP hD hS dL_flush_16
set_option maxHeartbeats 4000000 in
set_option maxRecDepth 100000 in
theorem w_open_ok (p0 : Int32) (p1 : Int32) {u u' v : tm_S} {o : Int64 × UInt64} {r : Int64} (hM : kc_M l dC dI gs ad cc yX4_open wsX4_open { frames := 8, cells := 0, slots := 0, locals := 125 } [.ref (ad 0), .int p0, .int p1] u u' (some (.long r))) : kl_M l dC dI gs ad cc cr cd yL_open wsL_open { frames := 9, cells := 1, slots := 6, locals := 148 } [.ref (ad 0), .int p0, .int p1, .ref (ad 55)] u v o u' v (r, o.2) (nI 0) := by
  refine kl_ofW (cb := cL_open) (maxL := 5) (hh := [(0, 9, 12, 13), (0, 9, 16, 19), (0, 9, 20, 29), (0, 9, 24, 31)]) (by decide) rfl rfl (Nat.le_of_ble_eq_true rfl) ?_
  intro p e s m below meth c A ls hx hb hr hlk hml hown hts hP hK hD hA hG hS hl hTab
  have hl : lv_has ls 5 [(0, .ref (ad 0)), (1, .int p0), (2, .int p1), (3, .ref (ad 55))] := hl
  refine lv_aload_n hx hb dL_open_0 rfl (lv_at hl 3 rfl) ?_
  refine lv_iconst (v := (nI 0)) hx hb dL_open_1 (by decide) ?_
  refine lv_aload_n hx hb dL_open_2 rfl (lv_at hl 0 rfl) ?_
  refine lv_iload_n hx hb dL_open_3 rfl (lv_at hl 1 rfl) ?_
  refine lv_iload_n hx hb dL_open_4 rfl (lv_at hl 2 rfl) ?_
  refine kl_cV (st1 := [.long r, .int (nI 0), .ref (ad 55)]) ⟨hx, hb, hml, hown, hts⟩ hM (cwV 2 hts gL_46_X4_open rfl rfl rfl (by decide +kernel) ⟨Nat.le_of_ble_eq_true rfl, Nat.le_of_ble_eq_true rfl⟩) hK hP hD hA hG hS rfl hl.1 rfl rfl (Nat.le_of_ble_eq_true rfl) dL_open_5 ⟨Nat.le_of_ble_eq_true rfl, Nat.le_of_ble_eq_true rfl⟩ (fun H locs hP hD hS => ?_)
  refine tl_t5 hx hb hK hP hD hS dL_open_8 (fun H locs hP hD hS => ?_)
  refine lv_goto (tgt := 28) hx hb dL_open_9 (by decide) ?_
  refine lv_iconst (v := (nI 0)) hx hb dL_open_28 (by decide) ?_
  exact W.widen (k := 1) (n := 6) (Nat.le_of_ble_eq_true rfl) (Nat.le_of_ble_eq_true rfl) (kq_iret hx hb hr hlk hP hD hS dL_open_29)
set_option maxHeartbeats 4000000 in
set_option maxRecDepth 100000 in
theorem w_open_x1 (p0 : Int32) (p1 : Int32) {u u' v : tm_S} {o : Int64 × UInt64} (hM : kc_T l dC dI gs ad cc yX4_open wsX4_open { frames := 8, cells := 1, slots := 6, locals := 125 } [.ref (ad 0), .int p0, .int p1] u u' "java/lang/IllegalArgumentException") : kl_M l dC dI gs ad cc cr cd yL_open wsL_open { frames := 9, cells := 1, slots := 6, locals := 148 } [.ref (ad 0), .int p0, .int p1, .ref (ad 55)] u v o u' v o (nI 1) := by
  refine kl_ofW (cb := cL_open) (maxL := 5) (hh := [(0, 9, 12, 13), (0, 9, 16, 19), (0, 9, 20, 29), (0, 9, 24, 31)]) (by decide) rfl rfl (Nat.le_of_ble_eq_true rfl) ?_
  intro p e s m below meth c A ls hx hb hr hlk hml hown hts hP hK hD hA hG hS hl hTab
  have hl : lv_has ls 5 [(0, .ref (ad 0)), (1, .int p0), (2, .int p1), (3, .ref (ad 55))] := hl
  refine lv_aload_n hx hb dL_open_0 rfl (lv_at hl 3 rfl) ?_
  refine lv_iconst (v := (nI 0)) hx hb dL_open_1 (by decide) ?_
  refine lv_aload_n hx hb dL_open_2 rfl (lv_at hl 0 rfl) ?_
  refine lv_iload_n hx hb dL_open_3 rfl (lv_at hl 1 rfl) ?_
  refine lv_iload_n hx hb dL_open_4 rfl (lv_at hl 2 rfl) ?_
  refine kl_xV ⟨hx, hb, hml, hown, hts⟩ hM (cwV 2 hts gL_46_X4_open rfl rfl rfl (by decide +kernel) ⟨Nat.le_of_ble_eq_true rfl, Nat.le_of_ble_eq_true rfl⟩) hK hP hD hA hG hS rfl hl.1 rfl (Nat.le_of_ble_eq_true rfl) dL_open_5 ⟨Nat.le_of_ble_eq_true rfl, Nat.le_of_ble_eq_true rfl⟩ [] ⟨0, 9, 12, 13⟩ [⟨0, 9, 16, 19⟩, ⟨0, 9, 20, 29⟩, ⟨0, 9, 24, 31⟩] (by rw [hTab]; rfl) (fun z hz => nomatch hz) (by decide) (by decide) (hts _ mb_217) (va_Nw.use rfl (tm_GX hG (tm_inX 227 (by decide +kernel) rfl))) (fun q H locs hP hD hS => ?_)
  refine lv_astore (lv' := [(4, .ref q), (0, .ref (ad 0)), (1, .int p0), (2, .int p1), (3, .ref (ad 55))]) hx hb dL_open_12 hl (by decide) rfl (fun ls hl => ?_)
  refine lv_iconst (v := (nI 1)) hx hb dL_open_14 (by decide) ?_
  exact kq_iret hx hb hr hlk hP hD hS dL_open_15
set_option maxHeartbeats 4000000 in
set_option maxRecDepth 100000 in
theorem w_open_x2 (p0 : Int32) (p1 : Int32) {u u' v : tm_S} {o : Int64 × UInt64} (hM : kc_T l dC dI gs ad cc yX4_open wsX4_open { frames := 8, cells := 1, slots := 6, locals := 125 } [.ref (ad 0), .int p0, .int p1] u u' "java/lang/IllegalStateException") : kl_M l dC dI gs ad cc cr cd yL_open wsL_open { frames := 9, cells := 1, slots := 6, locals := 148 } [.ref (ad 0), .int p0, .int p1, .ref (ad 55)] u v o u' v o (nI 2) := by
  refine kl_ofW (cb := cL_open) (maxL := 5) (hh := [(0, 9, 12, 13), (0, 9, 16, 19), (0, 9, 20, 29), (0, 9, 24, 31)]) (by decide) rfl rfl (Nat.le_of_ble_eq_true rfl) ?_
  intro p e s m below meth c A ls hx hb hr hlk hml hown hts hP hK hD hA hG hS hl hTab
  have hl : lv_has ls 5 [(0, .ref (ad 0)), (1, .int p0), (2, .int p1), (3, .ref (ad 55))] := hl
  refine lv_aload_n hx hb dL_open_0 rfl (lv_at hl 3 rfl) ?_
  refine lv_iconst (v := (nI 0)) hx hb dL_open_1 (by decide) ?_
  refine lv_aload_n hx hb dL_open_2 rfl (lv_at hl 0 rfl) ?_
  refine lv_iload_n hx hb dL_open_3 rfl (lv_at hl 1 rfl) ?_
  refine lv_iload_n hx hb dL_open_4 rfl (lv_at hl 2 rfl) ?_
  refine kl_xV ⟨hx, hb, hml, hown, hts⟩ hM (cwV 2 hts gL_46_X4_open rfl rfl rfl (by decide +kernel) ⟨Nat.le_of_ble_eq_true rfl, Nat.le_of_ble_eq_true rfl⟩) hK hP hD hA hG hS rfl hl.1 rfl (Nat.le_of_ble_eq_true rfl) dL_open_5 ⟨Nat.le_of_ble_eq_true rfl, Nat.le_of_ble_eq_true rfl⟩ [⟨0, 9, 12, 13⟩] ⟨0, 9, 16, 19⟩ [⟨0, 9, 20, 29⟩, ⟨0, 9, 24, 31⟩] (by rw [hTab]; rfl) (List.forall_mem_cons.mpr ⟨Or.inr ⟨by decide, "java/lang/IllegalArgumentException", (hts _ mb_217), tm_Gc hG (by decide) (by decide) (by decide)⟩, fun z hz => nomatch hz⟩) (by decide) (by decide) (hts _ mb_298) (va_Nw.use rfl (tm_GX hG (tm_inX 312 (by decide +kernel) rfl))) (fun q H locs hP hD hS => ?_)
  refine lv_astore (lv' := [(4, .ref q), (0, .ref (ad 0)), (1, .int p0), (2, .int p1), (3, .ref (ad 55))]) hx hb dL_open_16 hl (by decide) rfl (fun ls hl => ?_)
  refine lv_iconst (v := (nI 2)) hx hb dL_open_18 (by decide) ?_
  exact kq_iret hx hb hr hlk hP hD hS dL_open_19
set_option maxHeartbeats 4000000 in
set_option maxRecDepth 100000 in
theorem w_open_x3 (p0 : Int32) (p1 : Int32) {u u' v : tm_S} {o : Int64 × UInt64} (hM : kc_T l dC dI gs ad cc yX4_open wsX4_open { frames := 8, cells := 1, slots := 6, locals := 125 } [.ref (ad 0), .int p0, .int p1] u u' "java/util/NoSuchElementException") : kl_M l dC dI gs ad cc cr cd yL_open wsL_open { frames := 9, cells := 1, slots := 6, locals := 148 } [.ref (ad 0), .int p0, .int p1, .ref (ad 55)] u v o u' v o (nI 3) := by
  refine kl_ofW (cb := cL_open) (maxL := 5) (hh := [(0, 9, 12, 13), (0, 9, 16, 19), (0, 9, 20, 29), (0, 9, 24, 31)]) (by decide) rfl rfl (Nat.le_of_ble_eq_true rfl) ?_
  intro p e s m below meth c A ls hx hb hr hlk hml hown hts hP hK hD hA hG hS hl hTab
  have hl : lv_has ls 5 [(0, .ref (ad 0)), (1, .int p0), (2, .int p1), (3, .ref (ad 55))] := hl
  refine lv_aload_n hx hb dL_open_0 rfl (lv_at hl 3 rfl) ?_
  refine lv_iconst (v := (nI 0)) hx hb dL_open_1 (by decide) ?_
  refine lv_aload_n hx hb dL_open_2 rfl (lv_at hl 0 rfl) ?_
  refine lv_iload_n hx hb dL_open_3 rfl (lv_at hl 1 rfl) ?_
  refine lv_iload_n hx hb dL_open_4 rfl (lv_at hl 2 rfl) ?_
  refine kl_xV ⟨hx, hb, hml, hown, hts⟩ hM (cwV 2 hts gL_46_X4_open rfl rfl rfl (by decide +kernel) ⟨Nat.le_of_ble_eq_true rfl, Nat.le_of_ble_eq_true rfl⟩) hK hP hD hA hG hS rfl hl.1 rfl (Nat.le_of_ble_eq_true rfl) dL_open_5 ⟨Nat.le_of_ble_eq_true rfl, Nat.le_of_ble_eq_true rfl⟩ [⟨0, 9, 12, 13⟩, ⟨0, 9, 16, 19⟩] ⟨0, 9, 20, 29⟩ [⟨0, 9, 24, 31⟩] (by rw [hTab]; rfl) (List.forall_mem_cons.mpr ⟨Or.inr ⟨by decide, "java/lang/IllegalArgumentException", (hts _ mb_217), tm_Gc hG (by decide) (by decide) (by decide)⟩, List.forall_mem_cons.mpr ⟨Or.inr ⟨by decide, "java/lang/IllegalStateException", (hts _ mb_298), tm_Gc hG (by decide) (by decide) (by decide)⟩, fun z hz => nomatch hz⟩⟩) (by decide) (by decide) (hts _ mb_345) (va_Nw.use rfl (tm_GX hG (tm_inX 357 (by decide +kernel) rfl))) (fun q H locs hP hD hS => ?_)
  refine lv_astore (lv' := [(4, .ref q), (0, .ref (ad 0)), (1, .int p0), (2, .int p1), (3, .ref (ad 55))]) hx hb dL_open_20 hl (by decide) rfl (fun ls hl => ?_)
  refine lv_iconst (v := (nI 3)) hx hb dL_open_22 (by decide) ?_
  exact kq_iret hx hb hr hlk hP hD hS dL_open_23
set_option maxHeartbeats 4000000 in
set_option maxRecDepth 100000 in
theorem w_open_x4 (p0 : Int32) (p1 : Int32) {u u' v : tm_S} {o : Int64 × UInt64} (hM : kc_T l dC dI gs ad cc yX4_open wsX4_open { frames := 8, cells := 1, slots := 6, locals := 125 } [.ref (ad 0), .int p0, .int p1] u u' "java/lang/UnsupportedOperationException") : kl_M l dC dI gs ad cc cr cd yL_open wsL_open { frames := 9, cells := 1, slots := 6, locals := 148 } [.ref (ad 0), .int p0, .int p1, .ref (ad 55)] u v o u' v o (nI 4) := by
  refine kl_ofW (cb := cL_open) (maxL := 5) (hh := [(0, 9, 12, 13), (0, 9, 16, 19), (0, 9, 20, 29), (0, 9, 24, 31)]) (by decide) rfl rfl (Nat.le_of_ble_eq_true rfl) ?_
  intro p e s m below meth c A ls hx hb hr hlk hml hown hts hP hK hD hA hG hS hl hTab
  have hl : lv_has ls 5 [(0, .ref (ad 0)), (1, .int p0), (2, .int p1), (3, .ref (ad 55))] := hl
  refine lv_aload_n hx hb dL_open_0 rfl (lv_at hl 3 rfl) ?_
  refine lv_iconst (v := (nI 0)) hx hb dL_open_1 (by decide) ?_
  refine lv_aload_n hx hb dL_open_2 rfl (lv_at hl 0 rfl) ?_
  refine lv_iload_n hx hb dL_open_3 rfl (lv_at hl 1 rfl) ?_
  refine lv_iload_n hx hb dL_open_4 rfl (lv_at hl 2 rfl) ?_
  refine kl_xV ⟨hx, hb, hml, hown, hts⟩ hM (cwV 2 hts gL_46_X4_open rfl rfl rfl (by decide +kernel) ⟨Nat.le_of_ble_eq_true rfl, Nat.le_of_ble_eq_true rfl⟩) hK hP hD hA hG hS rfl hl.1 rfl (Nat.le_of_ble_eq_true rfl) dL_open_5 ⟨Nat.le_of_ble_eq_true rfl, Nat.le_of_ble_eq_true rfl⟩ [⟨0, 9, 12, 13⟩, ⟨0, 9, 16, 19⟩, ⟨0, 9, 20, 29⟩] ⟨0, 9, 24, 31⟩ [] (by rw [hTab]; rfl) (List.forall_mem_cons.mpr ⟨Or.inr ⟨by decide, "java/lang/IllegalArgumentException", (hts _ mb_217), tm_Gc hG (by decide) (by decide) (by decide)⟩, List.forall_mem_cons.mpr ⟨Or.inr ⟨by decide, "java/lang/IllegalStateException", (hts _ mb_298), tm_Gc hG (by decide) (by decide) (by decide)⟩, List.forall_mem_cons.mpr ⟨Or.inr ⟨by decide, "java/util/NoSuchElementException", (hts _ mb_345), tm_Gc hG (by decide) (by decide) (by decide)⟩, fun z hz => nomatch hz⟩⟩⟩) (by decide) (by decide) (hts _ mb_346) (va_Nw.use rfl (tm_GX hG (tm_inX 376 (by decide +kernel) rfl))) (fun q H locs hP hD hS => ?_)
  refine lv_astore (lv' := [(4, .ref q), (0, .ref (ad 0)), (1, .int p0), (2, .int p1), (3, .ref (ad 55))]) hx hb dL_open_24 hl (by decide) rfl (fun ls hl => ?_)
  refine lv_iconst (v := (nI 4)) hx hb dL_open_26 (by decide) ?_
  exact kq_iret hx hb hr hlk hP hD hS dL_open_27
set_option maxHeartbeats 4000000 in
set_option maxRecDepth 100000 in
theorem w_unseal_ok (p0 : Int32) (p1 : Int32) {u u' v : tm_S} {o : Int64 × UInt64} {r : Int64} (hM : kc_M l dC dI gs ad cc yX4_unseal wsX4_unseal { frames := 8, cells := 0, slots := 0, locals := 125 } [.ref (ad 0), .int p0, .int p1] u u' (some (.long r))) : kl_M l dC dI gs ad cc cr cd yL_unseal wsL_unseal { frames := 9, cells := 1, slots := 6, locals := 148 } [.ref (ad 0), .int p0, .int p1, .ref (ad 55)] u v o u' v (r, o.2) (nI 0) := by
  refine kl_ofW (cb := cL_unseal) (maxL := 5) (hh := [(0, 9, 12, 13), (0, 9, 16, 19), (0, 9, 20, 29), (0, 9, 24, 31)]) (by decide) rfl rfl (Nat.le_of_ble_eq_true rfl) ?_
  intro p e s m below meth c A ls hx hb hr hlk hml hown hts hP hK hD hA hG hS hl hTab
  have hl : lv_has ls 5 [(0, .ref (ad 0)), (1, .int p0), (2, .int p1), (3, .ref (ad 55))] := hl
  refine lv_aload_n hx hb dL_unseal_0 rfl (lv_at hl 3 rfl) ?_
  refine lv_iconst (v := (nI 0)) hx hb dL_unseal_1 (by decide) ?_
  refine lv_aload_n hx hb dL_unseal_2 rfl (lv_at hl 0 rfl) ?_
  refine lv_iload_n hx hb dL_unseal_3 rfl (lv_at hl 1 rfl) ?_
  refine lv_iload_n hx hb dL_unseal_4 rfl (lv_at hl 2 rfl) ?_
  refine kl_cV (st1 := [.long r, .int (nI 0), .ref (ad 55)]) ⟨hx, hb, hml, hown, hts⟩ hM (cwV 2 hts gL_50_X4_unseal rfl rfl rfl (by decide +kernel) ⟨Nat.le_of_ble_eq_true rfl, Nat.le_of_ble_eq_true rfl⟩) hK hP hD hA hG hS rfl hl.1 rfl rfl (Nat.le_of_ble_eq_true rfl) dL_unseal_5 ⟨Nat.le_of_ble_eq_true rfl, Nat.le_of_ble_eq_true rfl⟩ (fun H locs hP hD hS => ?_)
  refine tl_t5 hx hb hK hP hD hS dL_unseal_8 (fun H locs hP hD hS => ?_)
  refine lv_goto (tgt := 28) hx hb dL_unseal_9 (by decide) ?_
  refine lv_iconst (v := (nI 0)) hx hb dL_unseal_28 (by decide) ?_
  exact W.widen (k := 1) (n := 6) (Nat.le_of_ble_eq_true rfl) (Nat.le_of_ble_eq_true rfl) (kq_iret hx hb hr hlk hP hD hS dL_unseal_29)
set_option maxHeartbeats 4000000 in
set_option maxRecDepth 100000 in
theorem w_unseal_x1 (p0 : Int32) (p1 : Int32) {u u' v : tm_S} {o : Int64 × UInt64} (hM : kc_T l dC dI gs ad cc yX4_unseal wsX4_unseal { frames := 8, cells := 1, slots := 6, locals := 125 } [.ref (ad 0), .int p0, .int p1] u u' "java/lang/IllegalArgumentException") : kl_M l dC dI gs ad cc cr cd yL_unseal wsL_unseal { frames := 9, cells := 1, slots := 6, locals := 148 } [.ref (ad 0), .int p0, .int p1, .ref (ad 55)] u v o u' v o (nI 1) := by
  refine kl_ofW (cb := cL_unseal) (maxL := 5) (hh := [(0, 9, 12, 13), (0, 9, 16, 19), (0, 9, 20, 29), (0, 9, 24, 31)]) (by decide) rfl rfl (Nat.le_of_ble_eq_true rfl) ?_
  intro p e s m below meth c A ls hx hb hr hlk hml hown hts hP hK hD hA hG hS hl hTab
  have hl : lv_has ls 5 [(0, .ref (ad 0)), (1, .int p0), (2, .int p1), (3, .ref (ad 55))] := hl
  refine lv_aload_n hx hb dL_unseal_0 rfl (lv_at hl 3 rfl) ?_
  refine lv_iconst (v := (nI 0)) hx hb dL_unseal_1 (by decide) ?_
  refine lv_aload_n hx hb dL_unseal_2 rfl (lv_at hl 0 rfl) ?_
  refine lv_iload_n hx hb dL_unseal_3 rfl (lv_at hl 1 rfl) ?_
  refine lv_iload_n hx hb dL_unseal_4 rfl (lv_at hl 2 rfl) ?_
  refine kl_xV ⟨hx, hb, hml, hown, hts⟩ hM (cwV 2 hts gL_50_X4_unseal rfl rfl rfl (by decide +kernel) ⟨Nat.le_of_ble_eq_true rfl, Nat.le_of_ble_eq_true rfl⟩) hK hP hD hA hG hS rfl hl.1 rfl (Nat.le_of_ble_eq_true rfl) dL_unseal_5 ⟨Nat.le_of_ble_eq_true rfl, Nat.le_of_ble_eq_true rfl⟩ [] ⟨0, 9, 12, 13⟩ [⟨0, 9, 16, 19⟩, ⟨0, 9, 20, 29⟩, ⟨0, 9, 24, 31⟩] (by rw [hTab]; rfl) (fun z hz => nomatch hz) (by decide) (by decide) (hts _ mb_217) (va_Nw.use rfl (tm_GX hG (tm_inX 227 (by decide +kernel) rfl))) (fun q H locs hP hD hS => ?_)
  refine lv_astore (lv' := [(4, .ref q), (0, .ref (ad 0)), (1, .int p0), (2, .int p1), (3, .ref (ad 55))]) hx hb dL_unseal_12 hl (by decide) rfl (fun ls hl => ?_)
  refine lv_iconst (v := (nI 1)) hx hb dL_unseal_14 (by decide) ?_
  exact kq_iret hx hb hr hlk hP hD hS dL_unseal_15
set_option maxHeartbeats 4000000 in
set_option maxRecDepth 100000 in
theorem w_unseal_x2 (p0 : Int32) (p1 : Int32) {u u' v : tm_S} {o : Int64 × UInt64} (hM : kc_T l dC dI gs ad cc yX4_unseal wsX4_unseal { frames := 8, cells := 1, slots := 6, locals := 125 } [.ref (ad 0), .int p0, .int p1] u u' "java/lang/IllegalStateException") : kl_M l dC dI gs ad cc cr cd yL_unseal wsL_unseal { frames := 9, cells := 1, slots := 6, locals := 148 } [.ref (ad 0), .int p0, .int p1, .ref (ad 55)] u v o u' v o (nI 2) := by
  refine kl_ofW (cb := cL_unseal) (maxL := 5) (hh := [(0, 9, 12, 13), (0, 9, 16, 19), (0, 9, 20, 29), (0, 9, 24, 31)]) (by decide) rfl rfl (Nat.le_of_ble_eq_true rfl) ?_
  intro p e s m below meth c A ls hx hb hr hlk hml hown hts hP hK hD hA hG hS hl hTab
  have hl : lv_has ls 5 [(0, .ref (ad 0)), (1, .int p0), (2, .int p1), (3, .ref (ad 55))] := hl
  refine lv_aload_n hx hb dL_unseal_0 rfl (lv_at hl 3 rfl) ?_
  refine lv_iconst (v := (nI 0)) hx hb dL_unseal_1 (by decide) ?_
  refine lv_aload_n hx hb dL_unseal_2 rfl (lv_at hl 0 rfl) ?_
  refine lv_iload_n hx hb dL_unseal_3 rfl (lv_at hl 1 rfl) ?_
  refine lv_iload_n hx hb dL_unseal_4 rfl (lv_at hl 2 rfl) ?_
  refine kl_xV ⟨hx, hb, hml, hown, hts⟩ hM (cwV 2 hts gL_50_X4_unseal rfl rfl rfl (by decide +kernel) ⟨Nat.le_of_ble_eq_true rfl, Nat.le_of_ble_eq_true rfl⟩) hK hP hD hA hG hS rfl hl.1 rfl (Nat.le_of_ble_eq_true rfl) dL_unseal_5 ⟨Nat.le_of_ble_eq_true rfl, Nat.le_of_ble_eq_true rfl⟩ [⟨0, 9, 12, 13⟩] ⟨0, 9, 16, 19⟩ [⟨0, 9, 20, 29⟩, ⟨0, 9, 24, 31⟩] (by rw [hTab]; rfl) (List.forall_mem_cons.mpr ⟨Or.inr ⟨by decide, "java/lang/IllegalArgumentException", (hts _ mb_217), tm_Gc hG (by decide) (by decide) (by decide)⟩, fun z hz => nomatch hz⟩) (by decide) (by decide) (hts _ mb_298) (va_Nw.use rfl (tm_GX hG (tm_inX 312 (by decide +kernel) rfl))) (fun q H locs hP hD hS => ?_)
  refine lv_astore (lv' := [(4, .ref q), (0, .ref (ad 0)), (1, .int p0), (2, .int p1), (3, .ref (ad 55))]) hx hb dL_unseal_16 hl (by decide) rfl (fun ls hl => ?_)
  refine lv_iconst (v := (nI 2)) hx hb dL_unseal_18 (by decide) ?_
  exact kq_iret hx hb hr hlk hP hD hS dL_unseal_19
set_option maxHeartbeats 4000000 in
set_option maxRecDepth 100000 in
theorem w_unseal_x3 (p0 : Int32) (p1 : Int32) {u u' v : tm_S} {o : Int64 × UInt64} (hM : kc_T l dC dI gs ad cc yX4_unseal wsX4_unseal { frames := 8, cells := 1, slots := 6, locals := 125 } [.ref (ad 0), .int p0, .int p1] u u' "java/util/NoSuchElementException") : kl_M l dC dI gs ad cc cr cd yL_unseal wsL_unseal { frames := 9, cells := 1, slots := 6, locals := 148 } [.ref (ad 0), .int p0, .int p1, .ref (ad 55)] u v o u' v o (nI 3) := by
  refine kl_ofW (cb := cL_unseal) (maxL := 5) (hh := [(0, 9, 12, 13), (0, 9, 16, 19), (0, 9, 20, 29), (0, 9, 24, 31)]) (by decide) rfl rfl (Nat.le_of_ble_eq_true rfl) ?_
  intro p e s m below meth c A ls hx hb hr hlk hml hown hts hP hK hD hA hG hS hl hTab
  have hl : lv_has ls 5 [(0, .ref (ad 0)), (1, .int p0), (2, .int p1), (3, .ref (ad 55))] := hl
  refine lv_aload_n hx hb dL_unseal_0 rfl (lv_at hl 3 rfl) ?_
  refine lv_iconst (v := (nI 0)) hx hb dL_unseal_1 (by decide) ?_
  refine lv_aload_n hx hb dL_unseal_2 rfl (lv_at hl 0 rfl) ?_
  refine lv_iload_n hx hb dL_unseal_3 rfl (lv_at hl 1 rfl) ?_
  refine lv_iload_n hx hb dL_unseal_4 rfl (lv_at hl 2 rfl) ?_
  refine kl_xV ⟨hx, hb, hml, hown, hts⟩ hM (cwV 2 hts gL_50_X4_unseal rfl rfl rfl (by decide +kernel) ⟨Nat.le_of_ble_eq_true rfl, Nat.le_of_ble_eq_true rfl⟩) hK hP hD hA hG hS rfl hl.1 rfl (Nat.le_of_ble_eq_true rfl) dL_unseal_5 ⟨Nat.le_of_ble_eq_true rfl, Nat.le_of_ble_eq_true rfl⟩ [⟨0, 9, 12, 13⟩, ⟨0, 9, 16, 19⟩] ⟨0, 9, 20, 29⟩ [⟨0, 9, 24, 31⟩] (by rw [hTab]; rfl) (List.forall_mem_cons.mpr ⟨Or.inr ⟨by decide, "java/lang/IllegalArgumentException", (hts _ mb_217), tm_Gc hG (by decide) (by decide) (by decide)⟩, List.forall_mem_cons.mpr ⟨Or.inr ⟨by decide, "java/lang/IllegalStateException", (hts _ mb_298), tm_Gc hG (by decide) (by decide) (by decide)⟩, fun z hz => nomatch hz⟩⟩) (by decide) (by decide) (hts _ mb_345) (va_Nw.use rfl (tm_GX hG (tm_inX 357 (by decide +kernel) rfl))) (fun q H locs hP hD hS => ?_)
  refine lv_astore (lv' := [(4, .ref q), (0, .ref (ad 0)), (1, .int p0), (2, .int p1), (3, .ref (ad 55))]) hx hb dL_unseal_20 hl (by decide) rfl (fun ls hl => ?_)
  refine lv_iconst (v := (nI 3)) hx hb dL_unseal_22 (by decide) ?_
  exact kq_iret hx hb hr hlk hP hD hS dL_unseal_23
set_option maxHeartbeats 4000000 in
set_option maxRecDepth 100000 in
theorem w_unseal_x4 (p0 : Int32) (p1 : Int32) {u u' v : tm_S} {o : Int64 × UInt64} (hM : kc_T l dC dI gs ad cc yX4_unseal wsX4_unseal { frames := 8, cells := 1, slots := 6, locals := 125 } [.ref (ad 0), .int p0, .int p1] u u' "java/lang/UnsupportedOperationException") : kl_M l dC dI gs ad cc cr cd yL_unseal wsL_unseal { frames := 9, cells := 1, slots := 6, locals := 148 } [.ref (ad 0), .int p0, .int p1, .ref (ad 55)] u v o u' v o (nI 4) := by
  refine kl_ofW (cb := cL_unseal) (maxL := 5) (hh := [(0, 9, 12, 13), (0, 9, 16, 19), (0, 9, 20, 29), (0, 9, 24, 31)]) (by decide) rfl rfl (Nat.le_of_ble_eq_true rfl) ?_
  intro p e s m below meth c A ls hx hb hr hlk hml hown hts hP hK hD hA hG hS hl hTab
  have hl : lv_has ls 5 [(0, .ref (ad 0)), (1, .int p0), (2, .int p1), (3, .ref (ad 55))] := hl
  refine lv_aload_n hx hb dL_unseal_0 rfl (lv_at hl 3 rfl) ?_
  refine lv_iconst (v := (nI 0)) hx hb dL_unseal_1 (by decide) ?_
  refine lv_aload_n hx hb dL_unseal_2 rfl (lv_at hl 0 rfl) ?_
  refine lv_iload_n hx hb dL_unseal_3 rfl (lv_at hl 1 rfl) ?_
  refine lv_iload_n hx hb dL_unseal_4 rfl (lv_at hl 2 rfl) ?_
  refine kl_xV ⟨hx, hb, hml, hown, hts⟩ hM (cwV 2 hts gL_50_X4_unseal rfl rfl rfl (by decide +kernel) ⟨Nat.le_of_ble_eq_true rfl, Nat.le_of_ble_eq_true rfl⟩) hK hP hD hA hG hS rfl hl.1 rfl (Nat.le_of_ble_eq_true rfl) dL_unseal_5 ⟨Nat.le_of_ble_eq_true rfl, Nat.le_of_ble_eq_true rfl⟩ [⟨0, 9, 12, 13⟩, ⟨0, 9, 16, 19⟩, ⟨0, 9, 20, 29⟩] ⟨0, 9, 24, 31⟩ [] (by rw [hTab]; rfl) (List.forall_mem_cons.mpr ⟨Or.inr ⟨by decide, "java/lang/IllegalArgumentException", (hts _ mb_217), tm_Gc hG (by decide) (by decide) (by decide)⟩, List.forall_mem_cons.mpr ⟨Or.inr ⟨by decide, "java/lang/IllegalStateException", (hts _ mb_298), tm_Gc hG (by decide) (by decide) (by decide)⟩, List.forall_mem_cons.mpr ⟨Or.inr ⟨by decide, "java/util/NoSuchElementException", (hts _ mb_345), tm_Gc hG (by decide) (by decide) (by decide)⟩, fun z hz => nomatch hz⟩⟩⟩) (by decide) (by decide) (hts _ mb_346) (va_Nw.use rfl (tm_GX hG (tm_inX 376 (by decide +kernel) rfl))) (fun q H locs hP hD hS => ?_)
  refine lv_astore (lv' := [(4, .ref q), (0, .ref (ad 0)), (1, .int p0), (2, .int p1), (3, .ref (ad 55))]) hx hb dL_unseal_24 hl (by decide) rfl (fun ls hl => ?_)
  refine lv_iconst (v := (nI 4)) hx hb dL_unseal_26 (by decide) ?_
  exact kq_iret hx hb hr hlk hP hD hS dL_unseal_27
set_option maxHeartbeats 4000000 in
set_option maxRecDepth 100000 in
theorem w_session_ok (p0 : Int32) {u u' v : tm_S} {o : Int64 × UInt64} (hM : kc_M l dC dI gs ad cc yX4_session wsX4_session { frames := 8, cells := 0, slots := 0, locals := 125 } [.ref (ad 0), .int p0] u u' none) : kl_M l dC dI gs ad cc cr cd yL_session wsL_session { frames := 9, cells := 1, slots := 6, locals := 146 } [.ref (ad 0), .int p0] u v o u' v o (nI 0) := by
  refine kl_ofW (cb := cL_session) (maxL := 3) (hh := [(0, 5, 8, 13), (0, 5, 11, 19)]) (by decide) rfl rfl (Nat.le_of_ble_eq_true rfl) ?_
  intro p e s m below meth c A ls hx hb hr hlk hml hown hts hP hK hD hA hG hS hl hTab
  have hl : lv_has ls 3 [(0, .ref (ad 0)), (1, .int p0)] := hl
  refine lv_aload_n hx hb dL_session_0 rfl (lv_at hl 0 rfl) ?_
  refine lv_iload_n hx hb dL_session_1 rfl (lv_at hl 1 rfl) ?_
  refine kl_cV (st1 := []) ⟨hx, hb, hml, hown, hts⟩ hM (cwV 1 hts gL_53_X4_session rfl rfl rfl (by decide +kernel) ⟨Nat.le_of_ble_eq_true rfl, Nat.le_of_ble_eq_true rfl⟩) hK hP hD hA hG hS rfl hl.1 rfl rfl (Nat.le_of_ble_eq_true rfl) dL_session_2 ⟨Nat.le_of_ble_eq_true rfl, Nat.le_of_ble_eq_true rfl⟩ (fun H locs hP hD hS => ?_)
  refine lv_goto (tgt := 14) hx hb dL_session_5 (by decide) ?_
  refine lv_iconst (v := (nI 0)) hx hb dL_session_14 (by decide) ?_
  exact W.widen (k := 1) (n := 6) (Nat.le_of_ble_eq_true rfl) (Nat.le_of_ble_eq_true rfl) (kq_iret hx hb hr hlk hP hD hS dL_session_15)
set_option maxHeartbeats 4000000 in
set_option maxRecDepth 100000 in
theorem w_session_x1 (p0 : Int32) {u u' v : tm_S} {o : Int64 × UInt64} (hM : kc_T l dC dI gs ad cc yX4_session wsX4_session { frames := 8, cells := 1, slots := 6, locals := 125 } [.ref (ad 0), .int p0] u u' "java/lang/IllegalArgumentException") : kl_M l dC dI gs ad cc cr cd yL_session wsL_session { frames := 9, cells := 1, slots := 6, locals := 146 } [.ref (ad 0), .int p0] u v o u' v o (nI 1) := by
  refine kl_ofW (cb := cL_session) (maxL := 3) (hh := [(0, 5, 8, 13), (0, 5, 11, 19)]) (by decide) rfl rfl (Nat.le_of_ble_eq_true rfl) ?_
  intro p e s m below meth c A ls hx hb hr hlk hml hown hts hP hK hD hA hG hS hl hTab
  have hl : lv_has ls 3 [(0, .ref (ad 0)), (1, .int p0)] := hl
  refine lv_aload_n hx hb dL_session_0 rfl (lv_at hl 0 rfl) ?_
  refine lv_iload_n hx hb dL_session_1 rfl (lv_at hl 1 rfl) ?_
  refine kl_xV ⟨hx, hb, hml, hown, hts⟩ hM (cwV 1 hts gL_53_X4_session rfl rfl rfl (by decide +kernel) ⟨Nat.le_of_ble_eq_true rfl, Nat.le_of_ble_eq_true rfl⟩) hK hP hD hA hG hS rfl hl.1 rfl (Nat.le_of_ble_eq_true rfl) dL_session_2 ⟨Nat.le_of_ble_eq_true rfl, Nat.le_of_ble_eq_true rfl⟩ [] ⟨0, 5, 8, 13⟩ [⟨0, 5, 11, 19⟩] (by rw [hTab]; rfl) (fun z hz => nomatch hz) (by decide) (by decide) (hts _ mb_217) (va_Nw.use rfl (tm_GX hG (tm_inX 227 (by decide +kernel) rfl))) (fun q H locs hP hD hS => ?_)
  refine lv_astore_n (lv' := [(2, .ref q), (0, .ref (ad 0)), (1, .int p0)]) hx hb dL_session_8 rfl hl (by decide) rfl (fun ls hl => ?_)
  refine lv_iconst (v := (nI 1)) hx hb dL_session_9 (by decide) ?_
  exact kq_iret hx hb hr hlk hP hD hS dL_session_10
set_option maxHeartbeats 4000000 in
set_option maxRecDepth 100000 in
theorem w_session_x2 (p0 : Int32) {u u' v : tm_S} {o : Int64 × UInt64} (hM : kc_T l dC dI gs ad cc yX4_session wsX4_session { frames := 8, cells := 1, slots := 6, locals := 125 } [.ref (ad 0), .int p0] u u' "java/lang/IllegalStateException") : kl_M l dC dI gs ad cc cr cd yL_session wsL_session { frames := 9, cells := 1, slots := 6, locals := 146 } [.ref (ad 0), .int p0] u v o u' v o (nI 2) := by
  refine kl_ofW (cb := cL_session) (maxL := 3) (hh := [(0, 5, 8, 13), (0, 5, 11, 19)]) (by decide) rfl rfl (Nat.le_of_ble_eq_true rfl) ?_
  intro p e s m below meth c A ls hx hb hr hlk hml hown hts hP hK hD hA hG hS hl hTab
  have hl : lv_has ls 3 [(0, .ref (ad 0)), (1, .int p0)] := hl
  refine lv_aload_n hx hb dL_session_0 rfl (lv_at hl 0 rfl) ?_
  refine lv_iload_n hx hb dL_session_1 rfl (lv_at hl 1 rfl) ?_
  refine kl_xV ⟨hx, hb, hml, hown, hts⟩ hM (cwV 1 hts gL_53_X4_session rfl rfl rfl (by decide +kernel) ⟨Nat.le_of_ble_eq_true rfl, Nat.le_of_ble_eq_true rfl⟩) hK hP hD hA hG hS rfl hl.1 rfl (Nat.le_of_ble_eq_true rfl) dL_session_2 ⟨Nat.le_of_ble_eq_true rfl, Nat.le_of_ble_eq_true rfl⟩ [⟨0, 5, 8, 13⟩] ⟨0, 5, 11, 19⟩ [] (by rw [hTab]; rfl) (List.forall_mem_cons.mpr ⟨Or.inr ⟨by decide, "java/lang/IllegalArgumentException", (hts _ mb_217), tm_Gc hG (by decide) (by decide) (by decide)⟩, fun z hz => nomatch hz⟩) (by decide) (by decide) (hts _ mb_298) (va_Nw.use rfl (tm_GX hG (tm_inX 312 (by decide +kernel) rfl))) (fun q H locs hP hD hS => ?_)
  refine lv_astore_n (lv' := [(2, .ref q), (0, .ref (ad 0)), (1, .int p0)]) hx hb dL_session_11 rfl hl (by decide) rfl (fun ls hl => ?_)
  refine lv_iconst (v := (nI 2)) hx hb dL_session_12 (by decide) ?_
  exact kq_iret hx hb hr hlk hP hD hS dL_session_13
set_option maxHeartbeats 4000000 in
set_option maxRecDepth 100000 in
theorem w_pcr_ok (p0 : Int32) (p1 : Int32) (p2 : Int32) {u u' v : tm_S} {o : Int64 × UInt64} {r : Int64} (hM : kc_M l dC dI gs ad cc yX4_pcr wsX4_pcr { frames := 8, cells := 0, slots := 0, locals := 125 } [.ref (ad 0), .int p0, .int p1, .int p2] u u' (some (.long r))) : kl_M l dC dI gs ad cc cr cd yL_pcr wsL_pcr { frames := 9, cells := 1, slots := 6, locals := 149 } [.ref (ad 0), .int p0, .int p1, .int p2, .ref (ad 55)] u v o u' v (r, o.2) (nI 0) := by
  refine kl_ofW (cb := cL_pcr) (maxL := 6) (hh := [(0, 11, 14, 13), (0, 11, 18, 19)]) (by decide) rfl rfl (Nat.le_of_ble_eq_true rfl) ?_
  intro p e s m below meth c A ls hx hb hr hlk hml hown hts hP hK hD hA hG hS hl hTab
  have hl : lv_has ls 6 [(0, .ref (ad 0)), (1, .int p0), (2, .int p1), (3, .int p2), (4, .ref (ad 55))] := hl
  refine lv_aload hx hb dL_pcr_0 (lv_at hl 4 rfl) ?_
  refine lv_iconst (v := (nI 0)) hx hb dL_pcr_2 (by decide) ?_
  refine lv_aload_n hx hb dL_pcr_3 rfl (lv_at hl 0 rfl) ?_
  refine lv_iload_n hx hb dL_pcr_4 rfl (lv_at hl 1 rfl) ?_
  refine lv_iload_n hx hb dL_pcr_5 rfl (lv_at hl 2 rfl) ?_
  refine lv_iload_n hx hb dL_pcr_6 rfl (lv_at hl 3 rfl) ?_
  refine kl_cV (st1 := [.long r, .int (nI 0), .ref (ad 55)]) ⟨hx, hb, hml, hown, hts⟩ hM (cwV 3 hts gL_56_X4_pcr rfl rfl rfl (by decide +kernel) ⟨Nat.le_of_ble_eq_true rfl, Nat.le_of_ble_eq_true rfl⟩) hK hP hD hA hG hS rfl hl.1 rfl rfl (Nat.le_of_ble_eq_true rfl) dL_pcr_7 ⟨Nat.le_of_ble_eq_true rfl, Nat.le_of_ble_eq_true rfl⟩ (fun H locs hP hD hS => ?_)
  refine tl_t5 hx hb hK hP hD hS dL_pcr_10 (fun H locs hP hD hS => ?_)
  refine lv_goto (tgt := 22) hx hb dL_pcr_11 (by decide) ?_
  refine lv_iconst (v := (nI 0)) hx hb dL_pcr_22 (by decide) ?_
  exact W.widen (k := 1) (n := 6) (Nat.le_of_ble_eq_true rfl) (Nat.le_of_ble_eq_true rfl) (kq_iret hx hb hr hlk hP hD hS dL_pcr_23)
set_option maxHeartbeats 4000000 in
set_option maxRecDepth 100000 in
theorem w_pcr_x1 (p0 : Int32) (p1 : Int32) (p2 : Int32) {u u' v : tm_S} {o : Int64 × UInt64} (hM : kc_T l dC dI gs ad cc yX4_pcr wsX4_pcr { frames := 8, cells := 1, slots := 6, locals := 125 } [.ref (ad 0), .int p0, .int p1, .int p2] u u' "java/lang/IllegalArgumentException") : kl_M l dC dI gs ad cc cr cd yL_pcr wsL_pcr { frames := 9, cells := 1, slots := 6, locals := 149 } [.ref (ad 0), .int p0, .int p1, .int p2, .ref (ad 55)] u v o u' v o (nI 1) := by
  refine kl_ofW (cb := cL_pcr) (maxL := 6) (hh := [(0, 11, 14, 13), (0, 11, 18, 19)]) (by decide) rfl rfl (Nat.le_of_ble_eq_true rfl) ?_
  intro p e s m below meth c A ls hx hb hr hlk hml hown hts hP hK hD hA hG hS hl hTab
  have hl : lv_has ls 6 [(0, .ref (ad 0)), (1, .int p0), (2, .int p1), (3, .int p2), (4, .ref (ad 55))] := hl
  refine lv_aload hx hb dL_pcr_0 (lv_at hl 4 rfl) ?_
  refine lv_iconst (v := (nI 0)) hx hb dL_pcr_2 (by decide) ?_
  refine lv_aload_n hx hb dL_pcr_3 rfl (lv_at hl 0 rfl) ?_
  refine lv_iload_n hx hb dL_pcr_4 rfl (lv_at hl 1 rfl) ?_
  refine lv_iload_n hx hb dL_pcr_5 rfl (lv_at hl 2 rfl) ?_
  refine lv_iload_n hx hb dL_pcr_6 rfl (lv_at hl 3 rfl) ?_
  refine kl_xV ⟨hx, hb, hml, hown, hts⟩ hM (cwV 3 hts gL_56_X4_pcr rfl rfl rfl (by decide +kernel) ⟨Nat.le_of_ble_eq_true rfl, Nat.le_of_ble_eq_true rfl⟩) hK hP hD hA hG hS rfl hl.1 rfl (Nat.le_of_ble_eq_true rfl) dL_pcr_7 ⟨Nat.le_of_ble_eq_true rfl, Nat.le_of_ble_eq_true rfl⟩ [] ⟨0, 11, 14, 13⟩ [⟨0, 11, 18, 19⟩] (by rw [hTab]; rfl) (fun z hz => nomatch hz) (by decide) (by decide) (hts _ mb_217) (va_Nw.use rfl (tm_GX hG (tm_inX 227 (by decide +kernel) rfl))) (fun q H locs hP hD hS => ?_)
  refine lv_astore (lv' := [(5, .ref q), (0, .ref (ad 0)), (1, .int p0), (2, .int p1), (3, .int p2), (4, .ref (ad 55))]) hx hb dL_pcr_14 hl (by decide) rfl (fun ls hl => ?_)
  refine lv_iconst (v := (nI 1)) hx hb dL_pcr_16 (by decide) ?_
  exact kq_iret hx hb hr hlk hP hD hS dL_pcr_17
set_option maxHeartbeats 4000000 in
set_option maxRecDepth 100000 in
theorem w_pcr_x2 (p0 : Int32) (p1 : Int32) (p2 : Int32) {u u' v : tm_S} {o : Int64 × UInt64} (hM : kc_T l dC dI gs ad cc yX4_pcr wsX4_pcr { frames := 8, cells := 1, slots := 6, locals := 125 } [.ref (ad 0), .int p0, .int p1, .int p2] u u' "java/lang/IllegalStateException") : kl_M l dC dI gs ad cc cr cd yL_pcr wsL_pcr { frames := 9, cells := 1, slots := 6, locals := 149 } [.ref (ad 0), .int p0, .int p1, .int p2, .ref (ad 55)] u v o u' v o (nI 2) := by
  refine kl_ofW (cb := cL_pcr) (maxL := 6) (hh := [(0, 11, 14, 13), (0, 11, 18, 19)]) (by decide) rfl rfl (Nat.le_of_ble_eq_true rfl) ?_
  intro p e s m below meth c A ls hx hb hr hlk hml hown hts hP hK hD hA hG hS hl hTab
  have hl : lv_has ls 6 [(0, .ref (ad 0)), (1, .int p0), (2, .int p1), (3, .int p2), (4, .ref (ad 55))] := hl
  refine lv_aload hx hb dL_pcr_0 (lv_at hl 4 rfl) ?_
  refine lv_iconst (v := (nI 0)) hx hb dL_pcr_2 (by decide) ?_
  refine lv_aload_n hx hb dL_pcr_3 rfl (lv_at hl 0 rfl) ?_
  refine lv_iload_n hx hb dL_pcr_4 rfl (lv_at hl 1 rfl) ?_
  refine lv_iload_n hx hb dL_pcr_5 rfl (lv_at hl 2 rfl) ?_
  refine lv_iload_n hx hb dL_pcr_6 rfl (lv_at hl 3 rfl) ?_
  refine kl_xV ⟨hx, hb, hml, hown, hts⟩ hM (cwV 3 hts gL_56_X4_pcr rfl rfl rfl (by decide +kernel) ⟨Nat.le_of_ble_eq_true rfl, Nat.le_of_ble_eq_true rfl⟩) hK hP hD hA hG hS rfl hl.1 rfl (Nat.le_of_ble_eq_true rfl) dL_pcr_7 ⟨Nat.le_of_ble_eq_true rfl, Nat.le_of_ble_eq_true rfl⟩ [⟨0, 11, 14, 13⟩] ⟨0, 11, 18, 19⟩ [] (by rw [hTab]; rfl) (List.forall_mem_cons.mpr ⟨Or.inr ⟨by decide, "java/lang/IllegalArgumentException", (hts _ mb_217), tm_Gc hG (by decide) (by decide) (by decide)⟩, fun z hz => nomatch hz⟩) (by decide) (by decide) (hts _ mb_298) (va_Nw.use rfl (tm_GX hG (tm_inX 312 (by decide +kernel) rfl))) (fun q H locs hP hD hS => ?_)
  refine lv_astore (lv' := [(5, .ref q), (0, .ref (ad 0)), (1, .int p0), (2, .int p1), (3, .int p2), (4, .ref (ad 55))]) hx hb dL_pcr_18 hl (by decide) rfl (fun ls hl => ?_)
  refine lv_iconst (v := (nI 2)) hx hb dL_pcr_20 (by decide) ?_
  exact kq_iret hx hb hr hlk hP hD hS dL_pcr_21
set_option maxHeartbeats 4000000 in
set_option maxRecDepth 100000 in
theorem w_either_ok (p0 : Int32) (p1 : Int64) (p2 : Int64) {u u' v : tm_S} {o : Int64 × UInt64} {r : Int64} (hM : kc_M l dC dI gs ad cc yX4_either wsX4_either { frames := 8, cells := 0, slots := 0, locals := 125 } [.ref (ad 0), .int p0, .long p1, .long p2] u u' (some (.long r))) : kl_M l dC dI gs ad cc cr cd yL_either wsL_either { frames := 9, cells := 1, slots := 6, locals := 151 } [.ref (ad 0), .int p0, .long p1, .long p2, .ref (ad 55)] u v o u' v (r, o.2) (nI 0) := by
  refine kl_ofW (cb := cL_either) (maxL := 8) (hh := [(0, 12, 15, 13), (0, 12, 19, 19), (0, 12, 23, 31)]) (by decide) rfl rfl (Nat.le_of_ble_eq_true rfl) ?_
  intro p e s m below meth c A ls hx hb hr hlk hml hown hts hP hK hD hA hG hS hl hTab
  have hl : lv_has ls 8 [(0, .ref (ad 0)), (1, .int p0), (2, .long p1), (4, .long p2), (6, .ref (ad 55))] := hl
  refine lv_aload hx hb dL_either_0 (lv_at hl 4 rfl) ?_
  refine lv_iconst (v := (nI 0)) hx hb dL_either_2 (by decide) ?_
  refine lv_aload_n hx hb dL_either_3 rfl (lv_at hl 0 rfl) ?_
  refine lv_iload_n hx hb dL_either_4 rfl (lv_at hl 1 rfl) ?_
  refine lv_lload_n hx hb dL_either_5 rfl (lv_at hl 2 rfl) ?_
  refine lv_lload hx hb dL_either_6 (lv_at hl 3 rfl) ?_
  refine kl_cV (st1 := [.long r, .int (nI 0), .ref (ad 55)]) ⟨hx, hb, hml, hown, hts⟩ hM (cwV 3 hts gL_60_X4_either rfl rfl rfl (by decide +kernel) ⟨Nat.le_of_ble_eq_true rfl, Nat.le_of_ble_eq_true rfl⟩) hK hP hD hA hG hS rfl hl.1 rfl rfl (Nat.le_of_ble_eq_true rfl) dL_either_8 ⟨Nat.le_of_ble_eq_true rfl, Nat.le_of_ble_eq_true rfl⟩ (fun H locs hP hD hS => ?_)
  refine tl_t5 hx hb hK hP hD hS dL_either_11 (fun H locs hP hD hS => ?_)
  refine lv_goto (tgt := 27) hx hb dL_either_12 (by decide) ?_
  refine lv_iconst (v := (nI 0)) hx hb dL_either_27 (by decide) ?_
  exact W.widen (k := 1) (n := 6) (Nat.le_of_ble_eq_true rfl) (Nat.le_of_ble_eq_true rfl) (kq_iret hx hb hr hlk hP hD hS dL_either_28)
set_option maxHeartbeats 4000000 in
set_option maxRecDepth 100000 in
theorem w_either_x1 (p0 : Int32) (p1 : Int64) (p2 : Int64) {u u' v : tm_S} {o : Int64 × UInt64} (hM : kc_T l dC dI gs ad cc yX4_either wsX4_either { frames := 8, cells := 1, slots := 6, locals := 125 } [.ref (ad 0), .int p0, .long p1, .long p2] u u' "java/lang/IllegalArgumentException") : kl_M l dC dI gs ad cc cr cd yL_either wsL_either { frames := 9, cells := 1, slots := 6, locals := 151 } [.ref (ad 0), .int p0, .long p1, .long p2, .ref (ad 55)] u v o u' v o (nI 1) := by
  refine kl_ofW (cb := cL_either) (maxL := 8) (hh := [(0, 12, 15, 13), (0, 12, 19, 19), (0, 12, 23, 31)]) (by decide) rfl rfl (Nat.le_of_ble_eq_true rfl) ?_
  intro p e s m below meth c A ls hx hb hr hlk hml hown hts hP hK hD hA hG hS hl hTab
  have hl : lv_has ls 8 [(0, .ref (ad 0)), (1, .int p0), (2, .long p1), (4, .long p2), (6, .ref (ad 55))] := hl
  refine lv_aload hx hb dL_either_0 (lv_at hl 4 rfl) ?_
  refine lv_iconst (v := (nI 0)) hx hb dL_either_2 (by decide) ?_
  refine lv_aload_n hx hb dL_either_3 rfl (lv_at hl 0 rfl) ?_
  refine lv_iload_n hx hb dL_either_4 rfl (lv_at hl 1 rfl) ?_
  refine lv_lload_n hx hb dL_either_5 rfl (lv_at hl 2 rfl) ?_
  refine lv_lload hx hb dL_either_6 (lv_at hl 3 rfl) ?_
  refine kl_xV ⟨hx, hb, hml, hown, hts⟩ hM (cwV 3 hts gL_60_X4_either rfl rfl rfl (by decide +kernel) ⟨Nat.le_of_ble_eq_true rfl, Nat.le_of_ble_eq_true rfl⟩) hK hP hD hA hG hS rfl hl.1 rfl (Nat.le_of_ble_eq_true rfl) dL_either_8 ⟨Nat.le_of_ble_eq_true rfl, Nat.le_of_ble_eq_true rfl⟩ [] ⟨0, 12, 15, 13⟩ [⟨0, 12, 19, 19⟩, ⟨0, 12, 23, 31⟩] (by rw [hTab]; rfl) (fun z hz => nomatch hz) (by decide) (by decide) (hts _ mb_217) (va_Nw.use rfl (tm_GX hG (tm_inX 227 (by decide +kernel) rfl))) (fun q H locs hP hD hS => ?_)
  refine lv_astore (lv' := [(7, .ref q), (0, .ref (ad 0)), (1, .int p0), (2, .long p1), (4, .long p2), (6, .ref (ad 55))]) hx hb dL_either_15 hl (by decide) rfl (fun ls hl => ?_)
  refine lv_iconst (v := (nI 1)) hx hb dL_either_17 (by decide) ?_
  exact kq_iret hx hb hr hlk hP hD hS dL_either_18
set_option maxHeartbeats 4000000 in
set_option maxRecDepth 100000 in
theorem w_either_x2 (p0 : Int32) (p1 : Int64) (p2 : Int64) {u u' v : tm_S} {o : Int64 × UInt64} (hM : kc_T l dC dI gs ad cc yX4_either wsX4_either { frames := 8, cells := 1, slots := 6, locals := 125 } [.ref (ad 0), .int p0, .long p1, .long p2] u u' "java/lang/IllegalStateException") : kl_M l dC dI gs ad cc cr cd yL_either wsL_either { frames := 9, cells := 1, slots := 6, locals := 151 } [.ref (ad 0), .int p0, .long p1, .long p2, .ref (ad 55)] u v o u' v o (nI 2) := by
  refine kl_ofW (cb := cL_either) (maxL := 8) (hh := [(0, 12, 15, 13), (0, 12, 19, 19), (0, 12, 23, 31)]) (by decide) rfl rfl (Nat.le_of_ble_eq_true rfl) ?_
  intro p e s m below meth c A ls hx hb hr hlk hml hown hts hP hK hD hA hG hS hl hTab
  have hl : lv_has ls 8 [(0, .ref (ad 0)), (1, .int p0), (2, .long p1), (4, .long p2), (6, .ref (ad 55))] := hl
  refine lv_aload hx hb dL_either_0 (lv_at hl 4 rfl) ?_
  refine lv_iconst (v := (nI 0)) hx hb dL_either_2 (by decide) ?_
  refine lv_aload_n hx hb dL_either_3 rfl (lv_at hl 0 rfl) ?_
  refine lv_iload_n hx hb dL_either_4 rfl (lv_at hl 1 rfl) ?_
  refine lv_lload_n hx hb dL_either_5 rfl (lv_at hl 2 rfl) ?_
  refine lv_lload hx hb dL_either_6 (lv_at hl 3 rfl) ?_
  refine kl_xV ⟨hx, hb, hml, hown, hts⟩ hM (cwV 3 hts gL_60_X4_either rfl rfl rfl (by decide +kernel) ⟨Nat.le_of_ble_eq_true rfl, Nat.le_of_ble_eq_true rfl⟩) hK hP hD hA hG hS rfl hl.1 rfl (Nat.le_of_ble_eq_true rfl) dL_either_8 ⟨Nat.le_of_ble_eq_true rfl, Nat.le_of_ble_eq_true rfl⟩ [⟨0, 12, 15, 13⟩] ⟨0, 12, 19, 19⟩ [⟨0, 12, 23, 31⟩] (by rw [hTab]; rfl) (List.forall_mem_cons.mpr ⟨Or.inr ⟨by decide, "java/lang/IllegalArgumentException", (hts _ mb_217), tm_Gc hG (by decide) (by decide) (by decide)⟩, fun z hz => nomatch hz⟩) (by decide) (by decide) (hts _ mb_298) (va_Nw.use rfl (tm_GX hG (tm_inX 312 (by decide +kernel) rfl))) (fun q H locs hP hD hS => ?_)
  refine lv_astore (lv' := [(7, .ref q), (0, .ref (ad 0)), (1, .int p0), (2, .long p1), (4, .long p2), (6, .ref (ad 55))]) hx hb dL_either_19 hl (by decide) rfl (fun ls hl => ?_)
  refine lv_iconst (v := (nI 2)) hx hb dL_either_21 (by decide) ?_
  exact kq_iret hx hb hr hlk hP hD hS dL_either_22
set_option maxHeartbeats 4000000 in
set_option maxRecDepth 100000 in
theorem w_either_x3 (p0 : Int32) (p1 : Int64) (p2 : Int64) {u u' v : tm_S} {o : Int64 × UInt64} (hM : kc_T l dC dI gs ad cc yX4_either wsX4_either { frames := 8, cells := 1, slots := 6, locals := 125 } [.ref (ad 0), .int p0, .long p1, .long p2] u u' "java/lang/UnsupportedOperationException") : kl_M l dC dI gs ad cc cr cd yL_either wsL_either { frames := 9, cells := 1, slots := 6, locals := 151 } [.ref (ad 0), .int p0, .long p1, .long p2, .ref (ad 55)] u v o u' v o (nI 3) := by
  refine kl_ofW (cb := cL_either) (maxL := 8) (hh := [(0, 12, 15, 13), (0, 12, 19, 19), (0, 12, 23, 31)]) (by decide) rfl rfl (Nat.le_of_ble_eq_true rfl) ?_
  intro p e s m below meth c A ls hx hb hr hlk hml hown hts hP hK hD hA hG hS hl hTab
  have hl : lv_has ls 8 [(0, .ref (ad 0)), (1, .int p0), (2, .long p1), (4, .long p2), (6, .ref (ad 55))] := hl
  refine lv_aload hx hb dL_either_0 (lv_at hl 4 rfl) ?_
  refine lv_iconst (v := (nI 0)) hx hb dL_either_2 (by decide) ?_
  refine lv_aload_n hx hb dL_either_3 rfl (lv_at hl 0 rfl) ?_
  refine lv_iload_n hx hb dL_either_4 rfl (lv_at hl 1 rfl) ?_
  refine lv_lload_n hx hb dL_either_5 rfl (lv_at hl 2 rfl) ?_
  refine lv_lload hx hb dL_either_6 (lv_at hl 3 rfl) ?_
  refine kl_xV ⟨hx, hb, hml, hown, hts⟩ hM (cwV 3 hts gL_60_X4_either rfl rfl rfl (by decide +kernel) ⟨Nat.le_of_ble_eq_true rfl, Nat.le_of_ble_eq_true rfl⟩) hK hP hD hA hG hS rfl hl.1 rfl (Nat.le_of_ble_eq_true rfl) dL_either_8 ⟨Nat.le_of_ble_eq_true rfl, Nat.le_of_ble_eq_true rfl⟩ [⟨0, 12, 15, 13⟩, ⟨0, 12, 19, 19⟩] ⟨0, 12, 23, 31⟩ [] (by rw [hTab]; rfl) (List.forall_mem_cons.mpr ⟨Or.inr ⟨by decide, "java/lang/IllegalArgumentException", (hts _ mb_217), tm_Gc hG (by decide) (by decide) (by decide)⟩, List.forall_mem_cons.mpr ⟨Or.inr ⟨by decide, "java/lang/IllegalStateException", (hts _ mb_298), tm_Gc hG (by decide) (by decide) (by decide)⟩, fun z hz => nomatch hz⟩⟩) (by decide) (by decide) (hts _ mb_346) (va_Nw.use rfl (tm_GX hG (tm_inX 376 (by decide +kernel) rfl))) (fun q H locs hP hD hS => ?_)
  refine lv_astore (lv' := [(7, .ref q), (0, .ref (ad 0)), (1, .int p0), (2, .long p1), (4, .long p2), (6, .ref (ad 55))]) hx hb dL_either_23 hl (by decide) rfl (fun ls hl => ?_)
  refine lv_iconst (v := (nI 3)) hx hb dL_either_25 (by decide) ?_
  exact kq_iret hx hb hr hlk hP hD hS dL_either_26
set_option maxHeartbeats 4000000 in
set_option maxRecDepth 100000 in
theorem w_with_ok (p0 : Int32) (p1 : Int32) (p2 : Int32) {u u' v : tm_S} {o : Int64 × UInt64} {r : Int64} (hM : kc_M l dC dI gs ad cc yX4_with wsX4_with { frames := 8, cells := 0, slots := 0, locals := 125 } [.ref (ad 0), .int p0, .int p1, .int p2] u u' (some (.long r))) : kl_M l dC dI gs ad cc cr cd yL_with wsL_with { frames := 9, cells := 1, slots := 6, locals := 150 } [.ref (ad 0), .int p0, .int p1, .int p2, .ref (ad 55)] u v o u' v (r, o.2) (nI 0) := by
  refine kl_ofW (cb := cL_with) (maxL := 6) (hh := [(0, 11, 14, 13), (0, 11, 18, 19), (0, 11, 22, 29), (0, 11, 26, 31)]) (by decide) rfl rfl (Nat.le_of_ble_eq_true rfl) ?_
  intro p e s m below meth c A ls hx hb hr hlk hml hown hts hP hK hD hA hG hS hl hTab
  have hl : lv_has ls 6 [(0, .ref (ad 0)), (1, .int p0), (2, .int p1), (3, .int p2), (4, .ref (ad 55))] := hl
  refine lv_aload hx hb dL_with_0 (lv_at hl 4 rfl) ?_
  refine lv_iconst (v := (nI 0)) hx hb dL_with_2 (by decide) ?_
  refine lv_aload_n hx hb dL_with_3 rfl (lv_at hl 0 rfl) ?_
  refine lv_iload_n hx hb dL_with_4 rfl (lv_at hl 1 rfl) ?_
  refine lv_iload_n hx hb dL_with_5 rfl (lv_at hl 2 rfl) ?_
  refine lv_iload_n hx hb dL_with_6 rfl (lv_at hl 3 rfl) ?_
  refine kl_cV (st1 := [.long r, .int (nI 0), .ref (ad 55)]) ⟨hx, hb, hml, hown, hts⟩ hM (cwV 3 hts gL_64_X4_with rfl rfl rfl (by decide +kernel) ⟨Nat.le_of_ble_eq_true rfl, Nat.le_of_ble_eq_true rfl⟩) hK hP hD hA hG hS rfl hl.1 rfl rfl (Nat.le_of_ble_eq_true rfl) dL_with_7 ⟨Nat.le_of_ble_eq_true rfl, Nat.le_of_ble_eq_true rfl⟩ (fun H locs hP hD hS => ?_)
  refine tl_t5 hx hb hK hP hD hS dL_with_10 (fun H locs hP hD hS => ?_)
  refine lv_goto (tgt := 30) hx hb dL_with_11 (by decide) ?_
  refine lv_iconst (v := (nI 0)) hx hb dL_with_30 (by decide) ?_
  exact W.widen (k := 1) (n := 6) (Nat.le_of_ble_eq_true rfl) (Nat.le_of_ble_eq_true rfl) (kq_iret hx hb hr hlk hP hD hS dL_with_31)
set_option maxHeartbeats 4000000 in
set_option maxRecDepth 100000 in
theorem w_with_x1 (p0 : Int32) (p1 : Int32) (p2 : Int32) {u u' v : tm_S} {o : Int64 × UInt64} (hM : kc_T l dC dI gs ad cc yX4_with wsX4_with { frames := 8, cells := 1, slots := 6, locals := 125 } [.ref (ad 0), .int p0, .int p1, .int p2] u u' "java/lang/IllegalArgumentException") : kl_M l dC dI gs ad cc cr cd yL_with wsL_with { frames := 9, cells := 1, slots := 6, locals := 150 } [.ref (ad 0), .int p0, .int p1, .int p2, .ref (ad 55)] u v o u' v o (nI 1) := by
  refine kl_ofW (cb := cL_with) (maxL := 6) (hh := [(0, 11, 14, 13), (0, 11, 18, 19), (0, 11, 22, 29), (0, 11, 26, 31)]) (by decide) rfl rfl (Nat.le_of_ble_eq_true rfl) ?_
  intro p e s m below meth c A ls hx hb hr hlk hml hown hts hP hK hD hA hG hS hl hTab
  have hl : lv_has ls 6 [(0, .ref (ad 0)), (1, .int p0), (2, .int p1), (3, .int p2), (4, .ref (ad 55))] := hl
  refine lv_aload hx hb dL_with_0 (lv_at hl 4 rfl) ?_
  refine lv_iconst (v := (nI 0)) hx hb dL_with_2 (by decide) ?_
  refine lv_aload_n hx hb dL_with_3 rfl (lv_at hl 0 rfl) ?_
  refine lv_iload_n hx hb dL_with_4 rfl (lv_at hl 1 rfl) ?_
  refine lv_iload_n hx hb dL_with_5 rfl (lv_at hl 2 rfl) ?_
  refine lv_iload_n hx hb dL_with_6 rfl (lv_at hl 3 rfl) ?_
  refine kl_xV ⟨hx, hb, hml, hown, hts⟩ hM (cwV 3 hts gL_64_X4_with rfl rfl rfl (by decide +kernel) ⟨Nat.le_of_ble_eq_true rfl, Nat.le_of_ble_eq_true rfl⟩) hK hP hD hA hG hS rfl hl.1 rfl (Nat.le_of_ble_eq_true rfl) dL_with_7 ⟨Nat.le_of_ble_eq_true rfl, Nat.le_of_ble_eq_true rfl⟩ [] ⟨0, 11, 14, 13⟩ [⟨0, 11, 18, 19⟩, ⟨0, 11, 22, 29⟩, ⟨0, 11, 26, 31⟩] (by rw [hTab]; rfl) (fun z hz => nomatch hz) (by decide) (by decide) (hts _ mb_217) (va_Nw.use rfl (tm_GX hG (tm_inX 227 (by decide +kernel) rfl))) (fun q H locs hP hD hS => ?_)
  refine lv_astore (lv' := [(5, .ref q), (0, .ref (ad 0)), (1, .int p0), (2, .int p1), (3, .int p2), (4, .ref (ad 55))]) hx hb dL_with_14 hl (by decide) rfl (fun ls hl => ?_)
  refine lv_iconst (v := (nI 1)) hx hb dL_with_16 (by decide) ?_
  exact kq_iret hx hb hr hlk hP hD hS dL_with_17
set_option maxHeartbeats 4000000 in
set_option maxRecDepth 100000 in
theorem w_with_x2 (p0 : Int32) (p1 : Int32) (p2 : Int32) {u u' v : tm_S} {o : Int64 × UInt64} (hM : kc_T l dC dI gs ad cc yX4_with wsX4_with { frames := 8, cells := 1, slots := 6, locals := 125 } [.ref (ad 0), .int p0, .int p1, .int p2] u u' "java/lang/IllegalStateException") : kl_M l dC dI gs ad cc cr cd yL_with wsL_with { frames := 9, cells := 1, slots := 6, locals := 150 } [.ref (ad 0), .int p0, .int p1, .int p2, .ref (ad 55)] u v o u' v o (nI 2) := by
  refine kl_ofW (cb := cL_with) (maxL := 6) (hh := [(0, 11, 14, 13), (0, 11, 18, 19), (0, 11, 22, 29), (0, 11, 26, 31)]) (by decide) rfl rfl (Nat.le_of_ble_eq_true rfl) ?_
  intro p e s m below meth c A ls hx hb hr hlk hml hown hts hP hK hD hA hG hS hl hTab
  have hl : lv_has ls 6 [(0, .ref (ad 0)), (1, .int p0), (2, .int p1), (3, .int p2), (4, .ref (ad 55))] := hl
  refine lv_aload hx hb dL_with_0 (lv_at hl 4 rfl) ?_
  refine lv_iconst (v := (nI 0)) hx hb dL_with_2 (by decide) ?_
  refine lv_aload_n hx hb dL_with_3 rfl (lv_at hl 0 rfl) ?_
  refine lv_iload_n hx hb dL_with_4 rfl (lv_at hl 1 rfl) ?_
  refine lv_iload_n hx hb dL_with_5 rfl (lv_at hl 2 rfl) ?_
  refine lv_iload_n hx hb dL_with_6 rfl (lv_at hl 3 rfl) ?_
  refine kl_xV ⟨hx, hb, hml, hown, hts⟩ hM (cwV 3 hts gL_64_X4_with rfl rfl rfl (by decide +kernel) ⟨Nat.le_of_ble_eq_true rfl, Nat.le_of_ble_eq_true rfl⟩) hK hP hD hA hG hS rfl hl.1 rfl (Nat.le_of_ble_eq_true rfl) dL_with_7 ⟨Nat.le_of_ble_eq_true rfl, Nat.le_of_ble_eq_true rfl⟩ [⟨0, 11, 14, 13⟩] ⟨0, 11, 18, 19⟩ [⟨0, 11, 22, 29⟩, ⟨0, 11, 26, 31⟩] (by rw [hTab]; rfl) (List.forall_mem_cons.mpr ⟨Or.inr ⟨by decide, "java/lang/IllegalArgumentException", (hts _ mb_217), tm_Gc hG (by decide) (by decide) (by decide)⟩, fun z hz => nomatch hz⟩) (by decide) (by decide) (hts _ mb_298) (va_Nw.use rfl (tm_GX hG (tm_inX 312 (by decide +kernel) rfl))) (fun q H locs hP hD hS => ?_)
  refine lv_astore (lv' := [(5, .ref q), (0, .ref (ad 0)), (1, .int p0), (2, .int p1), (3, .int p2), (4, .ref (ad 55))]) hx hb dL_with_18 hl (by decide) rfl (fun ls hl => ?_)
  refine lv_iconst (v := (nI 2)) hx hb dL_with_20 (by decide) ?_
  exact kq_iret hx hb hr hlk hP hD hS dL_with_21
set_option maxHeartbeats 4000000 in
set_option maxRecDepth 100000 in
theorem w_with_x3 (p0 : Int32) (p1 : Int32) (p2 : Int32) {u u' v : tm_S} {o : Int64 × UInt64} (hM : kc_T l dC dI gs ad cc yX4_with wsX4_with { frames := 8, cells := 1, slots := 6, locals := 125 } [.ref (ad 0), .int p0, .int p1, .int p2] u u' "java/util/NoSuchElementException") : kl_M l dC dI gs ad cc cr cd yL_with wsL_with { frames := 9, cells := 1, slots := 6, locals := 150 } [.ref (ad 0), .int p0, .int p1, .int p2, .ref (ad 55)] u v o u' v o (nI 3) := by
  refine kl_ofW (cb := cL_with) (maxL := 6) (hh := [(0, 11, 14, 13), (0, 11, 18, 19), (0, 11, 22, 29), (0, 11, 26, 31)]) (by decide) rfl rfl (Nat.le_of_ble_eq_true rfl) ?_
  intro p e s m below meth c A ls hx hb hr hlk hml hown hts hP hK hD hA hG hS hl hTab
  have hl : lv_has ls 6 [(0, .ref (ad 0)), (1, .int p0), (2, .int p1), (3, .int p2), (4, .ref (ad 55))] := hl
  refine lv_aload hx hb dL_with_0 (lv_at hl 4 rfl) ?_
  refine lv_iconst (v := (nI 0)) hx hb dL_with_2 (by decide) ?_
  refine lv_aload_n hx hb dL_with_3 rfl (lv_at hl 0 rfl) ?_
  refine lv_iload_n hx hb dL_with_4 rfl (lv_at hl 1 rfl) ?_
  refine lv_iload_n hx hb dL_with_5 rfl (lv_at hl 2 rfl) ?_
  refine lv_iload_n hx hb dL_with_6 rfl (lv_at hl 3 rfl) ?_
  refine kl_xV ⟨hx, hb, hml, hown, hts⟩ hM (cwV 3 hts gL_64_X4_with rfl rfl rfl (by decide +kernel) ⟨Nat.le_of_ble_eq_true rfl, Nat.le_of_ble_eq_true rfl⟩) hK hP hD hA hG hS rfl hl.1 rfl (Nat.le_of_ble_eq_true rfl) dL_with_7 ⟨Nat.le_of_ble_eq_true rfl, Nat.le_of_ble_eq_true rfl⟩ [⟨0, 11, 14, 13⟩, ⟨0, 11, 18, 19⟩] ⟨0, 11, 22, 29⟩ [⟨0, 11, 26, 31⟩] (by rw [hTab]; rfl) (List.forall_mem_cons.mpr ⟨Or.inr ⟨by decide, "java/lang/IllegalArgumentException", (hts _ mb_217), tm_Gc hG (by decide) (by decide) (by decide)⟩, List.forall_mem_cons.mpr ⟨Or.inr ⟨by decide, "java/lang/IllegalStateException", (hts _ mb_298), tm_Gc hG (by decide) (by decide) (by decide)⟩, fun z hz => nomatch hz⟩⟩) (by decide) (by decide) (hts _ mb_345) (va_Nw.use rfl (tm_GX hG (tm_inX 357 (by decide +kernel) rfl))) (fun q H locs hP hD hS => ?_)
  refine lv_astore (lv' := [(5, .ref q), (0, .ref (ad 0)), (1, .int p0), (2, .int p1), (3, .int p2), (4, .ref (ad 55))]) hx hb dL_with_22 hl (by decide) rfl (fun ls hl => ?_)
  refine lv_iconst (v := (nI 3)) hx hb dL_with_24 (by decide) ?_
  exact kq_iret hx hb hr hlk hP hD hS dL_with_25
set_option maxHeartbeats 4000000 in
set_option maxRecDepth 100000 in
theorem w_with_x4 (p0 : Int32) (p1 : Int32) (p2 : Int32) {u u' v : tm_S} {o : Int64 × UInt64} (hM : kc_T l dC dI gs ad cc yX4_with wsX4_with { frames := 8, cells := 1, slots := 6, locals := 125 } [.ref (ad 0), .int p0, .int p1, .int p2] u u' "java/lang/UnsupportedOperationException") : kl_M l dC dI gs ad cc cr cd yL_with wsL_with { frames := 9, cells := 1, slots := 6, locals := 150 } [.ref (ad 0), .int p0, .int p1, .int p2, .ref (ad 55)] u v o u' v o (nI 4) := by
  refine kl_ofW (cb := cL_with) (maxL := 6) (hh := [(0, 11, 14, 13), (0, 11, 18, 19), (0, 11, 22, 29), (0, 11, 26, 31)]) (by decide) rfl rfl (Nat.le_of_ble_eq_true rfl) ?_
  intro p e s m below meth c A ls hx hb hr hlk hml hown hts hP hK hD hA hG hS hl hTab
  have hl : lv_has ls 6 [(0, .ref (ad 0)), (1, .int p0), (2, .int p1), (3, .int p2), (4, .ref (ad 55))] := hl
  refine lv_aload hx hb dL_with_0 (lv_at hl 4 rfl) ?_
  refine lv_iconst (v := (nI 0)) hx hb dL_with_2 (by decide) ?_
  refine lv_aload_n hx hb dL_with_3 rfl (lv_at hl 0 rfl) ?_
  refine lv_iload_n hx hb dL_with_4 rfl (lv_at hl 1 rfl) ?_
  refine lv_iload_n hx hb dL_with_5 rfl (lv_at hl 2 rfl) ?_
  refine lv_iload_n hx hb dL_with_6 rfl (lv_at hl 3 rfl) ?_
  refine kl_xV ⟨hx, hb, hml, hown, hts⟩ hM (cwV 3 hts gL_64_X4_with rfl rfl rfl (by decide +kernel) ⟨Nat.le_of_ble_eq_true rfl, Nat.le_of_ble_eq_true rfl⟩) hK hP hD hA hG hS rfl hl.1 rfl (Nat.le_of_ble_eq_true rfl) dL_with_7 ⟨Nat.le_of_ble_eq_true rfl, Nat.le_of_ble_eq_true rfl⟩ [⟨0, 11, 14, 13⟩, ⟨0, 11, 18, 19⟩, ⟨0, 11, 22, 29⟩] ⟨0, 11, 26, 31⟩ [] (by rw [hTab]; rfl) (List.forall_mem_cons.mpr ⟨Or.inr ⟨by decide, "java/lang/IllegalArgumentException", (hts _ mb_217), tm_Gc hG (by decide) (by decide) (by decide)⟩, List.forall_mem_cons.mpr ⟨Or.inr ⟨by decide, "java/lang/IllegalStateException", (hts _ mb_298), tm_Gc hG (by decide) (by decide) (by decide)⟩, List.forall_mem_cons.mpr ⟨Or.inr ⟨by decide, "java/util/NoSuchElementException", (hts _ mb_345), tm_Gc hG (by decide) (by decide) (by decide)⟩, fun z hz => nomatch hz⟩⟩⟩) (by decide) (by decide) (hts _ mb_346) (va_Nw.use rfl (tm_GX hG (tm_inX 376 (by decide +kernel) rfl))) (fun q H locs hP hD hS => ?_)
  refine lv_astore (lv' := [(5, .ref q), (0, .ref (ad 0)), (1, .int p0), (2, .int p1), (3, .int p2), (4, .ref (ad 55))]) hx hb dL_with_26 hl (by decide) rfl (fun ls hl => ?_)
  refine lv_iconst (v := (nI 4)) hx hb dL_with_28 (by decide) ?_
  exact kq_iret hx hb hr hlk hP hD hS dL_with_29
set_option maxHeartbeats 4000000 in
set_option maxRecDepth 100000 in
theorem w_define_ok (p0 : Int32) (p1 : Int32) (p2 : Int64) {u u' v : tm_S} {o : Int64 × UInt64} (hM : kc_M l dC dI gs ad cc yX4_define wsX4_define { frames := 8, cells := 0, slots := 0, locals := 125 } [.ref (ad 0), .int p0, .int p1, .long p2] u u' none) : kl_M l dC dI gs ad cc cr cd yL_define wsL_define { frames := 9, cells := 1, slots := 6, locals := 149 } [.ref (ad 0), .int p0, .int p1, .long p2] u v o u' v o (nI 0) := by
  refine kl_ofW (cb := cL_define) (maxL := 6) (hh := [(0, 7, 10, 13), (0, 7, 14, 19)]) (by decide) rfl rfl (Nat.le_of_ble_eq_true rfl) ?_
  intro p e s m below meth c A ls hx hb hr hlk hml hown hts hP hK hD hA hG hS hl hTab
  have hl : lv_has ls 6 [(0, .ref (ad 0)), (1, .int p0), (2, .int p1), (3, .long p2)] := hl
  refine lv_aload_n hx hb dL_define_0 rfl (lv_at hl 0 rfl) ?_
  refine lv_iload_n hx hb dL_define_1 rfl (lv_at hl 1 rfl) ?_
  refine lv_iload_n hx hb dL_define_2 rfl (lv_at hl 2 rfl) ?_
  refine lv_lload_n hx hb dL_define_3 rfl (lv_at hl 3 rfl) ?_
  refine kl_cV (st1 := []) ⟨hx, hb, hml, hown, hts⟩ hM (cwV 3 hts gL_67_X4_define rfl rfl rfl (by decide +kernel) ⟨Nat.le_of_ble_eq_true rfl, Nat.le_of_ble_eq_true rfl⟩) hK hP hD hA hG hS rfl hl.1 rfl rfl (Nat.le_of_ble_eq_true rfl) dL_define_4 ⟨Nat.le_of_ble_eq_true rfl, Nat.le_of_ble_eq_true rfl⟩ (fun H locs hP hD hS => ?_)
  refine lv_goto (tgt := 18) hx hb dL_define_7 (by decide) ?_
  refine lv_iconst (v := (nI 0)) hx hb dL_define_18 (by decide) ?_
  exact W.widen (k := 1) (n := 6) (Nat.le_of_ble_eq_true rfl) (Nat.le_of_ble_eq_true rfl) (kq_iret hx hb hr hlk hP hD hS dL_define_19)
set_option maxHeartbeats 4000000 in
set_option maxRecDepth 100000 in
theorem w_define_x1 (p0 : Int32) (p1 : Int32) (p2 : Int64) {u u' v : tm_S} {o : Int64 × UInt64} (hM : kc_T l dC dI gs ad cc yX4_define wsX4_define { frames := 8, cells := 1, slots := 6, locals := 125 } [.ref (ad 0), .int p0, .int p1, .long p2] u u' "java/lang/IllegalArgumentException") : kl_M l dC dI gs ad cc cr cd yL_define wsL_define { frames := 9, cells := 1, slots := 6, locals := 149 } [.ref (ad 0), .int p0, .int p1, .long p2] u v o u' v o (nI 1) := by
  refine kl_ofW (cb := cL_define) (maxL := 6) (hh := [(0, 7, 10, 13), (0, 7, 14, 19)]) (by decide) rfl rfl (Nat.le_of_ble_eq_true rfl) ?_
  intro p e s m below meth c A ls hx hb hr hlk hml hown hts hP hK hD hA hG hS hl hTab
  have hl : lv_has ls 6 [(0, .ref (ad 0)), (1, .int p0), (2, .int p1), (3, .long p2)] := hl
  refine lv_aload_n hx hb dL_define_0 rfl (lv_at hl 0 rfl) ?_
  refine lv_iload_n hx hb dL_define_1 rfl (lv_at hl 1 rfl) ?_
  refine lv_iload_n hx hb dL_define_2 rfl (lv_at hl 2 rfl) ?_
  refine lv_lload_n hx hb dL_define_3 rfl (lv_at hl 3 rfl) ?_
  refine kl_xV ⟨hx, hb, hml, hown, hts⟩ hM (cwV 3 hts gL_67_X4_define rfl rfl rfl (by decide +kernel) ⟨Nat.le_of_ble_eq_true rfl, Nat.le_of_ble_eq_true rfl⟩) hK hP hD hA hG hS rfl hl.1 rfl (Nat.le_of_ble_eq_true rfl) dL_define_4 ⟨Nat.le_of_ble_eq_true rfl, Nat.le_of_ble_eq_true rfl⟩ [] ⟨0, 7, 10, 13⟩ [⟨0, 7, 14, 19⟩] (by rw [hTab]; rfl) (fun z hz => nomatch hz) (by decide) (by decide) (hts _ mb_217) (va_Nw.use rfl (tm_GX hG (tm_inX 227 (by decide +kernel) rfl))) (fun q H locs hP hD hS => ?_)
  refine lv_astore (lv' := [(5, .ref q), (0, .ref (ad 0)), (1, .int p0), (2, .int p1), (3, .long p2)]) hx hb dL_define_10 hl (by decide) rfl (fun ls hl => ?_)
  refine lv_iconst (v := (nI 1)) hx hb dL_define_12 (by decide) ?_
  exact kq_iret hx hb hr hlk hP hD hS dL_define_13
set_option maxHeartbeats 4000000 in
set_option maxRecDepth 100000 in
theorem w_define_x2 (p0 : Int32) (p1 : Int32) (p2 : Int64) {u u' v : tm_S} {o : Int64 × UInt64} (hM : kc_T l dC dI gs ad cc yX4_define wsX4_define { frames := 8, cells := 1, slots := 6, locals := 125 } [.ref (ad 0), .int p0, .int p1, .long p2] u u' "java/lang/IllegalStateException") : kl_M l dC dI gs ad cc cr cd yL_define wsL_define { frames := 9, cells := 1, slots := 6, locals := 149 } [.ref (ad 0), .int p0, .int p1, .long p2] u v o u' v o (nI 2) := by
  refine kl_ofW (cb := cL_define) (maxL := 6) (hh := [(0, 7, 10, 13), (0, 7, 14, 19)]) (by decide) rfl rfl (Nat.le_of_ble_eq_true rfl) ?_
  intro p e s m below meth c A ls hx hb hr hlk hml hown hts hP hK hD hA hG hS hl hTab
  have hl : lv_has ls 6 [(0, .ref (ad 0)), (1, .int p0), (2, .int p1), (3, .long p2)] := hl
  refine lv_aload_n hx hb dL_define_0 rfl (lv_at hl 0 rfl) ?_
  refine lv_iload_n hx hb dL_define_1 rfl (lv_at hl 1 rfl) ?_
  refine lv_iload_n hx hb dL_define_2 rfl (lv_at hl 2 rfl) ?_
  refine lv_lload_n hx hb dL_define_3 rfl (lv_at hl 3 rfl) ?_
  refine kl_xV ⟨hx, hb, hml, hown, hts⟩ hM (cwV 3 hts gL_67_X4_define rfl rfl rfl (by decide +kernel) ⟨Nat.le_of_ble_eq_true rfl, Nat.le_of_ble_eq_true rfl⟩) hK hP hD hA hG hS rfl hl.1 rfl (Nat.le_of_ble_eq_true rfl) dL_define_4 ⟨Nat.le_of_ble_eq_true rfl, Nat.le_of_ble_eq_true rfl⟩ [⟨0, 7, 10, 13⟩] ⟨0, 7, 14, 19⟩ [] (by rw [hTab]; rfl) (List.forall_mem_cons.mpr ⟨Or.inr ⟨by decide, "java/lang/IllegalArgumentException", (hts _ mb_217), tm_Gc hG (by decide) (by decide) (by decide)⟩, fun z hz => nomatch hz⟩) (by decide) (by decide) (hts _ mb_298) (va_Nw.use rfl (tm_GX hG (tm_inX 312 (by decide +kernel) rfl))) (fun q H locs hP hD hS => ?_)
  refine lv_astore (lv' := [(5, .ref q), (0, .ref (ad 0)), (1, .int p0), (2, .int p1), (3, .long p2)]) hx hb dL_define_14 hl (by decide) rfl (fun ls hl => ?_)
  refine lv_iconst (v := (nI 2)) hx hb dL_define_16 (by decide) ?_
  exact kq_iret hx hb hr hlk hP hD hS dL_define_17
set_option maxHeartbeats 4000000 in
set_option maxRecDepth 100000 in
theorem w_remove_ok (p0 : Int32) {u u' v : tm_S} {o : Int64 × UInt64} (hM : kc_M l dC dI gs ad cc yX4_remove wsX4_remove { frames := 8, cells := 0, slots := 0, locals := 125 } [.ref (ad 0), .int p0] u u' none) : kl_M l dC dI gs ad cc cr cd yL_remove wsL_remove { frames := 9, cells := 1, slots := 6, locals := 147 } [.ref (ad 0), .int p0] u v o u' v o (nI 0) := by
  refine kl_ofW (cb := cL_remove) (maxL := 3) (hh := [(0, 5, 8, 13), (0, 5, 11, 19), (0, 5, 14, 29)]) (by decide) rfl rfl (Nat.le_of_ble_eq_true rfl) ?_
  intro p e s m below meth c A ls hx hb hr hlk hml hown hts hP hK hD hA hG hS hl hTab
  have hl : lv_has ls 3 [(0, .ref (ad 0)), (1, .int p0)] := hl
  refine lv_aload_n hx hb dL_remove_0 rfl (lv_at hl 0 rfl) ?_
  refine lv_iload_n hx hb dL_remove_1 rfl (lv_at hl 1 rfl) ?_
  refine kl_cV (st1 := []) ⟨hx, hb, hml, hown, hts⟩ hM (cwV 1 hts gL_71_X4_remove rfl rfl rfl (by decide +kernel) ⟨Nat.le_of_ble_eq_true rfl, Nat.le_of_ble_eq_true rfl⟩) hK hP hD hA hG hS rfl hl.1 rfl rfl (Nat.le_of_ble_eq_true rfl) dL_remove_2 ⟨Nat.le_of_ble_eq_true rfl, Nat.le_of_ble_eq_true rfl⟩ (fun H locs hP hD hS => ?_)
  refine lv_goto (tgt := 17) hx hb dL_remove_5 (by decide) ?_
  refine lv_iconst (v := (nI 0)) hx hb dL_remove_17 (by decide) ?_
  exact W.widen (k := 1) (n := 6) (Nat.le_of_ble_eq_true rfl) (Nat.le_of_ble_eq_true rfl) (kq_iret hx hb hr hlk hP hD hS dL_remove_18)
set_option maxHeartbeats 4000000 in
set_option maxRecDepth 100000 in
theorem w_remove_x1 (p0 : Int32) {u u' v : tm_S} {o : Int64 × UInt64} (hM : kc_T l dC dI gs ad cc yX4_remove wsX4_remove { frames := 8, cells := 1, slots := 6, locals := 125 } [.ref (ad 0), .int p0] u u' "java/lang/IllegalArgumentException") : kl_M l dC dI gs ad cc cr cd yL_remove wsL_remove { frames := 9, cells := 1, slots := 6, locals := 147 } [.ref (ad 0), .int p0] u v o u' v o (nI 1) := by
  refine kl_ofW (cb := cL_remove) (maxL := 3) (hh := [(0, 5, 8, 13), (0, 5, 11, 19), (0, 5, 14, 29)]) (by decide) rfl rfl (Nat.le_of_ble_eq_true rfl) ?_
  intro p e s m below meth c A ls hx hb hr hlk hml hown hts hP hK hD hA hG hS hl hTab
  have hl : lv_has ls 3 [(0, .ref (ad 0)), (1, .int p0)] := hl
  refine lv_aload_n hx hb dL_remove_0 rfl (lv_at hl 0 rfl) ?_
  refine lv_iload_n hx hb dL_remove_1 rfl (lv_at hl 1 rfl) ?_
  refine kl_xV ⟨hx, hb, hml, hown, hts⟩ hM (cwV 1 hts gL_71_X4_remove rfl rfl rfl (by decide +kernel) ⟨Nat.le_of_ble_eq_true rfl, Nat.le_of_ble_eq_true rfl⟩) hK hP hD hA hG hS rfl hl.1 rfl (Nat.le_of_ble_eq_true rfl) dL_remove_2 ⟨Nat.le_of_ble_eq_true rfl, Nat.le_of_ble_eq_true rfl⟩ [] ⟨0, 5, 8, 13⟩ [⟨0, 5, 11, 19⟩, ⟨0, 5, 14, 29⟩] (by rw [hTab]; rfl) (fun z hz => nomatch hz) (by decide) (by decide) (hts _ mb_217) (va_Nw.use rfl (tm_GX hG (tm_inX 227 (by decide +kernel) rfl))) (fun q H locs hP hD hS => ?_)
  refine lv_astore_n (lv' := [(2, .ref q), (0, .ref (ad 0)), (1, .int p0)]) hx hb dL_remove_8 rfl hl (by decide) rfl (fun ls hl => ?_)
  refine lv_iconst (v := (nI 1)) hx hb dL_remove_9 (by decide) ?_
  exact kq_iret hx hb hr hlk hP hD hS dL_remove_10
set_option maxHeartbeats 4000000 in
set_option maxRecDepth 100000 in
theorem w_remove_x2 (p0 : Int32) {u u' v : tm_S} {o : Int64 × UInt64} (hM : kc_T l dC dI gs ad cc yX4_remove wsX4_remove { frames := 8, cells := 1, slots := 6, locals := 125 } [.ref (ad 0), .int p0] u u' "java/lang/IllegalStateException") : kl_M l dC dI gs ad cc cr cd yL_remove wsL_remove { frames := 9, cells := 1, slots := 6, locals := 147 } [.ref (ad 0), .int p0] u v o u' v o (nI 2) := by
  refine kl_ofW (cb := cL_remove) (maxL := 3) (hh := [(0, 5, 8, 13), (0, 5, 11, 19), (0, 5, 14, 29)]) (by decide) rfl rfl (Nat.le_of_ble_eq_true rfl) ?_
  intro p e s m below meth c A ls hx hb hr hlk hml hown hts hP hK hD hA hG hS hl hTab
  have hl : lv_has ls 3 [(0, .ref (ad 0)), (1, .int p0)] := hl
  refine lv_aload_n hx hb dL_remove_0 rfl (lv_at hl 0 rfl) ?_
  refine lv_iload_n hx hb dL_remove_1 rfl (lv_at hl 1 rfl) ?_
  refine kl_xV ⟨hx, hb, hml, hown, hts⟩ hM (cwV 1 hts gL_71_X4_remove rfl rfl rfl (by decide +kernel) ⟨Nat.le_of_ble_eq_true rfl, Nat.le_of_ble_eq_true rfl⟩) hK hP hD hA hG hS rfl hl.1 rfl (Nat.le_of_ble_eq_true rfl) dL_remove_2 ⟨Nat.le_of_ble_eq_true rfl, Nat.le_of_ble_eq_true rfl⟩ [⟨0, 5, 8, 13⟩] ⟨0, 5, 11, 19⟩ [⟨0, 5, 14, 29⟩] (by rw [hTab]; rfl) (List.forall_mem_cons.mpr ⟨Or.inr ⟨by decide, "java/lang/IllegalArgumentException", (hts _ mb_217), tm_Gc hG (by decide) (by decide) (by decide)⟩, fun z hz => nomatch hz⟩) (by decide) (by decide) (hts _ mb_298) (va_Nw.use rfl (tm_GX hG (tm_inX 312 (by decide +kernel) rfl))) (fun q H locs hP hD hS => ?_)
  refine lv_astore_n (lv' := [(2, .ref q), (0, .ref (ad 0)), (1, .int p0)]) hx hb dL_remove_11 rfl hl (by decide) rfl (fun ls hl => ?_)
  refine lv_iconst (v := (nI 2)) hx hb dL_remove_12 (by decide) ?_
  exact kq_iret hx hb hr hlk hP hD hS dL_remove_13
set_option maxHeartbeats 4000000 in
set_option maxRecDepth 100000 in
theorem w_remove_x3 (p0 : Int32) {u u' v : tm_S} {o : Int64 × UInt64} (hM : kc_T l dC dI gs ad cc yX4_remove wsX4_remove { frames := 8, cells := 1, slots := 6, locals := 125 } [.ref (ad 0), .int p0] u u' "java/util/NoSuchElementException") : kl_M l dC dI gs ad cc cr cd yL_remove wsL_remove { frames := 9, cells := 1, slots := 6, locals := 147 } [.ref (ad 0), .int p0] u v o u' v o (nI 3) := by
  refine kl_ofW (cb := cL_remove) (maxL := 3) (hh := [(0, 5, 8, 13), (0, 5, 11, 19), (0, 5, 14, 29)]) (by decide) rfl rfl (Nat.le_of_ble_eq_true rfl) ?_
  intro p e s m below meth c A ls hx hb hr hlk hml hown hts hP hK hD hA hG hS hl hTab
  have hl : lv_has ls 3 [(0, .ref (ad 0)), (1, .int p0)] := hl
  refine lv_aload_n hx hb dL_remove_0 rfl (lv_at hl 0 rfl) ?_
  refine lv_iload_n hx hb dL_remove_1 rfl (lv_at hl 1 rfl) ?_
  refine kl_xV ⟨hx, hb, hml, hown, hts⟩ hM (cwV 1 hts gL_71_X4_remove rfl rfl rfl (by decide +kernel) ⟨Nat.le_of_ble_eq_true rfl, Nat.le_of_ble_eq_true rfl⟩) hK hP hD hA hG hS rfl hl.1 rfl (Nat.le_of_ble_eq_true rfl) dL_remove_2 ⟨Nat.le_of_ble_eq_true rfl, Nat.le_of_ble_eq_true rfl⟩ [⟨0, 5, 8, 13⟩, ⟨0, 5, 11, 19⟩] ⟨0, 5, 14, 29⟩ [] (by rw [hTab]; rfl) (List.forall_mem_cons.mpr ⟨Or.inr ⟨by decide, "java/lang/IllegalArgumentException", (hts _ mb_217), tm_Gc hG (by decide) (by decide) (by decide)⟩, List.forall_mem_cons.mpr ⟨Or.inr ⟨by decide, "java/lang/IllegalStateException", (hts _ mb_298), tm_Gc hG (by decide) (by decide) (by decide)⟩, fun z hz => nomatch hz⟩⟩) (by decide) (by decide) (hts _ mb_345) (va_Nw.use rfl (tm_GX hG (tm_inX 357 (by decide +kernel) rfl))) (fun q H locs hP hD hS => ?_)
  refine lv_astore_n (lv' := [(2, .ref q), (0, .ref (ad 0)), (1, .int p0)]) hx hb dL_remove_14 rfl hl (by decide) rfl (fun ls hl => ?_)
  refine lv_iconst (v := (nI 3)) hx hb dL_remove_15 (by decide) ?_
  exact kq_iret hx hb hr hlk hP hD hS dL_remove_16
set_option maxHeartbeats 4000000 in
set_option maxRecDepth 100000 in
theorem w_write_ok (p0 : Int32) (p1 : Int32) (p2 : Int64) {u u' v : tm_S} {o : Int64 × UInt64} {r : Int64} (hM : kc_M l dC dI gs ad cc yX4_write wsX4_write { frames := 8, cells := 0, slots := 0, locals := 125 } [.ref (ad 0), .int p0, .int p1, .long p2] u u' (some (.long r))) : kl_M l dC dI gs ad cc cr cd yL_write wsL_write { frames := 9, cells := 1, slots := 6, locals := 150 } [.ref (ad 0), .int p0, .int p1, .long p2, .ref (ad 55)] u v o u' v (r, o.2) (nI 0) := by
  refine kl_ofW (cb := cL_write) (maxL := 7) (hh := [(0, 11, 14, 13), (0, 11, 18, 19), (0, 11, 22, 29), (0, 11, 26, 31)]) (by decide) rfl rfl (Nat.le_of_ble_eq_true rfl) ?_
  intro p e s m below meth c A ls hx hb hr hlk hml hown hts hP hK hD hA hG hS hl hTab
  have hl : lv_has ls 7 [(0, .ref (ad 0)), (1, .int p0), (2, .int p1), (3, .long p2), (5, .ref (ad 55))] := hl
  refine lv_aload hx hb dL_write_0 (lv_at hl 4 rfl) ?_
  refine lv_iconst (v := (nI 0)) hx hb dL_write_2 (by decide) ?_
  refine lv_aload_n hx hb dL_write_3 rfl (lv_at hl 0 rfl) ?_
  refine lv_iload_n hx hb dL_write_4 rfl (lv_at hl 1 rfl) ?_
  refine lv_iload_n hx hb dL_write_5 rfl (lv_at hl 2 rfl) ?_
  refine lv_lload_n hx hb dL_write_6 rfl (lv_at hl 3 rfl) ?_
  refine kl_cV (st1 := [.long r, .int (nI 0), .ref (ad 55)]) ⟨hx, hb, hml, hown, hts⟩ hM (cwV 3 hts gL_74_X4_write rfl rfl rfl (by decide +kernel) ⟨Nat.le_of_ble_eq_true rfl, Nat.le_of_ble_eq_true rfl⟩) hK hP hD hA hG hS rfl hl.1 rfl rfl (Nat.le_of_ble_eq_true rfl) dL_write_7 ⟨Nat.le_of_ble_eq_true rfl, Nat.le_of_ble_eq_true rfl⟩ (fun H locs hP hD hS => ?_)
  refine tl_t5 hx hb hK hP hD hS dL_write_10 (fun H locs hP hD hS => ?_)
  refine lv_goto (tgt := 30) hx hb dL_write_11 (by decide) ?_
  refine lv_iconst (v := (nI 0)) hx hb dL_write_30 (by decide) ?_
  exact W.widen (k := 1) (n := 6) (Nat.le_of_ble_eq_true rfl) (Nat.le_of_ble_eq_true rfl) (kq_iret hx hb hr hlk hP hD hS dL_write_31)
set_option maxHeartbeats 4000000 in
set_option maxRecDepth 100000 in
theorem w_write_x1 (p0 : Int32) (p1 : Int32) (p2 : Int64) {u u' v : tm_S} {o : Int64 × UInt64} (hM : kc_T l dC dI gs ad cc yX4_write wsX4_write { frames := 8, cells := 1, slots := 6, locals := 125 } [.ref (ad 0), .int p0, .int p1, .long p2] u u' "java/lang/IllegalArgumentException") : kl_M l dC dI gs ad cc cr cd yL_write wsL_write { frames := 9, cells := 1, slots := 6, locals := 150 } [.ref (ad 0), .int p0, .int p1, .long p2, .ref (ad 55)] u v o u' v o (nI 1) := by
  refine kl_ofW (cb := cL_write) (maxL := 7) (hh := [(0, 11, 14, 13), (0, 11, 18, 19), (0, 11, 22, 29), (0, 11, 26, 31)]) (by decide) rfl rfl (Nat.le_of_ble_eq_true rfl) ?_
  intro p e s m below meth c A ls hx hb hr hlk hml hown hts hP hK hD hA hG hS hl hTab
  have hl : lv_has ls 7 [(0, .ref (ad 0)), (1, .int p0), (2, .int p1), (3, .long p2), (5, .ref (ad 55))] := hl
  refine lv_aload hx hb dL_write_0 (lv_at hl 4 rfl) ?_
  refine lv_iconst (v := (nI 0)) hx hb dL_write_2 (by decide) ?_
  refine lv_aload_n hx hb dL_write_3 rfl (lv_at hl 0 rfl) ?_
  refine lv_iload_n hx hb dL_write_4 rfl (lv_at hl 1 rfl) ?_
  refine lv_iload_n hx hb dL_write_5 rfl (lv_at hl 2 rfl) ?_
  refine lv_lload_n hx hb dL_write_6 rfl (lv_at hl 3 rfl) ?_
  refine kl_xV ⟨hx, hb, hml, hown, hts⟩ hM (cwV 3 hts gL_74_X4_write rfl rfl rfl (by decide +kernel) ⟨Nat.le_of_ble_eq_true rfl, Nat.le_of_ble_eq_true rfl⟩) hK hP hD hA hG hS rfl hl.1 rfl (Nat.le_of_ble_eq_true rfl) dL_write_7 ⟨Nat.le_of_ble_eq_true rfl, Nat.le_of_ble_eq_true rfl⟩ [] ⟨0, 11, 14, 13⟩ [⟨0, 11, 18, 19⟩, ⟨0, 11, 22, 29⟩, ⟨0, 11, 26, 31⟩] (by rw [hTab]; rfl) (fun z hz => nomatch hz) (by decide) (by decide) (hts _ mb_217) (va_Nw.use rfl (tm_GX hG (tm_inX 227 (by decide +kernel) rfl))) (fun q H locs hP hD hS => ?_)
  refine lv_astore (lv' := [(6, .ref q), (0, .ref (ad 0)), (1, .int p0), (2, .int p1), (3, .long p2), (5, .ref (ad 55))]) hx hb dL_write_14 hl (by decide) rfl (fun ls hl => ?_)
  refine lv_iconst (v := (nI 1)) hx hb dL_write_16 (by decide) ?_
  exact kq_iret hx hb hr hlk hP hD hS dL_write_17
set_option maxHeartbeats 4000000 in
set_option maxRecDepth 100000 in
theorem w_write_x2 (p0 : Int32) (p1 : Int32) (p2 : Int64) {u u' v : tm_S} {o : Int64 × UInt64} (hM : kc_T l dC dI gs ad cc yX4_write wsX4_write { frames := 8, cells := 1, slots := 6, locals := 125 } [.ref (ad 0), .int p0, .int p1, .long p2] u u' "java/lang/IllegalStateException") : kl_M l dC dI gs ad cc cr cd yL_write wsL_write { frames := 9, cells := 1, slots := 6, locals := 150 } [.ref (ad 0), .int p0, .int p1, .long p2, .ref (ad 55)] u v o u' v o (nI 2) := by
  refine kl_ofW (cb := cL_write) (maxL := 7) (hh := [(0, 11, 14, 13), (0, 11, 18, 19), (0, 11, 22, 29), (0, 11, 26, 31)]) (by decide) rfl rfl (Nat.le_of_ble_eq_true rfl) ?_
  intro p e s m below meth c A ls hx hb hr hlk hml hown hts hP hK hD hA hG hS hl hTab
  have hl : lv_has ls 7 [(0, .ref (ad 0)), (1, .int p0), (2, .int p1), (3, .long p2), (5, .ref (ad 55))] := hl
  refine lv_aload hx hb dL_write_0 (lv_at hl 4 rfl) ?_
  refine lv_iconst (v := (nI 0)) hx hb dL_write_2 (by decide) ?_
  refine lv_aload_n hx hb dL_write_3 rfl (lv_at hl 0 rfl) ?_
  refine lv_iload_n hx hb dL_write_4 rfl (lv_at hl 1 rfl) ?_
  refine lv_iload_n hx hb dL_write_5 rfl (lv_at hl 2 rfl) ?_
  refine lv_lload_n hx hb dL_write_6 rfl (lv_at hl 3 rfl) ?_
  refine kl_xV ⟨hx, hb, hml, hown, hts⟩ hM (cwV 3 hts gL_74_X4_write rfl rfl rfl (by decide +kernel) ⟨Nat.le_of_ble_eq_true rfl, Nat.le_of_ble_eq_true rfl⟩) hK hP hD hA hG hS rfl hl.1 rfl (Nat.le_of_ble_eq_true rfl) dL_write_7 ⟨Nat.le_of_ble_eq_true rfl, Nat.le_of_ble_eq_true rfl⟩ [⟨0, 11, 14, 13⟩] ⟨0, 11, 18, 19⟩ [⟨0, 11, 22, 29⟩, ⟨0, 11, 26, 31⟩] (by rw [hTab]; rfl) (List.forall_mem_cons.mpr ⟨Or.inr ⟨by decide, "java/lang/IllegalArgumentException", (hts _ mb_217), tm_Gc hG (by decide) (by decide) (by decide)⟩, fun z hz => nomatch hz⟩) (by decide) (by decide) (hts _ mb_298) (va_Nw.use rfl (tm_GX hG (tm_inX 312 (by decide +kernel) rfl))) (fun q H locs hP hD hS => ?_)
  refine lv_astore (lv' := [(6, .ref q), (0, .ref (ad 0)), (1, .int p0), (2, .int p1), (3, .long p2), (5, .ref (ad 55))]) hx hb dL_write_18 hl (by decide) rfl (fun ls hl => ?_)
  refine lv_iconst (v := (nI 2)) hx hb dL_write_20 (by decide) ?_
  exact kq_iret hx hb hr hlk hP hD hS dL_write_21
set_option maxHeartbeats 4000000 in
set_option maxRecDepth 100000 in
theorem w_write_x3 (p0 : Int32) (p1 : Int32) (p2 : Int64) {u u' v : tm_S} {o : Int64 × UInt64} (hM : kc_T l dC dI gs ad cc yX4_write wsX4_write { frames := 8, cells := 1, slots := 6, locals := 125 } [.ref (ad 0), .int p0, .int p1, .long p2] u u' "java/util/NoSuchElementException") : kl_M l dC dI gs ad cc cr cd yL_write wsL_write { frames := 9, cells := 1, slots := 6, locals := 150 } [.ref (ad 0), .int p0, .int p1, .long p2, .ref (ad 55)] u v o u' v o (nI 3) := by
  refine kl_ofW (cb := cL_write) (maxL := 7) (hh := [(0, 11, 14, 13), (0, 11, 18, 19), (0, 11, 22, 29), (0, 11, 26, 31)]) (by decide) rfl rfl (Nat.le_of_ble_eq_true rfl) ?_
  intro p e s m below meth c A ls hx hb hr hlk hml hown hts hP hK hD hA hG hS hl hTab
  have hl : lv_has ls 7 [(0, .ref (ad 0)), (1, .int p0), (2, .int p1), (3, .long p2), (5, .ref (ad 55))] := hl
  refine lv_aload hx hb dL_write_0 (lv_at hl 4 rfl) ?_
  refine lv_iconst (v := (nI 0)) hx hb dL_write_2 (by decide) ?_
  refine lv_aload_n hx hb dL_write_3 rfl (lv_at hl 0 rfl) ?_
  refine lv_iload_n hx hb dL_write_4 rfl (lv_at hl 1 rfl) ?_
  refine lv_iload_n hx hb dL_write_5 rfl (lv_at hl 2 rfl) ?_
  refine lv_lload_n hx hb dL_write_6 rfl (lv_at hl 3 rfl) ?_
  refine kl_xV ⟨hx, hb, hml, hown, hts⟩ hM (cwV 3 hts gL_74_X4_write rfl rfl rfl (by decide +kernel) ⟨Nat.le_of_ble_eq_true rfl, Nat.le_of_ble_eq_true rfl⟩) hK hP hD hA hG hS rfl hl.1 rfl (Nat.le_of_ble_eq_true rfl) dL_write_7 ⟨Nat.le_of_ble_eq_true rfl, Nat.le_of_ble_eq_true rfl⟩ [⟨0, 11, 14, 13⟩, ⟨0, 11, 18, 19⟩] ⟨0, 11, 22, 29⟩ [⟨0, 11, 26, 31⟩] (by rw [hTab]; rfl) (List.forall_mem_cons.mpr ⟨Or.inr ⟨by decide, "java/lang/IllegalArgumentException", (hts _ mb_217), tm_Gc hG (by decide) (by decide) (by decide)⟩, List.forall_mem_cons.mpr ⟨Or.inr ⟨by decide, "java/lang/IllegalStateException", (hts _ mb_298), tm_Gc hG (by decide) (by decide) (by decide)⟩, fun z hz => nomatch hz⟩⟩) (by decide) (by decide) (hts _ mb_345) (va_Nw.use rfl (tm_GX hG (tm_inX 357 (by decide +kernel) rfl))) (fun q H locs hP hD hS => ?_)
  refine lv_astore (lv' := [(6, .ref q), (0, .ref (ad 0)), (1, .int p0), (2, .int p1), (3, .long p2), (5, .ref (ad 55))]) hx hb dL_write_22 hl (by decide) rfl (fun ls hl => ?_)
  refine lv_iconst (v := (nI 3)) hx hb dL_write_24 (by decide) ?_
  exact kq_iret hx hb hr hlk hP hD hS dL_write_25
set_option maxHeartbeats 4000000 in
set_option maxRecDepth 100000 in
theorem w_write_x4 (p0 : Int32) (p1 : Int32) (p2 : Int64) {u u' v : tm_S} {o : Int64 × UInt64} (hM : kc_T l dC dI gs ad cc yX4_write wsX4_write { frames := 8, cells := 1, slots := 6, locals := 125 } [.ref (ad 0), .int p0, .int p1, .long p2] u u' "java/lang/UnsupportedOperationException") : kl_M l dC dI gs ad cc cr cd yL_write wsL_write { frames := 9, cells := 1, slots := 6, locals := 150 } [.ref (ad 0), .int p0, .int p1, .long p2, .ref (ad 55)] u v o u' v o (nI 4) := by
  refine kl_ofW (cb := cL_write) (maxL := 7) (hh := [(0, 11, 14, 13), (0, 11, 18, 19), (0, 11, 22, 29), (0, 11, 26, 31)]) (by decide) rfl rfl (Nat.le_of_ble_eq_true rfl) ?_
  intro p e s m below meth c A ls hx hb hr hlk hml hown hts hP hK hD hA hG hS hl hTab
  have hl : lv_has ls 7 [(0, .ref (ad 0)), (1, .int p0), (2, .int p1), (3, .long p2), (5, .ref (ad 55))] := hl
  refine lv_aload hx hb dL_write_0 (lv_at hl 4 rfl) ?_
  refine lv_iconst (v := (nI 0)) hx hb dL_write_2 (by decide) ?_
  refine lv_aload_n hx hb dL_write_3 rfl (lv_at hl 0 rfl) ?_
  refine lv_iload_n hx hb dL_write_4 rfl (lv_at hl 1 rfl) ?_
  refine lv_iload_n hx hb dL_write_5 rfl (lv_at hl 2 rfl) ?_
  refine lv_lload_n hx hb dL_write_6 rfl (lv_at hl 3 rfl) ?_
  refine kl_xV ⟨hx, hb, hml, hown, hts⟩ hM (cwV 3 hts gL_74_X4_write rfl rfl rfl (by decide +kernel) ⟨Nat.le_of_ble_eq_true rfl, Nat.le_of_ble_eq_true rfl⟩) hK hP hD hA hG hS rfl hl.1 rfl (Nat.le_of_ble_eq_true rfl) dL_write_7 ⟨Nat.le_of_ble_eq_true rfl, Nat.le_of_ble_eq_true rfl⟩ [⟨0, 11, 14, 13⟩, ⟨0, 11, 18, 19⟩, ⟨0, 11, 22, 29⟩] ⟨0, 11, 26, 31⟩ [] (by rw [hTab]; rfl) (List.forall_mem_cons.mpr ⟨Or.inr ⟨by decide, "java/lang/IllegalArgumentException", (hts _ mb_217), tm_Gc hG (by decide) (by decide) (by decide)⟩, List.forall_mem_cons.mpr ⟨Or.inr ⟨by decide, "java/lang/IllegalStateException", (hts _ mb_298), tm_Gc hG (by decide) (by decide) (by decide)⟩, List.forall_mem_cons.mpr ⟨Or.inr ⟨by decide, "java/util/NoSuchElementException", (hts _ mb_345), tm_Gc hG (by decide) (by decide) (by decide)⟩, fun z hz => nomatch hz⟩⟩⟩) (by decide) (by decide) (hts _ mb_346) (va_Nw.use rfl (tm_GX hG (tm_inX 376 (by decide +kernel) rfl))) (fun q H locs hP hD hS => ?_)
  refine lv_astore (lv' := [(6, .ref q), (0, .ref (ad 0)), (1, .int p0), (2, .int p1), (3, .long p2), (5, .ref (ad 55))]) hx hb dL_write_26 hl (by decide) rfl (fun ls hl => ?_)
  refine lv_iconst (v := (nI 4)) hx hb dL_write_28 (by decide) ?_
  exact kq_iret hx hb hr hlk hP hD hS dL_write_29
set_option maxHeartbeats 4000000 in
set_option maxRecDepth 100000 in
theorem w_read_ok (p0 : Int32) {u u' v : tm_S} {o : Int64 × UInt64} {r : Int64} (hM : kc_M l dC dI gs ad cc yX4_read wsX4_read { frames := 8, cells := 0, slots := 0, locals := 125 } [.ref (ad 0), .int p0] u u' (some (.long r))) : kl_M l dC dI gs ad cc cr cd yL_read wsL_read { frames := 9, cells := 1, slots := 6, locals := 147 } [.ref (ad 0), .int p0, .ref (ad 55)] u v o u' v (r, o.2) (nI 0) := by
  refine kl_ofW (cb := cL_read) (maxL := 4) (hh := [(0, 8, 11, 13), (0, 8, 14, 19), (0, 8, 17, 29)]) (by decide) rfl rfl (Nat.le_of_ble_eq_true rfl) ?_
  intro p e s m below meth c A ls hx hb hr hlk hml hown hts hP hK hD hA hG hS hl hTab
  have hl : lv_has ls 4 [(0, .ref (ad 0)), (1, .int p0), (2, .ref (ad 55))] := hl
  refine lv_aload_n hx hb dL_read_0 rfl (lv_at hl 2 rfl) ?_
  refine lv_iconst (v := (nI 0)) hx hb dL_read_1 (by decide) ?_
  refine lv_aload_n hx hb dL_read_2 rfl (lv_at hl 0 rfl) ?_
  refine lv_iload_n hx hb dL_read_3 rfl (lv_at hl 1 rfl) ?_
  refine kl_cV (st1 := [.long r, .int (nI 0), .ref (ad 55)]) ⟨hx, hb, hml, hown, hts⟩ hM (cwV 1 hts gL_77_X4_read rfl rfl rfl (by decide +kernel) ⟨Nat.le_of_ble_eq_true rfl, Nat.le_of_ble_eq_true rfl⟩) hK hP hD hA hG hS rfl hl.1 rfl rfl (Nat.le_of_ble_eq_true rfl) dL_read_4 ⟨Nat.le_of_ble_eq_true rfl, Nat.le_of_ble_eq_true rfl⟩ (fun H locs hP hD hS => ?_)
  refine tl_t5 hx hb hK hP hD hS dL_read_7 (fun H locs hP hD hS => ?_)
  refine lv_goto (tgt := 20) hx hb dL_read_8 (by decide) ?_
  refine lv_iconst (v := (nI 0)) hx hb dL_read_20 (by decide) ?_
  exact W.widen (k := 1) (n := 6) (Nat.le_of_ble_eq_true rfl) (Nat.le_of_ble_eq_true rfl) (kq_iret hx hb hr hlk hP hD hS dL_read_21)
set_option maxHeartbeats 4000000 in
set_option maxRecDepth 100000 in
theorem w_read_x1 (p0 : Int32) {u u' v : tm_S} {o : Int64 × UInt64} (hM : kc_T l dC dI gs ad cc yX4_read wsX4_read { frames := 8, cells := 1, slots := 6, locals := 125 } [.ref (ad 0), .int p0] u u' "java/lang/IllegalArgumentException") : kl_M l dC dI gs ad cc cr cd yL_read wsL_read { frames := 9, cells := 1, slots := 6, locals := 147 } [.ref (ad 0), .int p0, .ref (ad 55)] u v o u' v o (nI 1) := by
  refine kl_ofW (cb := cL_read) (maxL := 4) (hh := [(0, 8, 11, 13), (0, 8, 14, 19), (0, 8, 17, 29)]) (by decide) rfl rfl (Nat.le_of_ble_eq_true rfl) ?_
  intro p e s m below meth c A ls hx hb hr hlk hml hown hts hP hK hD hA hG hS hl hTab
  have hl : lv_has ls 4 [(0, .ref (ad 0)), (1, .int p0), (2, .ref (ad 55))] := hl
  refine lv_aload_n hx hb dL_read_0 rfl (lv_at hl 2 rfl) ?_
  refine lv_iconst (v := (nI 0)) hx hb dL_read_1 (by decide) ?_
  refine lv_aload_n hx hb dL_read_2 rfl (lv_at hl 0 rfl) ?_
  refine lv_iload_n hx hb dL_read_3 rfl (lv_at hl 1 rfl) ?_
  refine kl_xV ⟨hx, hb, hml, hown, hts⟩ hM (cwV 1 hts gL_77_X4_read rfl rfl rfl (by decide +kernel) ⟨Nat.le_of_ble_eq_true rfl, Nat.le_of_ble_eq_true rfl⟩) hK hP hD hA hG hS rfl hl.1 rfl (Nat.le_of_ble_eq_true rfl) dL_read_4 ⟨Nat.le_of_ble_eq_true rfl, Nat.le_of_ble_eq_true rfl⟩ [] ⟨0, 8, 11, 13⟩ [⟨0, 8, 14, 19⟩, ⟨0, 8, 17, 29⟩] (by rw [hTab]; rfl) (fun z hz => nomatch hz) (by decide) (by decide) (hts _ mb_217) (va_Nw.use rfl (tm_GX hG (tm_inX 227 (by decide +kernel) rfl))) (fun q H locs hP hD hS => ?_)
  refine lv_astore_n (lv' := [(3, .ref q), (0, .ref (ad 0)), (1, .int p0), (2, .ref (ad 55))]) hx hb dL_read_11 rfl hl (by decide) rfl (fun ls hl => ?_)
  refine lv_iconst (v := (nI 1)) hx hb dL_read_12 (by decide) ?_
  exact kq_iret hx hb hr hlk hP hD hS dL_read_13
set_option maxHeartbeats 4000000 in
set_option maxRecDepth 100000 in
theorem w_read_x2 (p0 : Int32) {u u' v : tm_S} {o : Int64 × UInt64} (hM : kc_T l dC dI gs ad cc yX4_read wsX4_read { frames := 8, cells := 1, slots := 6, locals := 125 } [.ref (ad 0), .int p0] u u' "java/lang/IllegalStateException") : kl_M l dC dI gs ad cc cr cd yL_read wsL_read { frames := 9, cells := 1, slots := 6, locals := 147 } [.ref (ad 0), .int p0, .ref (ad 55)] u v o u' v o (nI 2) := by
  refine kl_ofW (cb := cL_read) (maxL := 4) (hh := [(0, 8, 11, 13), (0, 8, 14, 19), (0, 8, 17, 29)]) (by decide) rfl rfl (Nat.le_of_ble_eq_true rfl) ?_
  intro p e s m below meth c A ls hx hb hr hlk hml hown hts hP hK hD hA hG hS hl hTab
  have hl : lv_has ls 4 [(0, .ref (ad 0)), (1, .int p0), (2, .ref (ad 55))] := hl
  refine lv_aload_n hx hb dL_read_0 rfl (lv_at hl 2 rfl) ?_
  refine lv_iconst (v := (nI 0)) hx hb dL_read_1 (by decide) ?_
  refine lv_aload_n hx hb dL_read_2 rfl (lv_at hl 0 rfl) ?_
  refine lv_iload_n hx hb dL_read_3 rfl (lv_at hl 1 rfl) ?_
  refine kl_xV ⟨hx, hb, hml, hown, hts⟩ hM (cwV 1 hts gL_77_X4_read rfl rfl rfl (by decide +kernel) ⟨Nat.le_of_ble_eq_true rfl, Nat.le_of_ble_eq_true rfl⟩) hK hP hD hA hG hS rfl hl.1 rfl (Nat.le_of_ble_eq_true rfl) dL_read_4 ⟨Nat.le_of_ble_eq_true rfl, Nat.le_of_ble_eq_true rfl⟩ [⟨0, 8, 11, 13⟩] ⟨0, 8, 14, 19⟩ [⟨0, 8, 17, 29⟩] (by rw [hTab]; rfl) (List.forall_mem_cons.mpr ⟨Or.inr ⟨by decide, "java/lang/IllegalArgumentException", (hts _ mb_217), tm_Gc hG (by decide) (by decide) (by decide)⟩, fun z hz => nomatch hz⟩) (by decide) (by decide) (hts _ mb_298) (va_Nw.use rfl (tm_GX hG (tm_inX 312 (by decide +kernel) rfl))) (fun q H locs hP hD hS => ?_)
  refine lv_astore_n (lv' := [(3, .ref q), (0, .ref (ad 0)), (1, .int p0), (2, .ref (ad 55))]) hx hb dL_read_14 rfl hl (by decide) rfl (fun ls hl => ?_)
  refine lv_iconst (v := (nI 2)) hx hb dL_read_15 (by decide) ?_
  exact kq_iret hx hb hr hlk hP hD hS dL_read_16
set_option maxHeartbeats 4000000 in
set_option maxRecDepth 100000 in
theorem w_read_x3 (p0 : Int32) {u u' v : tm_S} {o : Int64 × UInt64} (hM : kc_T l dC dI gs ad cc yX4_read wsX4_read { frames := 8, cells := 1, slots := 6, locals := 125 } [.ref (ad 0), .int p0] u u' "java/util/NoSuchElementException") : kl_M l dC dI gs ad cc cr cd yL_read wsL_read { frames := 9, cells := 1, slots := 6, locals := 147 } [.ref (ad 0), .int p0, .ref (ad 55)] u v o u' v o (nI 3) := by
  refine kl_ofW (cb := cL_read) (maxL := 4) (hh := [(0, 8, 11, 13), (0, 8, 14, 19), (0, 8, 17, 29)]) (by decide) rfl rfl (Nat.le_of_ble_eq_true rfl) ?_
  intro p e s m below meth c A ls hx hb hr hlk hml hown hts hP hK hD hA hG hS hl hTab
  have hl : lv_has ls 4 [(0, .ref (ad 0)), (1, .int p0), (2, .ref (ad 55))] := hl
  refine lv_aload_n hx hb dL_read_0 rfl (lv_at hl 2 rfl) ?_
  refine lv_iconst (v := (nI 0)) hx hb dL_read_1 (by decide) ?_
  refine lv_aload_n hx hb dL_read_2 rfl (lv_at hl 0 rfl) ?_
  refine lv_iload_n hx hb dL_read_3 rfl (lv_at hl 1 rfl) ?_
  refine kl_xV ⟨hx, hb, hml, hown, hts⟩ hM (cwV 1 hts gL_77_X4_read rfl rfl rfl (by decide +kernel) ⟨Nat.le_of_ble_eq_true rfl, Nat.le_of_ble_eq_true rfl⟩) hK hP hD hA hG hS rfl hl.1 rfl (Nat.le_of_ble_eq_true rfl) dL_read_4 ⟨Nat.le_of_ble_eq_true rfl, Nat.le_of_ble_eq_true rfl⟩ [⟨0, 8, 11, 13⟩, ⟨0, 8, 14, 19⟩] ⟨0, 8, 17, 29⟩ [] (by rw [hTab]; rfl) (List.forall_mem_cons.mpr ⟨Or.inr ⟨by decide, "java/lang/IllegalArgumentException", (hts _ mb_217), tm_Gc hG (by decide) (by decide) (by decide)⟩, List.forall_mem_cons.mpr ⟨Or.inr ⟨by decide, "java/lang/IllegalStateException", (hts _ mb_298), tm_Gc hG (by decide) (by decide) (by decide)⟩, fun z hz => nomatch hz⟩⟩) (by decide) (by decide) (hts _ mb_345) (va_Nw.use rfl (tm_GX hG (tm_inX 357 (by decide +kernel) rfl))) (fun q H locs hP hD hS => ?_)
  refine lv_astore_n (lv' := [(3, .ref q), (0, .ref (ad 0)), (1, .int p0), (2, .ref (ad 55))]) hx hb dL_read_17 rfl hl (by decide) rfl (fun ls hl => ?_)
  refine lv_iconst (v := (nI 3)) hx hb dL_read_18 (by decide) ?_
  exact kq_iret hx hb hr hlk hP hD hS dL_read_19
set_option maxHeartbeats 4000000 in
set_option maxRecDepth 100000 in
theorem w_clock_ok (p0 : Int32) (p1 : Int32) {u u' v : tm_S} {o : Int64 × UInt64} {r : UInt64} (hM : kc_M l dC dI gs ad cc yX4_clock wsX4_clock { frames := 7, cells := 0, slots := 0, locals := 104 } [.ref (ad 0), .int p0, .int p1] u u' (some (.double r))) : kl_M l dC dI gs ad cc cr cd yL_clock wsL_clock { frames := 8, cells := 1, slots := 6, locals := 126 } [.ref (ad 0), .int p0, .int p1, .ref (ad 56)] u v o u' v (o.1, r) (nI 0) := by
  refine kl_ofW (cb := cL_clock) (maxL := 5) (hh := [(0, 9, 12, 13), (0, 9, 16, 19)]) (by decide) rfl rfl (Nat.le_of_ble_eq_true rfl) ?_
  intro p e s m below meth c A ls hx hb hr hlk hml hown hts hP hK hD hA hG hS hl hTab
  have hl : lv_has ls 5 [(0, .ref (ad 0)), (1, .int p0), (2, .int p1), (3, .ref (ad 56))] := hl
  refine lv_aload_n hx hb dL_clock_0 rfl (lv_at hl 3 rfl) ?_
  refine lv_iconst (v := (nI 0)) hx hb dL_clock_1 (by decide) ?_
  refine lv_aload_n hx hb dL_clock_2 rfl (lv_at hl 0 rfl) ?_
  refine lv_iload_n hx hb dL_clock_3 rfl (lv_at hl 1 rfl) ?_
  refine lv_iload_n hx hb dL_clock_4 rfl (lv_at hl 2 rfl) ?_
  refine kl_cV (st1 := [.double r, .int (nI 0), .ref (ad 56)]) ⟨hx, hb, hml, hown, hts⟩ hM (cwV 2 hts gL_81_X4_clock rfl rfl rfl (by decide +kernel) ⟨Nat.le_of_ble_eq_true rfl, Nat.le_of_ble_eq_true rfl⟩) hK hP hD hA hG hS rfl hl.1 rfl rfl (Nat.le_of_ble_eq_true rfl) dL_clock_5 ⟨Nat.le_of_ble_eq_true rfl, Nat.le_of_ble_eq_true rfl⟩ (fun H locs hP hD hS => ?_)
  refine tl_t6 hx hb hK hP hD hS dL_clock_8 (fun H locs hP hD hS => ?_)
  refine lv_goto (tgt := 20) hx hb dL_clock_9 (by decide) ?_
  refine lv_iconst (v := (nI 0)) hx hb dL_clock_20 (by decide) ?_
  exact W.widen (k := 1) (n := 6) (Nat.le_of_ble_eq_true rfl) (Nat.le_of_ble_eq_true rfl) (kq_iret hx hb hr hlk hP hD hS dL_clock_21)
set_option maxHeartbeats 4000000 in
set_option maxRecDepth 100000 in
theorem w_clock_x1 (p0 : Int32) (p1 : Int32) {u u' v : tm_S} {o : Int64 × UInt64} (hM : kc_T l dC dI gs ad cc yX4_clock wsX4_clock { frames := 7, cells := 1, slots := 6, locals := 104 } [.ref (ad 0), .int p0, .int p1] u u' "java/lang/IllegalArgumentException") : kl_M l dC dI gs ad cc cr cd yL_clock wsL_clock { frames := 8, cells := 1, slots := 6, locals := 126 } [.ref (ad 0), .int p0, .int p1, .ref (ad 56)] u v o u' v o (nI 1) := by
  refine kl_ofW (cb := cL_clock) (maxL := 5) (hh := [(0, 9, 12, 13), (0, 9, 16, 19)]) (by decide) rfl rfl (Nat.le_of_ble_eq_true rfl) ?_
  intro p e s m below meth c A ls hx hb hr hlk hml hown hts hP hK hD hA hG hS hl hTab
  have hl : lv_has ls 5 [(0, .ref (ad 0)), (1, .int p0), (2, .int p1), (3, .ref (ad 56))] := hl
  refine lv_aload_n hx hb dL_clock_0 rfl (lv_at hl 3 rfl) ?_
  refine lv_iconst (v := (nI 0)) hx hb dL_clock_1 (by decide) ?_
  refine lv_aload_n hx hb dL_clock_2 rfl (lv_at hl 0 rfl) ?_
  refine lv_iload_n hx hb dL_clock_3 rfl (lv_at hl 1 rfl) ?_
  refine lv_iload_n hx hb dL_clock_4 rfl (lv_at hl 2 rfl) ?_
  refine kl_xV ⟨hx, hb, hml, hown, hts⟩ hM (cwV 2 hts gL_81_X4_clock rfl rfl rfl (by decide +kernel) ⟨Nat.le_of_ble_eq_true rfl, Nat.le_of_ble_eq_true rfl⟩) hK hP hD hA hG hS rfl hl.1 rfl (Nat.le_of_ble_eq_true rfl) dL_clock_5 ⟨Nat.le_of_ble_eq_true rfl, Nat.le_of_ble_eq_true rfl⟩ [] ⟨0, 9, 12, 13⟩ [⟨0, 9, 16, 19⟩] (by rw [hTab]; rfl) (fun z hz => nomatch hz) (by decide) (by decide) (hts _ mb_217) (va_Nw.use rfl (tm_GX hG (tm_inX 227 (by decide +kernel) rfl))) (fun q H locs hP hD hS => ?_)
  refine lv_astore (lv' := [(4, .ref q), (0, .ref (ad 0)), (1, .int p0), (2, .int p1), (3, .ref (ad 56))]) hx hb dL_clock_12 hl (by decide) rfl (fun ls hl => ?_)
  refine lv_iconst (v := (nI 1)) hx hb dL_clock_14 (by decide) ?_
  exact kq_iret hx hb hr hlk hP hD hS dL_clock_15
set_option maxHeartbeats 4000000 in
set_option maxRecDepth 100000 in
theorem w_clock_x2 (p0 : Int32) (p1 : Int32) {u u' v : tm_S} {o : Int64 × UInt64} (hM : kc_T l dC dI gs ad cc yX4_clock wsX4_clock { frames := 7, cells := 1, slots := 6, locals := 104 } [.ref (ad 0), .int p0, .int p1] u u' "java/lang/IllegalStateException") : kl_M l dC dI gs ad cc cr cd yL_clock wsL_clock { frames := 8, cells := 1, slots := 6, locals := 126 } [.ref (ad 0), .int p0, .int p1, .ref (ad 56)] u v o u' v o (nI 2) := by
  refine kl_ofW (cb := cL_clock) (maxL := 5) (hh := [(0, 9, 12, 13), (0, 9, 16, 19)]) (by decide) rfl rfl (Nat.le_of_ble_eq_true rfl) ?_
  intro p e s m below meth c A ls hx hb hr hlk hml hown hts hP hK hD hA hG hS hl hTab
  have hl : lv_has ls 5 [(0, .ref (ad 0)), (1, .int p0), (2, .int p1), (3, .ref (ad 56))] := hl
  refine lv_aload_n hx hb dL_clock_0 rfl (lv_at hl 3 rfl) ?_
  refine lv_iconst (v := (nI 0)) hx hb dL_clock_1 (by decide) ?_
  refine lv_aload_n hx hb dL_clock_2 rfl (lv_at hl 0 rfl) ?_
  refine lv_iload_n hx hb dL_clock_3 rfl (lv_at hl 1 rfl) ?_
  refine lv_iload_n hx hb dL_clock_4 rfl (lv_at hl 2 rfl) ?_
  refine kl_xV ⟨hx, hb, hml, hown, hts⟩ hM (cwV 2 hts gL_81_X4_clock rfl rfl rfl (by decide +kernel) ⟨Nat.le_of_ble_eq_true rfl, Nat.le_of_ble_eq_true rfl⟩) hK hP hD hA hG hS rfl hl.1 rfl (Nat.le_of_ble_eq_true rfl) dL_clock_5 ⟨Nat.le_of_ble_eq_true rfl, Nat.le_of_ble_eq_true rfl⟩ [⟨0, 9, 12, 13⟩] ⟨0, 9, 16, 19⟩ [] (by rw [hTab]; rfl) (List.forall_mem_cons.mpr ⟨Or.inr ⟨by decide, "java/lang/IllegalArgumentException", (hts _ mb_217), tm_Gc hG (by decide) (by decide) (by decide)⟩, fun z hz => nomatch hz⟩) (by decide) (by decide) (hts _ mb_298) (va_Nw.use rfl (tm_GX hG (tm_inX 312 (by decide +kernel) rfl))) (fun q H locs hP hD hS => ?_)
  refine lv_astore (lv' := [(4, .ref q), (0, .ref (ad 0)), (1, .int p0), (2, .int p1), (3, .ref (ad 56))]) hx hb dL_clock_16 hl (by decide) rfl (fun ls hl => ?_)
  refine lv_iconst (v := (nI 2)) hx hb dL_clock_18 (by decide) ?_
  exact kq_iret hx hb hr hlk hP hD hS dL_clock_19
set_option maxHeartbeats 4000000 in
set_option maxRecDepth 100000 in
theorem w_clear_ok  {u u' v : tm_S} {o : Int64 × UInt64} (hM : kc_M l dC dI gs ad cc yX4_clear wsX4_clear { frames := 7, cells := 0, slots := 0, locals := 102 } [.ref (ad 0)] u u' none) : kl_M l dC dI gs ad cc cr cd yL_clear wsL_clear { frames := 8, cells := 1, slots := 6, locals := 123 } [.ref (ad 0)] u v o u' v o (nI 0) := by
  refine kl_ofW (cb := cL_clear) (maxL := 2) (hh := [(0, 4, 7, 19)]) (by decide) rfl rfl (Nat.le_of_ble_eq_true rfl) ?_
  intro p e s m below meth c A ls hx hb hr hlk hml hown hts hP hK hD hA hG hS hl hTab
  have hl : lv_has ls 2 [(0, .ref (ad 0))] := hl
  refine lv_aload_n hx hb dL_clear_0 rfl (lv_at hl 0 rfl) ?_
  refine kl_cV (st1 := []) ⟨hx, hb, hml, hown, hts⟩ hM (cwV 0 hts gL_85_X4_clear rfl rfl rfl (by decide +kernel) ⟨Nat.le_of_ble_eq_true rfl, Nat.le_of_ble_eq_true rfl⟩) hK hP hD hA hG hS rfl hl.1 rfl rfl (Nat.le_of_ble_eq_true rfl) dL_clear_1 ⟨Nat.le_of_ble_eq_true rfl, Nat.le_of_ble_eq_true rfl⟩ (fun H locs hP hD hS => ?_)
  refine lv_goto (tgt := 10) hx hb dL_clear_4 (by decide) ?_
  refine lv_iconst (v := (nI 0)) hx hb dL_clear_10 (by decide) ?_
  exact W.widen (k := 1) (n := 6) (Nat.le_of_ble_eq_true rfl) (Nat.le_of_ble_eq_true rfl) (kq_iret hx hb hr hlk hP hD hS dL_clear_11)
set_option maxHeartbeats 4000000 in
set_option maxRecDepth 100000 in
theorem w_clear_x1  {u u' v : tm_S} {o : Int64 × UInt64} (hM : kc_T l dC dI gs ad cc yX4_clear wsX4_clear { frames := 7, cells := 1, slots := 6, locals := 102 } [.ref (ad 0)] u u' "java/lang/IllegalStateException") : kl_M l dC dI gs ad cc cr cd yL_clear wsL_clear { frames := 8, cells := 1, slots := 6, locals := 123 } [.ref (ad 0)] u v o u' v o (nI 1) := by
  refine kl_ofW (cb := cL_clear) (maxL := 2) (hh := [(0, 4, 7, 19)]) (by decide) rfl rfl (Nat.le_of_ble_eq_true rfl) ?_
  intro p e s m below meth c A ls hx hb hr hlk hml hown hts hP hK hD hA hG hS hl hTab
  have hl : lv_has ls 2 [(0, .ref (ad 0))] := hl
  refine lv_aload_n hx hb dL_clear_0 rfl (lv_at hl 0 rfl) ?_
  refine kl_xV ⟨hx, hb, hml, hown, hts⟩ hM (cwV 0 hts gL_85_X4_clear rfl rfl rfl (by decide +kernel) ⟨Nat.le_of_ble_eq_true rfl, Nat.le_of_ble_eq_true rfl⟩) hK hP hD hA hG hS rfl hl.1 rfl (Nat.le_of_ble_eq_true rfl) dL_clear_1 ⟨Nat.le_of_ble_eq_true rfl, Nat.le_of_ble_eq_true rfl⟩ [] ⟨0, 4, 7, 19⟩ [] (by rw [hTab]; rfl) (fun z hz => nomatch hz) (by decide) (by decide) (hts _ mb_298) (va_Nw.use rfl (tm_GX hG (tm_inX 312 (by decide +kernel) rfl))) (fun q H locs hP hD hS => ?_)
  refine lv_astore_n (lv' := [(1, .ref q), (0, .ref (ad 0))]) hx hb dL_clear_7 rfl hl (by decide) rfl (fun ls hl => ?_)
  refine lv_iconst (v := (nI 1)) hx hb dL_clear_8 (by decide) ?_
  exact kq_iret hx hb hr hlk hP hD hS dL_clear_9
set_option maxHeartbeats 4000000 in
set_option maxRecDepth 100000 in
theorem w_told_ok (p0 : Int32) (p1 : Int32) {u u' v : tm_S} {o : Int64 × UInt64} {r : Int64} (hM : kc_M l dC dI gs ad cc yX4_told wsX4_told { frames := 8, cells := 0, slots := 0, locals := 125 } [.ref (ad 0), .int p0, .int p1] u u' (some (.long r))) : kl_M l dC dI gs ad cc cr cd yL_told wsL_told { frames := 9, cells := 1, slots := 6, locals := 147 } [.ref (ad 0), .int p0, .int p1, .ref (ad 55)] u v o u' v (r, o.2) (nI 0) := by
  refine kl_ofW (cb := cL_told) (maxL := 5) (hh := [(0, 9, 12, 13), (0, 9, 16, 29)]) (by decide) rfl rfl (Nat.le_of_ble_eq_true rfl) ?_
  intro p e s m below meth c A ls hx hb hr hlk hml hown hts hP hK hD hA hG hS hl hTab
  have hl : lv_has ls 5 [(0, .ref (ad 0)), (1, .int p0), (2, .int p1), (3, .ref (ad 55))] := hl
  refine lv_aload_n hx hb dL_told_0 rfl (lv_at hl 3 rfl) ?_
  refine lv_iconst (v := (nI 0)) hx hb dL_told_1 (by decide) ?_
  refine lv_aload_n hx hb dL_told_2 rfl (lv_at hl 0 rfl) ?_
  refine lv_iload_n hx hb dL_told_3 rfl (lv_at hl 1 rfl) ?_
  refine lv_iload_n hx hb dL_told_4 rfl (lv_at hl 2 rfl) ?_
  refine kl_cV (st1 := [.long r, .int (nI 0), .ref (ad 55)]) ⟨hx, hb, hml, hown, hts⟩ hM (cwV 2 hts gL_88_X4_told rfl rfl rfl (by decide +kernel) ⟨Nat.le_of_ble_eq_true rfl, Nat.le_of_ble_eq_true rfl⟩) hK hP hD hA hG hS rfl hl.1 rfl rfl (Nat.le_of_ble_eq_true rfl) dL_told_5 ⟨Nat.le_of_ble_eq_true rfl, Nat.le_of_ble_eq_true rfl⟩ (fun H locs hP hD hS => ?_)
  refine tl_t5 hx hb hK hP hD hS dL_told_8 (fun H locs hP hD hS => ?_)
  refine lv_goto (tgt := 20) hx hb dL_told_9 (by decide) ?_
  refine lv_iconst (v := (nI 0)) hx hb dL_told_20 (by decide) ?_
  exact W.widen (k := 1) (n := 6) (Nat.le_of_ble_eq_true rfl) (Nat.le_of_ble_eq_true rfl) (kq_iret hx hb hr hlk hP hD hS dL_told_21)
set_option maxHeartbeats 4000000 in
set_option maxRecDepth 100000 in
theorem w_told_x1 (p0 : Int32) (p1 : Int32) {u u' v : tm_S} {o : Int64 × UInt64} (hM : kc_T l dC dI gs ad cc yX4_told wsX4_told { frames := 8, cells := 1, slots := 6, locals := 125 } [.ref (ad 0), .int p0, .int p1] u u' "java/lang/IllegalArgumentException") : kl_M l dC dI gs ad cc cr cd yL_told wsL_told { frames := 9, cells := 1, slots := 6, locals := 147 } [.ref (ad 0), .int p0, .int p1, .ref (ad 55)] u v o u' v o (nI 1) := by
  refine kl_ofW (cb := cL_told) (maxL := 5) (hh := [(0, 9, 12, 13), (0, 9, 16, 29)]) (by decide) rfl rfl (Nat.le_of_ble_eq_true rfl) ?_
  intro p e s m below meth c A ls hx hb hr hlk hml hown hts hP hK hD hA hG hS hl hTab
  have hl : lv_has ls 5 [(0, .ref (ad 0)), (1, .int p0), (2, .int p1), (3, .ref (ad 55))] := hl
  refine lv_aload_n hx hb dL_told_0 rfl (lv_at hl 3 rfl) ?_
  refine lv_iconst (v := (nI 0)) hx hb dL_told_1 (by decide) ?_
  refine lv_aload_n hx hb dL_told_2 rfl (lv_at hl 0 rfl) ?_
  refine lv_iload_n hx hb dL_told_3 rfl (lv_at hl 1 rfl) ?_
  refine lv_iload_n hx hb dL_told_4 rfl (lv_at hl 2 rfl) ?_
  refine kl_xV ⟨hx, hb, hml, hown, hts⟩ hM (cwV 2 hts gL_88_X4_told rfl rfl rfl (by decide +kernel) ⟨Nat.le_of_ble_eq_true rfl, Nat.le_of_ble_eq_true rfl⟩) hK hP hD hA hG hS rfl hl.1 rfl (Nat.le_of_ble_eq_true rfl) dL_told_5 ⟨Nat.le_of_ble_eq_true rfl, Nat.le_of_ble_eq_true rfl⟩ [] ⟨0, 9, 12, 13⟩ [⟨0, 9, 16, 29⟩] (by rw [hTab]; rfl) (fun z hz => nomatch hz) (by decide) (by decide) (hts _ mb_217) (va_Nw.use rfl (tm_GX hG (tm_inX 227 (by decide +kernel) rfl))) (fun q H locs hP hD hS => ?_)
  refine lv_astore (lv' := [(4, .ref q), (0, .ref (ad 0)), (1, .int p0), (2, .int p1), (3, .ref (ad 55))]) hx hb dL_told_12 hl (by decide) rfl (fun ls hl => ?_)
  refine lv_iconst (v := (nI 1)) hx hb dL_told_14 (by decide) ?_
  exact kq_iret hx hb hr hlk hP hD hS dL_told_15
set_option maxHeartbeats 4000000 in
set_option maxRecDepth 100000 in
theorem w_told_x2 (p0 : Int32) (p1 : Int32) {u u' v : tm_S} {o : Int64 × UInt64} (hM : kc_T l dC dI gs ad cc yX4_told wsX4_told { frames := 8, cells := 1, slots := 6, locals := 125 } [.ref (ad 0), .int p0, .int p1] u u' "java/util/NoSuchElementException") : kl_M l dC dI gs ad cc cr cd yL_told wsL_told { frames := 9, cells := 1, slots := 6, locals := 147 } [.ref (ad 0), .int p0, .int p1, .ref (ad 55)] u v o u' v o (nI 2) := by
  refine kl_ofW (cb := cL_told) (maxL := 5) (hh := [(0, 9, 12, 13), (0, 9, 16, 29)]) (by decide) rfl rfl (Nat.le_of_ble_eq_true rfl) ?_
  intro p e s m below meth c A ls hx hb hr hlk hml hown hts hP hK hD hA hG hS hl hTab
  have hl : lv_has ls 5 [(0, .ref (ad 0)), (1, .int p0), (2, .int p1), (3, .ref (ad 55))] := hl
  refine lv_aload_n hx hb dL_told_0 rfl (lv_at hl 3 rfl) ?_
  refine lv_iconst (v := (nI 0)) hx hb dL_told_1 (by decide) ?_
  refine lv_aload_n hx hb dL_told_2 rfl (lv_at hl 0 rfl) ?_
  refine lv_iload_n hx hb dL_told_3 rfl (lv_at hl 1 rfl) ?_
  refine lv_iload_n hx hb dL_told_4 rfl (lv_at hl 2 rfl) ?_
  refine kl_xV ⟨hx, hb, hml, hown, hts⟩ hM (cwV 2 hts gL_88_X4_told rfl rfl rfl (by decide +kernel) ⟨Nat.le_of_ble_eq_true rfl, Nat.le_of_ble_eq_true rfl⟩) hK hP hD hA hG hS rfl hl.1 rfl (Nat.le_of_ble_eq_true rfl) dL_told_5 ⟨Nat.le_of_ble_eq_true rfl, Nat.le_of_ble_eq_true rfl⟩ [⟨0, 9, 12, 13⟩] ⟨0, 9, 16, 29⟩ [] (by rw [hTab]; rfl) (List.forall_mem_cons.mpr ⟨Or.inr ⟨by decide, "java/lang/IllegalArgumentException", (hts _ mb_217), tm_Gc hG (by decide) (by decide) (by decide)⟩, fun z hz => nomatch hz⟩) (by decide) (by decide) (hts _ mb_345) (va_Nw.use rfl (tm_GX hG (tm_inX 357 (by decide +kernel) rfl))) (fun q H locs hP hD hS => ?_)
  refine lv_astore (lv' := [(4, .ref q), (0, .ref (ad 0)), (1, .int p0), (2, .int p1), (3, .ref (ad 55))]) hx hb dL_told_16 hl (by decide) rfl (fun ls hl => ?_)
  refine lv_iconst (v := (nI 2)) hx hb dL_told_18 (by decide) ?_
  exact kq_iret hx hb hr hlk hP hD hS dL_told_19
end S31
