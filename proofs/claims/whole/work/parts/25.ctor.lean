section S25
variable {l : Launch} {dC : Nat → ClassId} {dI : Nat → Nat → Nat} {gs : Nat → Nat} {ad : Nat → Nat} {cc : Nat → ClassId}
theorem dfX2 : ∀ j, j < 6 → defaultValue (tyX2 j) = vp_V [.int 0, .long 0, .int 0, .long 0, .long 0, .int 0] j := by
  intro j hj
  match j, hj with
  | 0, _ => rfl
  | 1, _ => rfl
  | 2, _ => rfl
  | 3, _ => rfl
  | 4, _ => rfl
  | 5, _ => rfl
theorem dfX0 : ∀ j, j < 2 → defaultValue (tyX0 j) = vp_V [.int 0, .null] j := by
  intro j hj
  match j, hj with
  | 0, _ => rfl
  | 1, _ => rfl
theorem dfX3 : ∀ j, j < 3 → defaultValue (tyX3 j) = vp_V [.long 0, .int 0, .int 0] j := by
  intro j hj
  match j, hj with
  | 0, _ => rfl
  | 1, _ => rfl
  | 2, _ => rfl
theorem dfX1 : ∀ j, j < 5 → defaultValue (tyX1 j) = vp_V [.int 0, .int 0, .long 0, .int 0, .long 0] j := by
  intro j hj
  match j, hj with
  | 0, _ => rfl
  | 1, _ => rfl
  | 2, _ => rfl
  | 3, _ => rfl
  | 4, _ => rfl
theorem dfX4 : ∀ j, j < 15 → defaultValue (tyX4 j) = vp_V [.null, .null, .null, .null, .null, .null, .int 0, .long 0, .int 0, .int 0, .int 0, .int 0, .double 0, .double 0, .double 0] j := by
  intro j hj
  match j, hj with
  | 0, _ => rfl
  | 1, _ => rfl
  | 2, _ => rfl
  | 3, _ => rfl
  | 4, _ => rfl
  | 5, _ => rfl
  | 6, _ => rfl
  | 7, _ => rfl
  | 8, _ => rfl
  | 9, _ => rfl
  | 10, _ => rfl
  | 11, _ => rfl
  | 12, _ => rfl
  | 13, _ => rfl
  | 14, _ => rfl
theorem dfX5 : ∀ j, j < 28 → defaultValue (tyX5 j) = vp_V [.null, .null, .null, .null, .null, .null, .null, .null, .null, .null, .null, .null, .null, .null, .null, .null, .null, .null, .int 0, .int 0, .int 0, .int 0, .int 0, .int 0, .long 0, .double 0, .double 0, .double 0] j := by
  intro j hj
  match j, hj with
  | 0, _ => rfl
  | 1, _ => rfl
  | 2, _ => rfl
  | 3, _ => rfl
  | 4, _ => rfl
  | 5, _ => rfl
  | 6, _ => rfl
  | 7, _ => rfl
  | 8, _ => rfl
  | 9, _ => rfl
  | 10, _ => rfl
  | 11, _ => rfl
  | 12, _ => rfl
  | 13, _ => rfl
  | 14, _ => rfl
  | 15, _ => rfl
  | 16, _ => rfl
  | 17, _ => rfl
  | 18, _ => rfl
  | 19, _ => rfl
  | 20, _ => rfl
  | 21, _ => rfl
  | 22, _ => rfl
  | 23, _ => rfl
  | 24, _ => rfl
  | 25, _ => rfl
  | 26, _ => rfl
  | 27, _ => rfl
  | k + 28, hk => exact absurd hk (by omega)
theorem tm_inner (c9 : ClassId) (n : Nat) : Jvm.Free.Multi.innerC c9 n (defaultValue .long) = vp_cell c9 (n, .inr (.inl (fun _ => 0))) := by
  rw [vp_cell_l, ← arrV_new]
  rfl
set_option maxHeartbeats 4000000 in
set_option maxRecDepth 100000 in
theorem c_hashW {D : va_G} {tys : List (ClassId × FieldType)} {G : (Nat → Prop) → State → Prop} {w : va_W} (a b : Int64) : kq_M l yX4_hash wsX4_hash { frames := 0, cells := 0, slots := 0, locals := 0 } [.long a, .long b] D vwCl tys G w w (some (.long (tm_h a b))) := by
  refine kq_ofW (cc := cX4_hash) (maxL := 6) (ret := (some .long)) (R0 := RX4) (by decide) rfl rfl (Nat.le_of_ble_eq_true rfl) ?_
  intro p e s m below meth c A ls hx hb hr hlk hml hown hts hP hK hD hA hG hS hl
  have hl : lv_has ls 6 [(0, .long a), (2, .long b)] := hl
  refine lv_lload_n hx hb dX4_hash_0 rfl (lv_at hl 0 rfl) ?_
  refine lv_ldc2 hx hb hown (hts _ mb_36) dX4_hash_1 ?_
  refine lv_lmul hx hb dX4_hash_4 ?_
  refine lv_lload_n hx hb dX4_hash_5 rfl (lv_at hl 1 rfl) ?_
  refine lv_ladd hx hb dX4_hash_6 ?_
  refine lv_ldc2 hx hb hown (hts _ mb_37) dX4_hash_7 ?_
  refine lv_lmul hx hb dX4_hash_10 ?_
  refine lv_lstore (lv' := [(4, .long (((a * 1000003) + b) * (-7046029254386353131))), (0, .long a), (2, .long b)]) hx hb dX4_hash_11 hl (by decide) rfl (fun ls hl => ?_)
  refine lv_lload hx hb dX4_hash_13 (lv_at hl 0 rfl) ?_
  refine lv_lload hx hb dX4_hash_15 (lv_at hl 0 rfl) ?_
  refine lv_bipush (v := (nI 29)) hx hb dX4_hash_17 (by decide) ?_
  refine lv_lushr (v := ((((a * 1000003) + b) * (-7046029254386353131)).toUInt64 >>> ((nI 29).toInt64.toUInt64 &&& Int64.toUInt64 63)).toInt64) hx hb dX4_hash_19 rfl ?_
  refine lv_lxor hx hb dX4_hash_20 ?_
  refine lv_ldc2 hx hb hown (hts _ mb_38) dX4_hash_21 ?_
  refine lv_lmul hx hb dX4_hash_24 ?_
  refine lv_lstore (lv' := [(4, .long (((((a * 1000003) + b) * (-7046029254386353131)) ^^^ (((((a * 1000003) + b) * (-7046029254386353131)).toUInt64 >>> ((nI 29).toInt64.toUInt64 &&& Int64.toUInt64 63)).toInt64)) * 31)), (0, .long a), (2, .long b)]) hx hb dX4_hash_25 hl (by decide) rfl (fun ls hl => ?_)
  refine lv_lload hx hb dX4_hash_27 (lv_at hl 0 rfl) ?_
  refine lv_lload hx hb dX4_hash_29 (lv_at hl 0 rfl) ?_
  refine lv_bipush (v := (nI 32)) hx hb dX4_hash_31 (by decide) ?_
  refine lv_lushr (v := ((((((a * 1000003) + b) * (-7046029254386353131)) ^^^ (((((a * 1000003) + b) * (-7046029254386353131)).toUInt64 >>> ((nI 29).toInt64.toUInt64 &&& Int64.toUInt64 63)).toInt64)) * 31).toUInt64 >>> ((nI 32).toInt64.toUInt64 &&& Int64.toUInt64 63)).toInt64) hx hb dX4_hash_33 rfl ?_
  refine lv_lxor hx hb dX4_hash_34 ?_
  exact kq_lret hx hb hr hlk hP hD hS dX4_hash_35
set_option maxRecDepth 100000 in
theorem i_X2 {D : va_G} {tys : List (ClassId × FieldType)} {G : (Nat → Prop) → State → Prop} {w : va_W} {q : Nat} : kq_M l yX2_init wsX2_init { frames := 1, cells := 0, slots := 0, locals := 12 } [.ref q] D vwCl tys G w w none := by
  refine kq_ofW (cc := cX2_init) (maxL := 1) (ret := none) (R0 := RX2) (by decide) rfl rfl (Nat.le_of_ble_eq_true rfl) ?_
  intro p e s m below meth c A ls hx hb hr hlk hml hown hts hP hK hD hA hG hS hl
  have hl : lv_has ls 1 [(0, .ref q)] := hl
  refine lv_aload_n hx hb dX2_init_0 rfl (lv_at hl 0 rfl) ?_
  refine tm_objI hx hb hown hts mb_43 mb_21 mb_oinit (by rw [hml]; exact hl.1) dX2_init_1 (Nat.le_of_ble_eq_true rfl) (Nat.le_of_ble_eq_true rfl) ?_
  exact kq_vret hx hb hr hlk hP hD hS dX2_init_4
set_option maxRecDepth 100000 in
theorem i_X3 {D : va_G} {tys : List (ClassId × FieldType)} {G : (Nat → Prop) → State → Prop} {w : va_W} {q : Nat} : kq_M l yX3_init wsX3_init { frames := 1, cells := 0, slots := 0, locals := 12 } [.ref q] D vwCl tys G w w none := by
  refine kq_ofW (cc := cX3_init) (maxL := 1) (ret := none) (R0 := RX3) (by decide) rfl rfl (Nat.le_of_ble_eq_true rfl) ?_
  intro p e s m below meth c A ls hx hb hr hlk hml hown hts hP hK hD hA hG hS hl
  have hl : lv_has ls 1 [(0, .ref q)] := hl
  refine lv_aload_n hx hb dX3_init_0 rfl (lv_at hl 0 rfl) ?_
  refine tm_objI hx hb hown hts mb_88 mb_21 mb_oinit (by rw [hml]; exact hl.1) dX3_init_1 (Nat.le_of_ble_eq_true rfl) (Nat.le_of_ble_eq_true rfl) ?_
  exact kq_vret hx hb hr hlk hP hD hS dX3_init_4
set_option maxRecDepth 100000 in
theorem i_X1 {D : va_G} {tys : List (ClassId × FieldType)} {G : (Nat → Prop) → State → Prop} {w : va_W} {q : Nat} : kq_M l yX1_init wsX1_init { frames := 1, cells := 0, slots := 0, locals := 12 } [.ref q] D vwCl tys G w w none := by
  refine kq_ofW (cc := cX1_init) (maxL := 1) (ret := none) (R0 := RX1) (by decide) rfl rfl (Nat.le_of_ble_eq_true rfl) ?_
  intro p e s m below meth c A ls hx hb hr hlk hml hown hts hP hK hD hA hG hS hl
  have hl : lv_has ls 1 [(0, .ref q)] := hl
  refine lv_aload_n hx hb dX1_init_0 rfl (lv_at hl 0 rfl) ?_
  refine tm_objI hx hb hown hts mb_106 mb_21 mb_oinit (by rw [hml]; exact hl.1) dX1_init_1 (Nat.le_of_ble_eq_true rfl) (Nat.le_of_ble_eq_true rfl) ?_
  exact kq_vret hx hb hr hlk hP hD hS dX1_init_4
set_option maxHeartbeats 4000000 in
set_option maxRecDepth 100000 in
theorem i_X0 {tys : List (ClassId × FieldType)} {G : (Nat → Prop) → State → Prop} {w : va_W} {q i : Nat} {c0 : ClassId} (hw : w[i]? = some (q, .inr (0, [.int 0, .null]))) (h0 : tys[0]? = some (c0, .long)) : kq_ME Nat l yX0_init wsX0_init { frames := 1, cells := 1, slots := 4, locals := 12 } [.ref q] (dC, dI) vwCl tys G w (fun q9 : Nat => (w.set i (q, .inr (0, [.int 0, .ref q9]))) ++ [(q9, .inl (c0, 4, .inr (.inl (fun _ => 0))))]) (fun _ => tys) 1 4 := by
  refine kq_ofI (cc := cX0_init) (maxL := 1) (R0 := RX0) (by decide) rfl rfl rfl (Nat.le_of_ble_eq_true rfl) ?_
  intro p e s m below meth c A ls hx hb hr hlk hml hown hts hP hK hD hA hG hS hl hnm
  have hl : lv_has ls 1 [(0, .ref q)] := hl
  have hi : i < w.length := (List.getElem?_eq_some_iff.mp hw).1
  refine lv_aload_n hx hb dX0_init_0 rfl (lv_at hl 0 rfl) ?_
  refine tm_objI hx hb hown hts mb_74 mb_21 mb_oinit (by rw [hml]; exact hl.1) dX0_init_1 (Nat.le_of_ble_eq_true rfl) (Nat.le_of_ble_eq_true rfl) ?_
  refine lv_aload_n hx hb dX0_init_4 rfl (lv_at hl 0 rfl) ?_
  refine lv_iconst (v := (nI 4)) hx hb dX0_init_5 (by decide) ?_
  refine va_newa (atype := .long) (ty := .long) (N' := 4) (a0 := (4, .inr (.inl (fun _ => 0)))) hx hb (hts _ mb_69) rfl hK hP hD hS hA (fun _ => rfl) (by decide) (nI_clamp (by decide)) (by decide) (Nat.le_of_ble_eq_true rfl) (Nat.le_of_ble_eq_true rfl) dX0_init_6 (fun q9 cA H hK9 hP hD hS => ?_)
  rw [show cA = c0 from tm_sameK (fun C h => by cases h) hK9 (i := 0) h0] at hP hD
  refine va_putF (D := (dC, dI)) (ci := 0) (ty := .array .long) (C := RX0) (T := TX0) (N := 2) hx hb hts inB_X0 tyX0 tyX0_ok nmX0 hown hK hP hD hS i (by rw [List.getElem?_append_left hi]; exact hw) rfl 1 (by decide) (hts _ mb_77) (fun _ h9 => h9) rfl hnm rfl (by decide +kernel) rfl rfl (Nat.le_of_ble_eq_true rfl) dX0_init_8 (fun H locs hP hD hS => ?_)
  have e9 : ∀ x : Nat × va_E, (w ++ [(q9, Sum.inl (c0, 4, Sum.inr (Sum.inl (fun _ => 0))))]).set i x = w.set i x ++ [(q9, Sum.inl (c0, 4, Sum.inr (Sum.inl (fun _ => 0))))] := fun x => List.set_append_left _ _ hi
  rw [e9] at hP hD
  exact kq_vretX q9 hx hb hr hlk hP hD hS hK dX0_init_11
def tm_sf (sd : Int32) : Nat → Int64 := vp_updL (vp_updL (vp_updL (fun _ => 0) 0 (tm_h (sd.toInt64) ((nI 0).toInt64))) 1 (tm_h (sd.toInt64) ((nI 1).toInt64))) 2 (tm_h (sd.toInt64) ((nI 2).toInt64))
def tm_u1 (sd : Int32) : tm_S := (fun x i => if x = 0 then tm_sf sd i else 0, fun _ _ => 0, fun _ => 0)
def tc_L (a : Nat → Nat) (cx : Nat → ClassId) (sd : Int32) : va_W := [((a 0), .inr (4, [.ref (a 1), .ref (a 2), .ref (a 3), .ref (a 4), .ref (a 5), .ref (a 6), .int 0, .long 0, .int 0, .int 0, .int 0, .int 0, .double 0, .double 0, .double 0])), ((a 1), .inl ((cx 0), 3, .inr (.inl (tm_sf sd)))), ((a 2), .inl ((cx 1), 2, .inr (.inr (.inr (.inr (fun i => if i < 2 then some (a (i + 7)) else none)))))), ((a 7), .inl ((cx 0), 8, .inr (.inl (fun _ => 0)))), ((a 8), .inl ((cx 0), 8, .inr (.inl (fun _ => 0)))), ((a 3), .inl ((cx 2), 4, .inr (.inr (.inr (.inr (va_up (va_up (va_up (va_up (fun _ => none) 0 (some (a 9))) 1 (some (a 10))) 2 (some (a 11))) 3 (some (a 12)))))))), ((a 4), .inl ((cx 3), 8, .inr (.inr (.inr (.inr (va_up (va_up (va_up (va_up (va_up (va_up (va_up (va_up (fun _ => none) 0 (some (a 13))) 1 (some (a 14))) 2 (some (a 15))) 3 (some (a 16))) 4 (some (a 17))) 5 (some (a 18))) 6 (some (a 19))) 7 (some (a 20)))))))), ((a 5), .inl ((cx 4), 3, .inr (.inr (.inr (.inr (va_up (va_up (va_up (fun _ => none) 0 (some (a 29))) 1 (some (a 30))) 2 (some (a 31)))))))), ((a 6), .inl ((cx 5), 4, .inr (.inr (.inr (.inr (va_up (va_up (va_up (va_up (fun _ => none) 0 (some (a 32))) 1 (some (a 33))) 2 (some (a 34))) 3 (some (a 35)))))))), ((a 9), .inr (2, [.int 0, .long 0, .int 0, .long 0, .long 0, .int 0])), ((a 10), .inr (2, [.int 0, .long 0, .int 0, .long 0, .long 0, .int 0])), ((a 11), .inr (2, [.int 0, .long 0, .int 0, .long 0, .long 0, .int 0])), ((a 12), .inr (2, [.int 0, .long 0, .int 0, .long 0, .long 0, .int 0])), ((a 13), .inr (0, [.int 0, .ref (a 21)])), ((a 21), .inl ((cx 0), 4, .inr (.inl (fun _ => 0)))), ((a 14), .inr (0, [.int 0, .ref (a 22)])), ((a 22), .inl ((cx 0), 4, .inr (.inl (fun _ => 0)))), ((a 15), .inr (0, [.int 0, .ref (a 23)])), ((a 23), .inl ((cx 0), 4, .inr (.inl (fun _ => 0)))), ((a 16), .inr (0, [.int 0, .ref (a 24)])), ((a 24), .inl ((cx 0), 4, .inr (.inl (fun _ => 0)))), ((a 17), .inr (0, [.int 0, .ref (a 25)])), ((a 25), .inl ((cx 0), 4, .inr (.inl (fun _ => 0)))), ((a 18), .inr (0, [.int 0, .ref (a 26)])), ((a 26), .inl ((cx 0), 4, .inr (.inl (fun _ => 0)))), ((a 19), .inr (0, [.int 0, .ref (a 27)])), ((a 27), .inl ((cx 0), 4, .inr (.inl (fun _ => 0)))), ((a 20), .inr (0, [.int 0, .ref (a 28)])), ((a 28), .inl ((cx 0), 4, .inr (.inl (fun _ => 0)))), ((a 29), .inr (3, [.long 0, .int 0, .int 0])), ((a 30), .inr (3, [.long 0, .int 0, .int 0])), ((a 31), .inr (3, [.long 0, .int 0, .int 0])), ((a 32), .inr (1, [.int 0, .int 0, .long 0, .int 0, .long 0])), ((a 33), .inr (1, [.int 0, .int 0, .long 0, .int 0, .long 0])), ((a 34), .inr (1, [.int 0, .int 0, .long 0, .int 0, .long 0])), ((a 35), .inr (1, [.int 0, .int 0, .long 0, .int 0, .long 0]))]
def tc_pi : Nat → Nat := fun k => [0, 1, 2, 5, 6, 7, 8, 3, 4, 9, 10, 11, 12, 13, 15, 17, 19, 21, 23, 25, 27, 14, 16, 18, 20, 22, 24, 26, 28, 29, 30, 31, 32, 33, 34, 35].getD k 0
theorem tc_m2 (a : Nat → Nat) : ∀ j, j < 2 → va_rf (some (a (j + 7))) = va_rf ((fun i => if i < 2 then some (a (i + 7)) else none) j) := by
  intro j hj
  match j, hj with
  | 0, _ => rfl
  | 1, _ => rfl
theorem tc_m3 (a : Nat → Nat) : ∀ j, j < 4 → va_rf (some (a (j + 9))) = va_rf ((va_up (va_up (va_up (va_up (fun _ => none) 0 (some (a 9))) 1 (some (a 10))) 2 (some (a 11))) 3 (some (a 12))) j) := by
  intro j hj
  match j, hj with
  | 0, _ => rfl
  | 1, _ => rfl
  | 2, _ => rfl
  | 3, _ => rfl
theorem tc_m4 (a : Nat → Nat) : ∀ j, j < 8 → va_rf (some (a (j + 13))) = va_rf ((va_up (va_up (va_up (va_up (va_up (va_up (va_up (va_up (fun _ => none) 0 (some (a 13))) 1 (some (a 14))) 2 (some (a 15))) 3 (some (a 16))) 4 (some (a 17))) 5 (some (a 18))) 6 (some (a 19))) 7 (some (a 20))) j) := by
  intro j hj
  match j, hj with
  | 0, _ => rfl
  | 1, _ => rfl
  | 2, _ => rfl
  | 3, _ => rfl
  | 4, _ => rfl
  | 5, _ => rfl
  | 6, _ => rfl
  | 7, _ => rfl
theorem tc_m5 (a : Nat → Nat) : ∀ j, j < 3 → va_rf (some (a (j + 29))) = va_rf ((va_up (va_up (va_up (fun _ => none) 0 (some (a 29))) 1 (some (a 30))) 2 (some (a 31))) j) := by
  intro j hj
  match j, hj with
  | 0, _ => rfl
  | 1, _ => rfl
  | 2, _ => rfl
theorem tc_m6 (a : Nat → Nat) : ∀ j, j < 4 → va_rf (some (a (j + 32))) = va_rf ((va_up (va_up (va_up (va_up (fun _ => none) 0 (some (a 32))) 1 (some (a 33))) 2 (some (a 34))) 3 (some (a 35))) j) := by
  intro j hj
  match j, hj with
  | 0, _ => rfl
  | 1, _ => rfl
  | 2, _ => rfl
  | 3, _ => rfl
theorem tc_inj : ∀ i, i < 36 → ∀ j, j < 36 → tc_pi i = tc_pi j → i = j := by decide +kernel
def tm_u0 (sd : Int32) : tm_S := (tm_D (tm_L (tm_I (tm_I (tm_L (tm_I (tm_I (tm_L (tm_I (tm_I (tm_L (tm_I (tm_I (tm_I (tm_I (tm_I (tm_L (tm_L (tm_L (tm_L (tm_L (tm_L (tm_L (tm_L (tm_L (tm_L (tm_L (tm_L (tm_L (tm_L (tm_L (tm_L (tm_I (tm_I (tm_D (tm_u1 sd) 2 FP.dconst1) 10 0 (-1)) 11 0 (nI 0)) 1 (8 * 0 + 0) 0) 1 (8 * 0 + 1) 0) 1 (8 * 0 + 2) 0) 1 (8 * 0 + 3) 0) 1 (8 * 0 + 4) 0) 1 (8 * 0 + 5) 0) 1 (8 * 0 + 6) 0) 1 (8 * 0 + 7) 0) 1 (8 * 1 + 0) 0) 1 (8 * 1 + 1) 0) 1 (8 * 1 + 2) 0) 1 (8 * 1 + 3) 0) 1 (8 * 1 + 4) 0) 1 (8 * 1 + 5) 0) 1 (8 * 1 + 6) 0) 1 (8 * 1 + 7) 0) 9 0 (nI 0)) 0 0 (nI 0)) 0 1 (nI 0)) 0 2 (nI 0)) 0 3 (nI 0)) 6 0 0) 4 0 (nI 0)) 5 0 (nI 0)) 6 1 0) 4 1 (nI 0)) 5 1 (nI 0)) 6 2 0) 4 2 (nI 0)) 5 2 (nI 0)) 0 2 (tm_h ((tm_u1 sd).1 0 2) 5)) 0 ((tm_u1 sd).2.2 1))
/-- the first address is b -/
def tm_ab (b : Nat) (a : Nat → Nat) : Nat → Nat := fun i => if i = 0 then b else a i
theorem tm_ab0 (a : Nat → Nat) : tm_ab (a 0) a = a := by
  funext i
  unfold tm_ab
  by_cases h : i = 0
  · rw [if_pos h, h]
  · rw [if_neg h]
end S25
