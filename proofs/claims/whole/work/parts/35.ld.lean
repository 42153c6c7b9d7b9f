section S35
variable {l : Launch} {dC : Nat → ClassId} {dI : Nat → Nat → Nat} {gs : Nat → Nat} {ad : Nat → Nat} {cc cr : Nat → ClassId} {cd : ClassId}
set_option maxHeartbeats 8000000 in
set_option maxRecDepth 100000 in
theorem lc_define {p : Program} {l : Launch} {e : Env} {s : State} {m : MethodId} {below : List Frame} {meth : Method} {c : Code} {Q : State → Prop} {b L : Nat} {xs : Nat → Int32} {u v : tm_S} {o : Int64 × UInt64} {H : Heap} {locs : List Loc} {cells slots : Nat} {ls : Array Slot} {i : Nat}
    (hl9 : l.stackTraces = false) (hx : p.tables.exec = Jvm.exec) (hb : c.code = code) (hml : c.maxLocals = 10) (hown : s.vm.findClass RL = some m.cls) (hts : ∀ w ∈ tm_B, w.before #[Value.ref b] s = true) (hT : va_T .int b L (fun j => .int (xs j)) (fun q : Nat => s.heap.size ≤ q) s s.heap) (hL : L ≤ 4097)
    (hK : va_K (dC, dI) vwCl (tl_ty cc cr cd) s) (hG : tm_G gs (fun q : Nat => s.heap.size ≤ q) s) (hi : i + 8 ≤ L) (hR : tm_R u v) (hP : va_P (dC, dI) vwCl (tl_w ad cc cr cd u v o) H) (hD : va_D (fun q : Nat => s.heap.size ≤ q) (tl_w ad cc cr cd u v o)) (hS : va_S (fun q : Nat => s.heap.size ≤ q) s.heap H locs)
    (hl : lv_has ls 10 [(0, .ref b), (1, .ref (ad 0)), (2, .ref (ad 36)), (3, .ref (ad 55)), (4, .ref (ad 56)), (5, .int (nI i))]) (hc : cells + 1 ≤ 667648) (hs : slots + 6 ≤ 7093125)
    (kk : ∀ (u v : tm_S) (o : Int64 × UInt64) (H : Heap) (locs : List Loc) (ls : Array Slot), tm_R u v → va_P (dC, dI) vwCl (tl_w ad cc cr cd u v o) H → va_D (fun q : Nat => s.heap.size ≤ q) (tl_w ad cc cr cd u v o) → va_S (fun q : Nat => s.heap.size ≤ q) s.heap H locs → lv_has ls 10 [(0, .ref b), (1, .ref (ad 0)), (2, .ref (ad 36)), (3, .ref (ad 55)), (4, .ref (ad 56)), (5, .int (nI i))] → W p l e room_1 s m #[Value.ref b] below meth c H locs (cells + 1) (slots + 6) Q (F0 m 1778 ls [])) :
    W p l e room_1 s m #[Value.ref b] below meth c H locs cells slots Q (F0 m 1222 ls []) := by
  by_cases hz : xs (i + 2) = 0
  · obtain ⟨k, u, v1, o, hW, hRf, hth, hR⟩ := op_define (dC := dC) (dI := dI) (gs := gs) (ad := ad) (cc := cc) (cr := cr) (cd := cd) hl9 o hR (xs (i + 1)) (nI 0) ((((xs (i + 3)).toInt64) <<< ((nI 32).toInt64 &&& 63)) ||| (((xs (i + 4)).toInt64) &&& 4294967295)) (by first | exact Or.inl rfl | exact Or.inr rfl)
    refine lv_aload_n hx hb dL_law_1222 rfl (lv_at hl 1 rfl) ?_
    refine lv_aload_n hx hb dL_law_1223 rfl (lv_at hl 0 rfl) ?_
    refine lv_iload hx hb dL_law_1224 (lv_at hl 5 rfl) ?_
    refine lv_iconst (v := (nI 1)) hx hb dL_law_1226 (by decide) ?_
    refine lv_iadd hx hb dL_law_1227 ?_
    refine kq_ti (y := (nI (i + 1))) (nI_add i 1) ?_
    refine ks_ld hx hb hT hS hL (j := i + 1) (by omega) dL_law_1228 ?_
    refine lv_aload_n hx hb dL_law_1229 rfl (lv_at hl 0 rfl) ?_
    refine lv_iload hx hb dL_law_1230 (lv_at hl 5 rfl) ?_
    refine lv_iconst (v := (nI 2)) hx hb dL_law_1232 (by decide) ?_
    refine lv_iadd hx hb dL_law_1233 ?_
    refine kq_ti (y := (nI (i + 2))) (nI_add i 2) ?_
    refine ks_ld hx hb hT hS hL (j := i + 2) (by omega) dL_law_1234 ?_
    refine lv_if_eq (tgt := 1242) hx hb dL_law_1235 (by decide) (fun _ => ?_) (fun c => absurd hz c)
    refine lv_iconst (v := (nI 0)) hx hb dL_law_1242 (by decide) ?_
    refine lv_aload_n hx hb dL_law_1243 rfl (lv_at hl 0 rfl) ?_
    refine lv_iload hx hb dL_law_1244 (lv_at hl 5 rfl) ?_
    refine lv_iconst (v := (nI 3)) hx hb dL_law_1246 (by decide) ?_
    refine lv_iadd hx hb dL_law_1247 ?_
    refine kq_ti (y := (nI (i + 3))) (nI_add i 3) ?_
    refine ks_ld hx hb hT hS hL (j := i + 3) (by omega) dL_law_1248 ?_
    refine lv_i2l (v := (xs (i + 3)).toInt64) hx hb dL_law_1249 rfl ?_
    refine lv_bipush (v := (nI 32)) hx hb dL_law_1250 (by decide) ?_
    refine lv_lshl (v := ((xs (i + 3)).toInt64) <<< ((nI 32).toInt64 &&& 63)) hx hb dL_law_1252 rfl ?_
    refine lv_aload_n hx hb dL_law_1253 rfl (lv_at hl 0 rfl) ?_
    refine lv_iload hx hb dL_law_1254 (lv_at hl 5 rfl) ?_
    refine lv_iconst (v := (nI 4)) hx hb dL_law_1256 (by decide) ?_
    refine lv_iadd hx hb dL_law_1257 ?_
    refine kq_ti (y := (nI (i + 4))) (nI_add i 4) ?_
    refine ks_ld hx hb hT hS hL (j := i + 4) (by omega) dL_law_1258 ?_
    refine lv_i2l (v := (xs (i + 4)).toInt64) hx hb dL_law_1259 rfl ?_
    refine lv_ldc2 hx hb hown (hts _ mb_856) dL_law_1260 ?_
    refine lv_land hx hb dL_law_1263 ?_
    refine lv_lor hx hb dL_law_1264 ?_
    refine kq_call (st1 := [.int k]) (vx_runSW (hh := [(0, 7, 10, 13), (0, 7, 14, 19)]) ⟨hx, hb, hml, hown, hts⟩ (hW (fun q : Nat => s.heap.size ≤ q)) (vx_cwSW 4 hts gL_155_L_define rfl rfl rfl (by decide +kernel) ⟨Nat.le_of_ble_eq_true rfl, Nat.le_of_ble_eq_true rfl⟩) ⟨kq_blind tm_Gok, kq_pre hK hP hD (fun _ h => h) tm_Gok hG hS⟩ rfl rfl hl.1 rfl (lv_room (Nat.le_of_ble_eq_true rfl)) dL_law_1265 ⟨hc, hs⟩) hS rfl (fun H locs hP hD hS => ?_)
    refine lv_istore (lv' := [(6, .int k), (0, .ref b), (1, .ref (ad 0)), (2, .ref (ad 36)), (3, .ref (ad 55)), (4, .ref (ad 56)), (5, .int (nI i))]) hx hb dL_law_1268 hl (by decide) rfl (fun ls hl => ?_)
    refine lv_aload_n hx hb dL_law_1270 rfl (lv_at hl 3 rfl) ?_
    refine lv_aload_n hx hb dL_law_1271 rfl (lv_at hl 1 rfl) ?_
    refine lv_iload hx hb dL_law_1272 (lv_at hl 6 rfl) ?_
    refine lv_iconst (v := (nI 1)) hx hb dL_law_1274 (by decide) ?_
    refine lv_iadd hx hb dL_law_1275 ?_
    refine kq_ti (y := (nI (i + 1))) (nI_add i 1) ?_
    refine ks_ld hx hb hT hS hL (j := i + 1) (by omega) dL_law_1276 ?_
    refine lv_aload_n hx hb dL_law_1277 rfl (lv_at hl 1 rfl) ?_
    refine lv_iload hx hb dL_law_1278 (lv_at hl 6 rfl) ?_
    refine lv_iconst (v := (nI 2)) hx hb dL_law_1280 (by decide) ?_
    refine lv_iadd hx hb dL_law_1281 ?_
    refine kq_ti (y := (nI (i + 2))) (nI_add i 2) ?_
    refine ks_ld hx hb hT hS hL (j := i + 2) (by omega) dL_law_1282 ?_
    refine lv_if_eq (tgt := 1290) hx hb dL_law_1283 (by decide) (fun _ => ?_) (fun c => absurd hz c)
    refine lv_iconst (v := (nI 0)) hx hb dL_law_1290 (by decide) ?_
    refine lv_aload_n hx hb dL_law_1291 rfl (lv_at hl 1 rfl) ?_
    refine lv_iload hx hb dL_law_1292 (lv_at hl 6 rfl) ?_
    refine lv_iconst (v := (nI 3)) hx hb dL_law_1294 (by decide) ?_
    refine lv_iadd hx hb dL_law_1295 ?_
    refine kq_ti (y := (nI (i + 3))) (nI_add i 3) ?_
    refine ks_ld hx hb hT hS hL (j := i + 3) (by omega) dL_law_1296 ?_
    refine lv_i2l (v := (xs (i + 3)).toInt64) hx hb dL_law_1297 rfl ?_
    refine lv_bipush (v := (nI 32)) hx hb dL_law_1298 (by decide) ?_
    refine lv_lshl (v := ((xs (i + 3)).toInt64) <<< ((nI 32).toInt64 &&& 63)) hx hb dL_law_1300 rfl ?_
    refine lv_aload_n hx hb dL_law_1301 rfl (lv_at hl 1 rfl) ?_
    refine lv_iload hx hb dL_law_1302 (lv_at hl 6 rfl) ?_
    refine lv_iconst (v := (nI 4)) hx hb dL_law_1304 (by decide) ?_
    refine lv_iadd hx hb dL_law_1305 ?_
    refine kq_ti (y := (nI (i + 4))) (nI_add i 4) ?_
    refine ks_ld hx hb hT hS hL (j := i + 4) (by omega) dL_law_1306 ?_
    refine lv_i2l (v := (xs (i + 4)).toInt64) hx hb dL_law_1307 rfl ?_
    refine lv_ldc2 hx hb hown (hts _ mb_856) dL_law_1308 ?_
    refine lv_land hx hb dL_law_1311 ?_
    refine lv_lor hx hb dL_law_1312 ?_
    refine kl_rV (st1 := []) ⟨hx, hb, hml, hown, hts⟩ hRf (cwV 3 hts gL_158_X5_define rfl rfl rfl (by decide +kernel) ⟨Nat.le_of_ble_eq_true rfl, Nat.le_of_ble_eq_true rfl⟩) hK hP hD (fun _ h => h) hS rfl hl.1 rfl rfl (Nat.le_of_ble_eq_true rfl) dL_law_1313 ⟨hc, hs⟩ (fun H locs hP hD hS => ?_)
    refine lv_aload_n hx hb dL_law_1316 rfl (lv_at hl 3 rfl) ?_
    refine kl_rV (st1 := [.int (v1.2.1 14 0)]) ⟨hx, hb, hml, hown, hts⟩ (r_thrown v1) (cwV 0 hts gL_106_X5_thrown rfl rfl rfl (by decide +kernel) ⟨Nat.le_of_ble_eq_true rfl, Nat.le_of_ble_eq_true rfl⟩) hK hP hD (fun _ h => h) hS rfl hl.1 rfl rfl (Nat.le_of_ble_eq_true rfl) dL_law_1317 ⟨hc, hs⟩ (fun H locs hP hD hS => ?_)
    refine lv_iload hx hb dL_law_1320 (lv_at hl 0 rfl) ?_
    refine lv_icmp_eq (tgt := 1327) hx hb dL_law_1322 (by decide) (fun _ => ?_) (fun c => absurd hth c)
    refine lv_goto (tgt := 1778) hx hb dL_law_1327 (by decide) ?_
    exact kk u v1 o H locs ls hR hP hD hS (lv_sub hl [1, 2, 3, 4, 5, 6] rfl)
  · obtain ⟨k, u, v1, o, hW, hRf, hth, hR⟩ := op_define (dC := dC) (dI := dI) (gs := gs) (ad := ad) (cc := cc) (cr := cr) (cd := cd) hl9 o hR (xs (i + 1)) (nI 1) ((((xs (i + 3)).toInt64) <<< ((nI 32).toInt64 &&& 63)) ||| (((xs (i + 4)).toInt64) &&& 4294967295)) (by first | exact Or.inl rfl | exact Or.inr rfl)
    refine lv_aload_n hx hb dL_law_1222 rfl (lv_at hl 1 rfl) ?_
    refine lv_aload_n hx hb dL_law_1223 rfl (lv_at hl 0 rfl) ?_
    refine lv_iload hx hb dL_law_1224 (lv_at hl 5 rfl) ?_
    refine lv_iconst (v := (nI 1)) hx hb dL_law_1226 (by decide) ?_
    refine lv_iadd hx hb dL_law_1227 ?_
    refine kq_ti (y := (nI (i + 1))) (nI_add i 1) ?_
    refine ks_ld hx hb hT hS hL (j := i + 1) (by omega) dL_law_1228 ?_
    refine lv_aload_n hx hb dL_law_1229 rfl (lv_at hl 0 rfl) ?_
    refine lv_iload hx hb dL_law_1230 (lv_at hl 5 rfl) ?_
    refine lv_iconst (v := (nI 2)) hx hb dL_law_1232 (by decide) ?_
    refine lv_iadd hx hb dL_law_1233 ?_
    refine kq_ti (y := (nI (i + 2))) (nI_add i 2) ?_
    refine ks_ld hx hb hT hS hL (j := i + 2) (by omega) dL_law_1234 ?_
    refine lv_if_eq (tgt := 1242) hx hb dL_law_1235 (by decide) (fun c => absurd c hz) (fun _ => ?_)
    refine lv_iconst (v := (nI 1)) hx hb dL_law_1238 (by decide) ?_
    refine lv_goto (tgt := 1243) hx hb dL_law_1239 (by decide) ?_
    refine lv_aload_n hx hb dL_law_1243 rfl (lv_at hl 0 rfl) ?_
    refine lv_iload hx hb dL_law_1244 (lv_at hl 5 rfl) ?_
    refine lv_iconst (v := (nI 3)) hx hb dL_law_1246 (by decide) ?_
    refine lv_iadd hx hb dL_law_1247 ?_
    refine kq_ti (y := (nI (i + 3))) (nI_add i 3) ?_
    refine ks_ld hx hb hT hS hL (j := i + 3) (by omega) dL_law_1248 ?_
    refine lv_i2l (v := (xs (i + 3)).toInt64) hx hb dL_law_1249 rfl ?_
    refine lv_bipush (v := (nI 32)) hx hb dL_law_1250 (by decide) ?_
    refine lv_lshl (v := ((xs (i + 3)).toInt64) <<< ((nI 32).toInt64 &&& 63)) hx hb dL_law_1252 rfl ?_
    refine lv_aload_n hx hb dL_law_1253 rfl (lv_at hl 0 rfl) ?_
    refine lv_iload hx hb dL_law_1254 (lv_at hl 5 rfl) ?_
    refine lv_iconst (v := (nI 4)) hx hb dL_law_1256 (by decide) ?_
    refine lv_iadd hx hb dL_law_1257 ?_
    refine kq_ti (y := (nI (i + 4))) (nI_add i 4) ?_
    refine ks_ld hx hb hT hS hL (j := i + 4) (by omega) dL_law_1258 ?_
    refine lv_i2l (v := (xs (i + 4)).toInt64) hx hb dL_law_1259 rfl ?_
    refine lv_ldc2 hx hb hown (hts _ mb_856) dL_law_1260 ?_
    refine lv_land hx hb dL_law_1263 ?_
    refine lv_lor hx hb dL_law_1264 ?_
    refine kq_call (st1 := [.int k]) (vx_runSW (hh := [(0, 7, 10, 13), (0, 7, 14, 19)]) ⟨hx, hb, hml, hown, hts⟩ (hW (fun q : Nat => s.heap.size ≤ q)) (vx_cwSW 4 hts gL_155_L_define rfl rfl rfl (by decide +kernel) ⟨Nat.le_of_ble_eq_true rfl, Nat.le_of_ble_eq_true rfl⟩) ⟨kq_blind tm_Gok, kq_pre hK hP hD (fun _ h => h) tm_Gok hG hS⟩ rfl rfl hl.1 rfl (lv_room (Nat.le_of_ble_eq_true rfl)) dL_law_1265 ⟨hc, hs⟩) hS rfl (fun H locs hP hD hS => ?_)
    refine lv_istore (lv' := [(6, .int k), (0, .ref b), (1, .ref (ad 0)), (2, .ref (ad 36)), (3, .ref (ad 55)), (4, .ref (ad 56)), (5, .int (nI i))]) hx hb dL_law_1268 hl (by decide) rfl (fun ls hl => ?_)
    refine lv_aload_n hx hb dL_law_1270 rfl (lv_at hl 3 rfl) ?_
    refine lv_aload_n hx hb dL_law_1271 rfl (lv_at hl 1 rfl) ?_
    refine lv_iload hx hb dL_law_1272 (lv_at hl 6 rfl) ?_
    refine lv_iconst (v := (nI 1)) hx hb dL_law_1274 (by decide) ?_
    refine lv_iadd hx hb dL_law_1275 ?_
    refine kq_ti (y := (nI (i + 1))) (nI_add i 1) ?_
    refine ks_ld hx hb hT hS hL (j := i + 1) (by omega) dL_law_1276 ?_
    refine lv_aload_n hx hb dL_law_1277 rfl (lv_at hl 1 rfl) ?_
    refine lv_iload hx hb dL_law_1278 (lv_at hl 6 rfl) ?_
    refine lv_iconst (v := (nI 2)) hx hb dL_law_1280 (by decide) ?_
    refine lv_iadd hx hb dL_law_1281 ?_
    refine kq_ti (y := (nI (i + 2))) (nI_add i 2) ?_
    refine ks_ld hx hb hT hS hL (j := i + 2) (by omega) dL_law_1282 ?_
    refine lv_if_eq (tgt := 1290) hx hb dL_law_1283 (by decide) (fun c => absurd c hz) (fun _ => ?_)
    refine lv_iconst (v := (nI 1)) hx hb dL_law_1286 (by decide) ?_
    refine lv_goto (tgt := 1291) hx hb dL_law_1287 (by decide) ?_
    refine lv_aload_n hx hb dL_law_1291 rfl (lv_at hl 1 rfl) ?_
    refine lv_iload hx hb dL_law_1292 (lv_at hl 6 rfl) ?_
    refine lv_iconst (v := (nI 3)) hx hb dL_law_1294 (by decide) ?_
    refine lv_iadd hx hb dL_law_1295 ?_
    refine kq_ti (y := (nI (i + 3))) (nI_add i 3) ?_
    refine ks_ld hx hb hT hS hL (j := i + 3) (by omega) dL_law_1296 ?_
    refine lv_i2l (v := (xs (i + 3)).toInt64) hx hb dL_law_1297 rfl ?_
    refine lv_bipush (v := (nI 32)) hx hb dL_law_1298 (by decide) ?_
    refine lv_lshl (v := ((xs (i + 3)).toInt64) <<< ((nI 32).toInt64 &&& 63)) hx hb dL_law_1300 rfl ?_
    refine lv_aload_n hx hb dL_law_1301 rfl (lv_at hl 1 rfl) ?_
    refine lv_iload hx hb dL_law_1302 (lv_at hl 6 rfl) ?_
    refine lv_iconst (v := (nI 4)) hx hb dL_law_1304 (by decide) ?_
    refine lv_iadd hx hb dL_law_1305 ?_
    refine kq_ti (y := (nI (i + 4))) (nI_add i 4) ?_
    refine ks_ld hx hb hT hS hL (j := i + 4) (by omega) dL_law_1306 ?_
    refine lv_i2l (v := (xs (i + 4)).toInt64) hx hb dL_law_1307 rfl ?_
    refine lv_ldc2 hx hb hown (hts _ mb_856) dL_law_1308 ?_
    refine lv_land hx hb dL_law_1311 ?_
    refine lv_lor hx hb dL_law_1312 ?_
    refine kl_rV (st1 := []) ⟨hx, hb, hml, hown, hts⟩ hRf (cwV 3 hts gL_158_X5_define rfl rfl rfl (by decide +kernel) ⟨Nat.le_of_ble_eq_true rfl, Nat.le_of_ble_eq_true rfl⟩) hK hP hD (fun _ h => h) hS rfl hl.1 rfl rfl (Nat.le_of_ble_eq_true rfl) dL_law_1313 ⟨hc, hs⟩ (fun H locs hP hD hS => ?_)
    refine lv_aload_n hx hb dL_law_1316 rfl (lv_at hl 3 rfl) ?_
    refine kl_rV (st1 := [.int (v1.2.1 14 0)]) ⟨hx, hb, hml, hown, hts⟩ (r_thrown v1) (cwV 0 hts gL_106_X5_thrown rfl rfl rfl (by decide +kernel) ⟨Nat.le_of_ble_eq_true rfl, Nat.le_of_ble_eq_true rfl⟩) hK hP hD (fun _ h => h) hS rfl hl.1 rfl rfl (Nat.le_of_ble_eq_true rfl) dL_law_1317 ⟨hc, hs⟩ (fun H locs hP hD hS => ?_)
    refine lv_iload hx hb dL_law_1320 (lv_at hl 0 rfl) ?_
    refine lv_icmp_eq (tgt := 1327) hx hb dL_law_1322 (by decide) (fun _ => ?_) (fun c => absurd hth c)
    refine lv_goto (tgt := 1778) hx hb dL_law_1327 (by decide) ?_
    exact kk u v1 o H locs ls hR hP hD hS (lv_sub hl [1, 2, 3, 4, 5, 6] rfl)
set_option maxHeartbeats 8000000 in
set_option maxRecDepth 100000 in
theorem lc_remove {p : Program} {l : Launch} {e : Env} {s : State} {m : MethodId} {below : List Frame} {meth : Method} {c : Code} {Q : State → Prop} {b L : Nat} {xs : Nat → Int32} {u v : tm_S} {o : Int64 × UInt64} {H : Heap} {locs : List Loc} {cells slots : Nat} {ls : Array Slot} {i : Nat}
    (hl9 : l.stackTraces = false) (hx : p.tables.exec = Jvm.exec) (hb : c.code = code) (hml : c.maxLocals = 10) (hown : s.vm.findClass RL = some m.cls) (hts : ∀ w ∈ tm_B, w.before #[Value.ref b] s = true) (hT : va_T .int b L (fun j => .int (xs j)) (fun q : Nat => s.heap.size ≤ q) s s.heap) (hL : L ≤ 4097)
    (hK : va_K (dC, dI) vwCl (tl_ty cc cr cd) s) (hG : tm_G gs (fun q : Nat => s.heap.size ≤ q) s) (hi : i + 8 ≤ L) (hR : tm_R u v) (hP : va_P (dC, dI) vwCl (tl_w ad cc cr cd u v o) H) (hD : va_D (fun q : Nat => s.heap.size ≤ q) (tl_w ad cc cr cd u v o)) (hS : va_S (fun q : Nat => s.heap.size ≤ q) s.heap H locs)
    (hl : lv_has ls 10 [(0, .ref b), (1, .ref (ad 0)), (2, .ref (ad 36)), (3, .ref (ad 55)), (4, .ref (ad 56)), (5, .int (nI i))]) (hc : cells + 1 ≤ 667648) (hs : slots + 6 ≤ 7093125)
    (kk : ∀ (u v : tm_S) (o : Int64 × UInt64) (H : Heap) (locs : List Loc) (ls : Array Slot), tm_R u v → va_P (dC, dI) vwCl (tl_w ad cc cr cd u v o) H → va_D (fun q : Nat => s.heap.size ≤ q) (tl_w ad cc cr cd u v o) → va_S (fun q : Nat => s.heap.size ≤ q) s.heap H locs → lv_has ls 10 [(0, .ref b), (1, .ref (ad 0)), (2, .ref (ad 36)), (3, .ref (ad 55)), (4, .ref (ad 56)), (5, .int (nI i))] → W p l e room_1 s m #[Value.ref b] below meth c H locs (cells + 1) (slots + 6) Q (F0 m 1778 ls [])) :
    W p l e room_1 s m #[Value.ref b] below meth c H locs cells slots Q (F0 m 1330 ls []) := by
  obtain ⟨k, u, v1, o, hW, hRf, hth, hR⟩ := op_remove (dC := dC) (dI := dI) (gs := gs) (ad := ad) (cc := cc) (cr := cr) (cd := cd) hl9 o hR (xs (i + 1))
  refine lv_aload_n hx hb dL_law_1330 rfl (lv_at hl 1 rfl) ?_
  refine lv_aload_n hx hb dL_law_1331 rfl (lv_at hl 0 rfl) ?_
  refine lv_iload hx hb dL_law_1332 (lv_at hl 5 rfl) ?_
  refine lv_iconst (v := (nI 1)) hx hb dL_law_1334 (by decide) ?_
  refine lv_iadd hx hb dL_law_1335 ?_
  refine kq_ti (y := (nI (i + 1))) (nI_add i 1) ?_
  refine ks_ld hx hb hT hS hL (j := i + 1) (by omega) dL_law_1336 ?_
  refine kq_call (st1 := [.int k]) (vx_runSW (hh := [(0, 5, 8, 13), (0, 5, 11, 19), (0, 5, 14, 29)]) ⟨hx, hb, hml, hown, hts⟩ (hW (fun q : Nat => s.heap.size ≤ q)) (vx_cwSW 2 hts gL_159_L_remove rfl rfl rfl (by decide +kernel) ⟨Nat.le_of_ble_eq_true rfl, Nat.le_of_ble_eq_true rfl⟩) ⟨kq_blind tm_Gok, kq_pre hK hP hD (fun _ h => h) tm_Gok hG hS⟩ rfl rfl hl.1 rfl (lv_room (Nat.le_of_ble_eq_true rfl)) dL_law_1337 ⟨hc, hs⟩) hS rfl (fun H locs hP hD hS => ?_)
  refine lv_istore (lv' := [(6, .int k), (0, .ref b), (1, .ref (ad 0)), (2, .ref (ad 36)), (3, .ref (ad 55)), (4, .ref (ad 56)), (5, .int (nI i))]) hx hb dL_law_1340 hl (by decide) rfl (fun ls hl => ?_)
  refine lv_aload_n hx hb dL_law_1342 rfl (lv_at hl 3 rfl) ?_
  refine lv_aload_n hx hb dL_law_1343 rfl (lv_at hl 1 rfl) ?_
  refine lv_iload hx hb dL_law_1344 (lv_at hl 6 rfl) ?_
  refine lv_iconst (v := (nI 1)) hx hb dL_law_1346 (by decide) ?_
  refine lv_iadd hx hb dL_law_1347 ?_
  refine kq_ti (y := (nI (i + 1))) (nI_add i 1) ?_
  refine ks_ld hx hb hT hS hL (j := i + 1) (by omega) dL_law_1348 ?_
  refine kl_rV (st1 := []) ⟨hx, hb, hml, hown, hts⟩ hRf (cwV 1 hts gL_161_X5_remove rfl rfl rfl (by decide +kernel) ⟨Nat.le_of_ble_eq_true rfl, Nat.le_of_ble_eq_true rfl⟩) hK hP hD (fun _ h => h) hS rfl hl.1 rfl rfl (Nat.le_of_ble_eq_true rfl) dL_law_1349 ⟨hc, hs⟩ (fun H locs hP hD hS => ?_)
  refine lv_aload_n hx hb dL_law_1352 rfl (lv_at hl 3 rfl) ?_
  refine kl_rV (st1 := [.int (v1.2.1 14 0)]) ⟨hx, hb, hml, hown, hts⟩ (r_thrown v1) (cwV 0 hts gL_106_X5_thrown rfl rfl rfl (by decide +kernel) ⟨Nat.le_of_ble_eq_true rfl, Nat.le_of_ble_eq_true rfl⟩) hK hP hD (fun _ h => h) hS rfl hl.1 rfl rfl (Nat.le_of_ble_eq_true rfl) dL_law_1353 ⟨hc, hs⟩ (fun H locs hP hD hS => ?_)
  refine lv_iload hx hb dL_law_1356 (lv_at hl 0 rfl) ?_
  refine lv_icmp_eq (tgt := 1363) hx hb dL_law_1358 (by decide) (fun _ => ?_) (fun c => absurd hth c)
  refine lv_goto (tgt := 1778) hx hb dL_law_1363 (by decide) ?_
  exact kk u v1 o H locs ls hR hP hD hS (lv_sub hl [1, 2, 3, 4, 5, 6] rfl)
set_option maxHeartbeats 8000000 in
set_option maxRecDepth 100000 in
theorem lc_write {p : Program} {l : Launch} {e : Env} {s : State} {m : MethodId} {below : List Frame} {meth : Method} {c : Code} {Q : State → Prop} {b L : Nat} {xs : Nat → Int32} {u v : tm_S} {o : Int64 × UInt64} {H : Heap} {locs : List Loc} {cells slots : Nat} {ls : Array Slot} {i : Nat}
    (hl9 : l.stackTraces = false) (hx : p.tables.exec = Jvm.exec) (hb : c.code = code) (hml : c.maxLocals = 10) (hown : s.vm.findClass RL = some m.cls) (hts : ∀ w ∈ tm_B, w.before #[Value.ref b] s = true) (hT : va_T .int b L (fun j => .int (xs j)) (fun q : Nat => s.heap.size ≤ q) s s.heap) (hL : L ≤ 4097)
    (hK : va_K (dC, dI) vwCl (tl_ty cc cr cd) s) (hG : tm_G gs (fun q : Nat => s.heap.size ≤ q) s) (hi : i + 8 ≤ L) (hR : tm_R u v) (hP : va_P (dC, dI) vwCl (tl_w ad cc cr cd u v o) H) (hD : va_D (fun q : Nat => s.heap.size ≤ q) (tl_w ad cc cr cd u v o)) (hS : va_S (fun q : Nat => s.heap.size ≤ q) s.heap H locs)
    (hl : lv_has ls 10 [(0, .ref b), (1, .ref (ad 0)), (2, .ref (ad 36)), (3, .ref (ad 55)), (4, .ref (ad 56)), (5, .int (nI i))]) (hc : cells + 1 ≤ 667648) (hs : slots + 6 ≤ 7093125)
    (kk : ∀ (u v : tm_S) (o : Int64 × UInt64) (H : Heap) (locs : List Loc) (ls : Array Slot), tm_R u v → va_P (dC, dI) vwCl (tl_w ad cc cr cd u v o) H → va_D (fun q : Nat => s.heap.size ≤ q) (tl_w ad cc cr cd u v o) → va_S (fun q : Nat => s.heap.size ≤ q) s.heap H locs → lv_has ls 10 [(0, .ref b), (1, .ref (ad 0)), (2, .ref (ad 36)), (3, .ref (ad 55)), (4, .ref (ad 56)), (5, .int (nI i))] → W p l e room_1 s m #[Value.ref b] below meth c H locs (cells + 1) (slots + 6) Q (F0 m 1778 ls [])) :
    W p l e room_1 s m #[Value.ref b] below meth c H locs cells slots Q (F0 m 1366 ls []) := by
  obtain ⟨k, u, v1, o, b9, hW, hRf, hth, hout, hR⟩ := op_write (dC := dC) (dI := dI) (gs := gs) (ad := ad) (cc := cc) (cr := cr) (cd := cd) hl9 o hR (xs (i + 1)) (xs (i + 2)) ((((xs (i + 3)).toInt64) <<< ((nI 32).toInt64 &&& 63)) ||| (((xs (i + 4)).toInt64) &&& 4294967295))
  refine lv_aload_n hx hb dL_law_1366 rfl (lv_at hl 1 rfl) ?_
  refine lv_aload_n hx hb dL_law_1367 rfl (lv_at hl 0 rfl) ?_
  refine lv_iload hx hb dL_law_1368 (lv_at hl 5 rfl) ?_
  refine lv_iconst (v := (nI 1)) hx hb dL_law_1370 (by decide) ?_
  refine lv_iadd hx hb dL_law_1371 ?_
  refine kq_ti (y := (nI (i + 1))) (nI_add i 1) ?_
  refine ks_ld hx hb hT hS hL (j := i + 1) (by omega) dL_law_1372 ?_
  refine lv_aload_n hx hb dL_law_1373 rfl (lv_at hl 0 rfl) ?_
  refine lv_iload hx hb dL_law_1374 (lv_at hl 5 rfl) ?_
  refine lv_iconst (v := (nI 2)) hx hb dL_law_1376 (by decide) ?_
  refine lv_iadd hx hb dL_law_1377 ?_
  refine kq_ti (y := (nI (i + 2))) (nI_add i 2) ?_
  refine ks_ld hx hb hT hS hL (j := i + 2) (by omega) dL_law_1378 ?_
  refine lv_aload_n hx hb dL_law_1379 rfl (lv_at hl 0 rfl) ?_
  refine lv_iload hx hb dL_law_1380 (lv_at hl 5 rfl) ?_
  refine lv_iconst (v := (nI 3)) hx hb dL_law_1382 (by decide) ?_
  refine lv_iadd hx hb dL_law_1383 ?_
  refine kq_ti (y := (nI (i + 3))) (nI_add i 3) ?_
  refine ks_ld hx hb hT hS hL (j := i + 3) (by omega) dL_law_1384 ?_
  refine lv_i2l (v := (xs (i + 3)).toInt64) hx hb dL_law_1385 rfl ?_
  refine lv_bipush (v := (nI 32)) hx hb dL_law_1386 (by decide) ?_
  refine lv_lshl (v := ((xs (i + 3)).toInt64) <<< ((nI 32).toInt64 &&& 63)) hx hb dL_law_1388 rfl ?_
  refine lv_aload_n hx hb dL_law_1389 rfl (lv_at hl 0 rfl) ?_
  refine lv_iload hx hb dL_law_1390 (lv_at hl 5 rfl) ?_
  refine lv_iconst (v := (nI 4)) hx hb dL_law_1392 (by decide) ?_
  refine lv_iadd hx hb dL_law_1393 ?_
  refine kq_ti (y := (nI (i + 4))) (nI_add i 4) ?_
  refine ks_ld hx hb hT hS hL (j := i + 4) (by omega) dL_law_1394 ?_
  refine lv_i2l (v := (xs (i + 4)).toInt64) hx hb dL_law_1395 rfl ?_
  refine lv_ldc2 hx hb hown (hts _ mb_856) dL_law_1396 ?_
  refine lv_land hx hb dL_law_1399 ?_
  refine lv_lor hx hb dL_law_1400 ?_
  refine lv_aload_n hx hb dL_law_1401 rfl (lv_at hl 3 rfl) ?_
  refine kq_call (st1 := [.int k]) (vx_runSW (hh := [(0, 11, 14, 13), (0, 11, 18, 19), (0, 11, 22, 29), (0, 11, 26, 31)]) ⟨hx, hb, hml, hown, hts⟩ (hW (fun q : Nat => s.heap.size ≤ q)) (vx_cwSW 5 hts gL_162_L_write rfl rfl rfl (by decide +kernel) ⟨Nat.le_of_ble_eq_true rfl, Nat.le_of_ble_eq_true rfl⟩) ⟨kq_blind tm_Gok, kq_pre hK hP hD (fun _ h => h) tm_Gok hG hS⟩ rfl rfl hl.1 rfl (lv_room (Nat.le_of_ble_eq_true rfl)) dL_law_1402 ⟨hc, hs⟩) hS rfl (fun H locs hP hD hS => ?_)
  refine lv_istore (lv' := [(6, .int k), (0, .ref b), (1, .ref (ad 0)), (2, .ref (ad 36)), (3, .ref (ad 55)), (4, .ref (ad 56)), (5, .int (nI i))]) hx hb dL_law_1405 hl (by decide) rfl (fun ls hl => ?_)
  refine lv_aload_n hx hb dL_law_1407 rfl (lv_at hl 3 rfl) ?_
  refine lv_aload_n hx hb dL_law_1408 rfl (lv_at hl 1 rfl) ?_
  refine lv_iload hx hb dL_law_1409 (lv_at hl 6 rfl) ?_
  refine lv_iconst (v := (nI 1)) hx hb dL_law_1411 (by decide) ?_
  refine lv_iadd hx hb dL_law_1412 ?_
  refine kq_ti (y := (nI (i + 1))) (nI_add i 1) ?_
  refine ks_ld hx hb hT hS hL (j := i + 1) (by omega) dL_law_1413 ?_
  refine lv_aload_n hx hb dL_law_1414 rfl (lv_at hl 1 rfl) ?_
  refine lv_iload hx hb dL_law_1415 (lv_at hl 6 rfl) ?_
  refine lv_iconst (v := (nI 2)) hx hb dL_law_1417 (by decide) ?_
  refine lv_iadd hx hb dL_law_1418 ?_
  refine kq_ti (y := (nI (i + 2))) (nI_add i 2) ?_
  refine ks_ld hx hb hT hS hL (j := i + 2) (by omega) dL_law_1419 ?_
  refine lv_aload_n hx hb dL_law_1420 rfl (lv_at hl 1 rfl) ?_
  refine lv_iload hx hb dL_law_1421 (lv_at hl 6 rfl) ?_
  refine lv_iconst (v := (nI 3)) hx hb dL_law_1423 (by decide) ?_
  refine lv_iadd hx hb dL_law_1424 ?_
  refine kq_ti (y := (nI (i + 3))) (nI_add i 3) ?_
  refine ks_ld hx hb hT hS hL (j := i + 3) (by omega) dL_law_1425 ?_
  refine lv_i2l (v := (xs (i + 3)).toInt64) hx hb dL_law_1426 rfl ?_
  refine lv_bipush (v := (nI 32)) hx hb dL_law_1427 (by decide) ?_
  refine lv_lshl (v := ((xs (i + 3)).toInt64) <<< ((nI 32).toInt64 &&& 63)) hx hb dL_law_1429 rfl ?_
  refine lv_aload_n hx hb dL_law_1430 rfl (lv_at hl 1 rfl) ?_
  refine lv_iload hx hb dL_law_1431 (lv_at hl 6 rfl) ?_
  refine lv_iconst (v := (nI 4)) hx hb dL_law_1433 (by decide) ?_
  refine lv_iadd hx hb dL_law_1434 ?_
  refine kq_ti (y := (nI (i + 4))) (nI_add i 4) ?_
  refine ks_ld hx hb hT hS hL (j := i + 4) (by omega) dL_law_1435 ?_
  refine lv_i2l (v := (xs (i + 4)).toInt64) hx hb dL_law_1436 rfl ?_
  refine lv_ldc2 hx hb hown (hts _ mb_856) dL_law_1437 ?_
  refine lv_land hx hb dL_law_1440 ?_
  refine lv_lor hx hb dL_law_1441 ?_
  refine kl_rV (st1 := [.long b9]) ⟨hx, hb, hml, hown, hts⟩ hRf (cwV 3 hts gL_164_X5_write rfl rfl rfl (by decide +kernel) ⟨Nat.le_of_ble_eq_true rfl, Nat.le_of_ble_eq_true rfl⟩) hK hP hD (fun _ h => h) hS rfl hl.1 rfl rfl (Nat.le_of_ble_eq_true rfl) dL_law_1442 ⟨hc, hs⟩ (fun H locs hP hD hS => ?_)
  refine lv_lstore (lv' := [(7, .long b9), (6, .int k), (0, .ref b), (1, .ref (ad 0)), (2, .ref (ad 36)), (3, .ref (ad 55)), (4, .ref (ad 56)), (5, .int (nI i))]) hx hb dL_law_1445 hl (by decide) rfl (fun ls hl => ?_)
  refine lv_aload_n hx hb dL_law_1447 rfl (lv_at hl 4 rfl) ?_
  refine kl_rV (st1 := [.int (v1.2.1 14 0)]) ⟨hx, hb, hml, hown, hts⟩ (r_thrown v1) (cwV 0 hts gL_106_X5_thrown rfl rfl rfl (by decide +kernel) ⟨Nat.le_of_ble_eq_true rfl, Nat.le_of_ble_eq_true rfl⟩) hK hP hD (fun _ h => h) hS rfl hl.1 rfl rfl (Nat.le_of_ble_eq_true rfl) dL_law_1448 ⟨hc, hs⟩ (fun H locs hP hD hS => ?_)
  refine lv_iload hx hb dL_law_1451 (lv_at hl 1 rfl) ?_
  refine lv_icmp_eq (tgt := 1458) hx hb dL_law_1453 (by decide) (fun _ => ?_) (fun c => absurd hth c)
  by_cases hk : k = 0
  · refine lv_iload hx hb dL_law_1458 (lv_at hl 1 rfl) ?_
    refine lv_if_ne (tgt := 1474) hx hb dL_law_1460 (by decide) (fun c => absurd hk c) (fun _ => ?_)
    refine lv_aload_n hx hb dL_law_1463 rfl (lv_at hl 5 rfl) ?_
    refine lv_iconst (v := (nI 0)) hx hb dL_law_1464 (by decide) ?_
    refine tl_l5 hx hb hK hP dL_law_1465 ?_
    refine lv_lload hx hb dL_law_1466 (lv_at hl 0 rfl) ?_
    refine W.lcmp hx hb dL_law_1468 ?_
    refine lv_if_eq (tgt := 1474) hx hb dL_law_1469 (by decide) (fun _ => ?_) (fun c => absurd (tm_cmp0.mpr (hout (hk.trans nI_0.symm))) c)
    refine lv_goto (tgt := 1778) hx hb dL_law_1474 (by decide) ?_
    exact kk u v1 o H locs ls hR hP hD hS (lv_sub hl [2, 3, 4, 5, 6, 7] rfl)
  · refine lv_iload hx hb dL_law_1458 (lv_at hl 1 rfl) ?_
    refine lv_if_ne (tgt := 1474) hx hb dL_law_1460 (by decide) (fun _ => ?_) (fun c => absurd c hk)
    refine lv_goto (tgt := 1778) hx hb dL_law_1474 (by decide) ?_
    exact kk u v1 o H locs ls hR hP hD hS (lv_sub hl [2, 3, 4, 5, 6, 7] rfl)
set_option maxHeartbeats 8000000 in
set_option maxRecDepth 100000 in
theorem lc_read {p : Program} {l : Launch} {e : Env} {s : State} {m : MethodId} {below : List Frame} {meth : Method} {c : Code} {Q : State → Prop} {b L : Nat} {xs : Nat → Int32} {u v : tm_S} {o : Int64 × UInt64} {H : Heap} {locs : List Loc} {cells slots : Nat} {ls : Array Slot} {i : Nat}
    (hl9 : l.stackTraces = false) (hx : p.tables.exec = Jvm.exec) (hb : c.code = code) (hml : c.maxLocals = 10) (hown : s.vm.findClass RL = some m.cls) (hts : ∀ w ∈ tm_B, w.before #[Value.ref b] s = true) (hT : va_T .int b L (fun j => .int (xs j)) (fun q : Nat => s.heap.size ≤ q) s s.heap) (hL : L ≤ 4097)
    (hK : va_K (dC, dI) vwCl (tl_ty cc cr cd) s) (hG : tm_G gs (fun q : Nat => s.heap.size ≤ q) s) (hi : i + 8 ≤ L) (hR : tm_R u v) (hP : va_P (dC, dI) vwCl (tl_w ad cc cr cd u v o) H) (hD : va_D (fun q : Nat => s.heap.size ≤ q) (tl_w ad cc cr cd u v o)) (hS : va_S (fun q : Nat => s.heap.size ≤ q) s.heap H locs)
    (hl : lv_has ls 10 [(0, .ref b), (1, .ref (ad 0)), (2, .ref (ad 36)), (3, .ref (ad 55)), (4, .ref (ad 56)), (5, .int (nI i))]) (hc : cells + 1 ≤ 667648) (hs : slots + 6 ≤ 7093125)
    (kk : ∀ (u v : tm_S) (o : Int64 × UInt64) (H : Heap) (locs : List Loc) (ls : Array Slot), tm_R u v → va_P (dC, dI) vwCl (tl_w ad cc cr cd u v o) H → va_D (fun q : Nat => s.heap.size ≤ q) (tl_w ad cc cr cd u v o) → va_S (fun q : Nat => s.heap.size ≤ q) s.heap H locs → lv_has ls 10 [(0, .ref b), (1, .ref (ad 0)), (2, .ref (ad 36)), (3, .ref (ad 55)), (4, .ref (ad 56)), (5, .int (nI i))] → W p l e room_1 s m #[Value.ref b] below meth c H locs (cells + 1) (slots + 6) Q (F0 m 1778 ls [])) :
    W p l e room_1 s m #[Value.ref b] below meth c H locs cells slots Q (F0 m 1477 ls []) := by
  obtain ⟨k, u, v1, o, b9, hW, hRf, hth, hout, hR⟩ := op_read (dC := dC) (dI := dI) (gs := gs) (ad := ad) (cc := cc) (cr := cr) (cd := cd) hl9 o hR (xs (i + 1))
  refine lv_aload_n hx hb dL_law_1477 rfl (lv_at hl 1 rfl) ?_
  refine lv_aload_n hx hb dL_law_1478 rfl (lv_at hl 0 rfl) ?_
  refine lv_iload hx hb dL_law_1479 (lv_at hl 5 rfl) ?_
  refine lv_iconst (v := (nI 1)) hx hb dL_law_1481 (by decide) ?_
  refine lv_iadd hx hb dL_law_1482 ?_
  refine kq_ti (y := (nI (i + 1))) (nI_add i 1) ?_
  refine ks_ld hx hb hT hS hL (j := i + 1) (by omega) dL_law_1483 ?_
  refine lv_aload_n hx hb dL_law_1484 rfl (lv_at hl 3 rfl) ?_
  refine kq_call (st1 := [.int k]) (vx_runSW (hh := [(0, 8, 11, 13), (0, 8, 14, 19), (0, 8, 17, 29)]) ⟨hx, hb, hml, hown, hts⟩ (hW (fun q : Nat => s.heap.size ≤ q)) (vx_cwSW 3 hts gL_165_L_read rfl rfl rfl (by decide +kernel) ⟨Nat.le_of_ble_eq_true rfl, Nat.le_of_ble_eq_true rfl⟩) ⟨kq_blind tm_Gok, kq_pre hK hP hD (fun _ h => h) tm_Gok hG hS⟩ rfl rfl hl.1 rfl (lv_room (Nat.le_of_ble_eq_true rfl)) dL_law_1485 ⟨hc, hs⟩) hS rfl (fun H locs hP hD hS => ?_)
  refine lv_istore (lv' := [(6, .int k), (0, .ref b), (1, .ref (ad 0)), (2, .ref (ad 36)), (3, .ref (ad 55)), (4, .ref (ad 56)), (5, .int (nI i))]) hx hb dL_law_1488 hl (by decide) rfl (fun ls hl => ?_)
  refine lv_aload_n hx hb dL_law_1490 rfl (lv_at hl 3 rfl) ?_
  refine lv_aload_n hx hb dL_law_1491 rfl (lv_at hl 1 rfl) ?_
  refine lv_iload hx hb dL_law_1492 (lv_at hl 6 rfl) ?_
  refine lv_iconst (v := (nI 1)) hx hb dL_law_1494 (by decide) ?_
  refine lv_iadd hx hb dL_law_1495 ?_
  refine kq_ti (y := (nI (i + 1))) (nI_add i 1) ?_
  refine ks_ld hx hb hT hS hL (j := i + 1) (by omega) dL_law_1496 ?_
  refine kl_rV (st1 := [.long b9]) ⟨hx, hb, hml, hown, hts⟩ hRf (cwV 1 hts gL_168_X5_read rfl rfl rfl (by decide +kernel) ⟨Nat.le_of_ble_eq_true rfl, Nat.le_of_ble_eq_true rfl⟩) hK hP hD (fun _ h => h) hS rfl hl.1 rfl rfl (Nat.le_of_ble_eq_true rfl) dL_law_1497 ⟨hc, hs⟩ (fun H locs hP hD hS => ?_)
  refine lv_lstore (lv' := [(7, .long b9), (6, .int k), (0, .ref b), (1, .ref (ad 0)), (2, .ref (ad 36)), (3, .ref (ad 55)), (4, .ref (ad 56)), (5, .int (nI i))]) hx hb dL_law_1500 hl (by decide) rfl (fun ls hl => ?_)
  refine lv_aload_n hx hb dL_law_1502 rfl (lv_at hl 4 rfl) ?_
  refine kl_rV (st1 := [.int (v1.2.1 14 0)]) ⟨hx, hb, hml, hown, hts⟩ (r_thrown v1) (cwV 0 hts gL_106_X5_thrown rfl rfl rfl (by decide +kernel) ⟨Nat.le_of_ble_eq_true rfl, Nat.le_of_ble_eq_true rfl⟩) hK hP hD (fun _ h => h) hS rfl hl.1 rfl rfl (Nat.le_of_ble_eq_true rfl) dL_law_1503 ⟨hc, hs⟩ (fun H locs hP hD hS => ?_)
  refine lv_iload hx hb dL_law_1506 (lv_at hl 1 rfl) ?_
  refine lv_icmp_eq (tgt := 1513) hx hb dL_law_1508 (by decide) (fun _ => ?_) (fun c => absurd hth c)
  by_cases hk : k = 0
  · refine lv_iload hx hb dL_law_1513 (lv_at hl 1 rfl) ?_
    refine lv_if_ne (tgt := 1529) hx hb dL_law_1515 (by decide) (fun c => absurd hk c) (fun _ => ?_)
    refine lv_aload_n hx hb dL_law_1518 rfl (lv_at hl 5 rfl) ?_
    refine lv_iconst (v := (nI 0)) hx hb dL_law_1519 (by decide) ?_
    refine tl_l5 hx hb hK hP dL_law_1520 ?_
    refine lv_lload hx hb dL_law_1521 (lv_at hl 0 rfl) ?_
    refine W.lcmp hx hb dL_law_1523 ?_
    refine lv_if_eq (tgt := 1529) hx hb dL_law_1524 (by decide) (fun _ => ?_) (fun c => absurd (tm_cmp0.mpr (hout (hk.trans nI_0.symm))) c)
    refine lv_goto (tgt := 1778) hx hb dL_law_1529 (by decide) ?_
    exact kk u v1 o H locs ls hR hP hD hS (lv_sub hl [2, 3, 4, 5, 6, 7] rfl)
  · refine lv_iload hx hb dL_law_1513 (lv_at hl 1 rfl) ?_
    refine lv_if_ne (tgt := 1529) hx hb dL_law_1515 (by decide) (fun _ => ?_) (fun c => absurd c hk)
    refine lv_goto (tgt := 1778) hx hb dL_law_1529 (by decide) ?_
    exact kk u v1 o H locs ls hR hP hD hS (lv_sub hl [2, 3, 4, 5, 6, 7] rfl)
end S35
