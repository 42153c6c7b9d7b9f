section S35
variable {l : Launch} {dC : Nat → ClassId} {dI : Nat → Nat → Nat} {gs : Nat → Nat} {ad : Nat → Nat} {cc cr : Nat → ClassId} {cd : ClassId}
set_option maxHeartbeats 8000000 in
set_option maxRecDepth 100000 in
theorem lc_power {p : Program} {l : Launch} {e : Env} {s : State} {m : MethodId} {below : List Frame} {meth : Method} {c : Code} {Q : State → Prop} {b L : Nat} {xs : Nat → Int32} {u v : tm_S} {o : Int64 × UInt64} {H : Heap} {locs : List Loc} {cells slots : Nat} {ls : Array Slot} {i : Nat}
    (hl9 : l.stackTraces = false) (hx : p.tables.exec = Jvm.exec) (hb : c.code = code) (hml : c.maxLocals = 10) (hown : s.vm.findClass RL = some m.cls) (hts : ∀ w ∈ tm_B, w.before #[Value.ref b] s = true) (hT : va_T .int b L (fun j => .int (xs j)) (fun q : Nat => s.heap.size ≤ q) s s.heap) (hL : L ≤ 4097)
    (hK : va_K (dC, dI) vwCl (tl_ty cc cr cd) s) (hG : tm_G gs (fun q : Nat => s.heap.size ≤ q) s) (hi : i + 8 ≤ L) (hR : tm_R u v) (hP : va_P (dC, dI) vwCl (tl_w ad cc cr cd u v o) H) (hD : va_D (fun q : Nat => s.heap.size ≤ q) (tl_w ad cc cr cd u v o)) (hS : va_S (fun q : Nat => s.heap.size ≤ q) s.heap H locs)
    (hl : lv_has ls 10 [(0, .ref b), (1, .ref (ad 0)), (2, .ref (ad 36)), (3, .ref (ad 55)), (4, .ref (ad 56)), (5, .int (nI i))]) (hc : cells + 1 ≤ 667648) (hs : slots + 6 ≤ 7093125)
    (kk : ∀ (u v : tm_S) (o : Int64 × UInt64) (H : Heap) (locs : List Loc) (ls : Array Slot), tm_R u v → va_P (dC, dI) vwCl (tl_w ad cc cr cd u v o) H → va_D (fun q : Nat => s.heap.size ≤ q) (tl_w ad cc cr cd u v o) → va_S (fun q : Nat => s.heap.size ≤ q) s.heap H locs → lv_has ls 10 [(0, .ref b), (1, .ref (ad 0)), (2, .ref (ad 36)), (3, .ref (ad 55)), (4, .ref (ad 56)), (5, .int (nI i))] → W p l e room_1 s m #[Value.ref b] below meth c H locs (cells + 1) (slots + 6) Q (F0 m 1778 ls [])) :
    W p l e room_1 s m #[Value.ref b] below meth c H locs cells slots Q (F0 m 156 ls []) := by
  obtain ⟨k, u, v1, o, hW, hRf, hth, hR⟩ := op_power (dC := dC) (dI := dI) (gs := gs) (ad := ad) (cc := cc) (cr := cr) (cd := cd) hl9 o hR (xs (i + 1))
  refine lv_aload_n hx hb dL_law_156 rfl (lv_at hl 1 rfl) ?_
  refine lv_aload_n hx hb dL_law_157 rfl (lv_at hl 0 rfl) ?_
  refine lv_iload hx hb dL_law_158 (lv_at hl 5 rfl) ?_
  refine lv_iconst (v := (nI 1)) hx hb dL_law_160 (by decide) ?_
  refine lv_iadd hx hb dL_law_161 ?_
  refine kq_ti (y := (nI (i + 1))) (nI_add i 1) ?_
  refine ks_ld hx hb hT hS hL (j := i + 1) (by omega) dL_law_162 ?_
  refine kq_call (st1 := [.int k]) (vx_runSW (hh := [(0, 5, 8, 13)]) ⟨hx, hb, hml, hown, hts⟩ (hW (fun q : Nat => s.heap.size ≤ q)) (vx_cwSW 2 hts gL_102_L_power rfl rfl rfl (by decide +kernel) ⟨Nat.le_of_ble_eq_true rfl, Nat.le_of_ble_eq_true rfl⟩) ⟨kq_blind tm_Gok, kq_pre hK hP hD (fun _ h => h) tm_Gok hG hS⟩ rfl rfl hl.1 rfl (lv_room (Nat.le_of_ble_eq_true rfl)) dL_law_163 ⟨hc, hs⟩) hS rfl (fun H locs hP hD hS => ?_)
  refine lv_istore (lv' := [(6, .int k), (0, .ref b), (1, .ref (ad 0)), (2, .ref (ad 36)), (3, .ref (ad 55)), (4, .ref (ad 56)), (5, .int (nI i))]) hx hb dL_law_166 hl (by decide) rfl (fun ls hl => ?_)
  refine lv_aload_n hx hb dL_law_168 rfl (lv_at hl 3 rfl) ?_
  refine lv_aload_n hx hb dL_law_169 rfl (lv_at hl 1 rfl) ?_
  refine lv_iload hx hb dL_law_170 (lv_at hl 6 rfl) ?_
  refine lv_iconst (v := (nI 1)) hx hb dL_law_172 (by decide) ?_
  refine lv_iadd hx hb dL_law_173 ?_
  refine kq_ti (y := (nI (i + 1))) (nI_add i 1) ?_
  refine ks_ld hx hb hT hS hL (j := i + 1) (by omega) dL_law_174 ?_
  refine kl_rV (st1 := []) ⟨hx, hb, hml, hown, hts⟩ hRf (cwV 1 hts gL_105_X5_power rfl rfl rfl (by decide +kernel) ⟨Nat.le_of_ble_eq_true rfl, Nat.le_of_ble_eq_true rfl⟩) hK hP hD (fun _ h => h) hS rfl hl.1 rfl rfl (Nat.le_of_ble_eq_true rfl) dL_law_175 ⟨hc, hs⟩ (fun H locs hP hD hS => ?_)
  refine lv_aload_n hx hb dL_law_178 rfl (lv_at hl 3 rfl) ?_
  refine kl_rV (st1 := [.int (v1.2.1 14 0)]) ⟨hx, hb, hml, hown, hts⟩ (r_thrown v1) (cwV 0 hts gL_106_X5_thrown rfl rfl rfl (by decide +kernel) ⟨Nat.le_of_ble_eq_true rfl, Nat.le_of_ble_eq_true rfl⟩) hK hP hD (fun _ h => h) hS rfl hl.1 rfl rfl (Nat.le_of_ble_eq_true rfl) dL_law_179 ⟨hc, hs⟩ (fun H locs hP hD hS => ?_)
  refine lv_iload hx hb dL_law_182 (lv_at hl 0 rfl) ?_
  refine lv_icmp_eq (tgt := 189) hx hb dL_law_184 (by decide) (fun _ => ?_) (fun c => absurd hth c)
  refine lv_goto (tgt := 1778) hx hb dL_law_189 (by decide) ?_
  exact kk u v1 o H locs ls hR hP hD hS (lv_sub hl [1, 2, 3, 4, 5, 6] rfl)
set_option maxHeartbeats 8000000 in
set_option maxRecDepth 100000 in
theorem lc_extend {p : Program} {l : Launch} {e : Env} {s : State} {m : MethodId} {below : List Frame} {meth : Method} {c : Code} {Q : State → Prop} {b L : Nat} {xs : Nat → Int32} {u v : tm_S} {o : Int64 × UInt64} {H : Heap} {locs : List Loc} {cells slots : Nat} {ls : Array Slot} {i : Nat}
    (hl9 : l.stackTraces = false) (hx : p.tables.exec = Jvm.exec) (hb : c.code = code) (hml : c.maxLocals = 10) (hown : s.vm.findClass RL = some m.cls) (hts : ∀ w ∈ tm_B, w.before #[Value.ref b] s = true) (hT : va_T .int b L (fun j => .int (xs j)) (fun q : Nat => s.heap.size ≤ q) s s.heap) (hL : L ≤ 4097)
    (hK : va_K (dC, dI) vwCl (tl_ty cc cr cd) s) (hG : tm_G gs (fun q : Nat => s.heap.size ≤ q) s) (hi : i + 8 ≤ L) (hR : tm_R u v) (hP : va_P (dC, dI) vwCl (tl_w ad cc cr cd u v o) H) (hD : va_D (fun q : Nat => s.heap.size ≤ q) (tl_w ad cc cr cd u v o)) (hS : va_S (fun q : Nat => s.heap.size ≤ q) s.heap H locs)
    (hl : lv_has ls 10 [(0, .ref b), (1, .ref (ad 0)), (2, .ref (ad 36)), (3, .ref (ad 55)), (4, .ref (ad 56)), (5, .int (nI i))]) (hc : cells + 1 ≤ 667648) (hs : slots + 6 ≤ 7093125)
    (kk : ∀ (u v : tm_S) (o : Int64 × UInt64) (H : Heap) (locs : List Loc) (ls : Array Slot), tm_R u v → va_P (dC, dI) vwCl (tl_w ad cc cr cd u v o) H → va_D (fun q : Nat => s.heap.size ≤ q) (tl_w ad cc cr cd u v o) → va_S (fun q : Nat => s.heap.size ≤ q) s.heap H locs → lv_has ls 10 [(0, .ref b), (1, .ref (ad 0)), (2, .ref (ad 36)), (3, .ref (ad 55)), (4, .ref (ad 56)), (5, .int (nI i))] → W p l e room_1 s m #[Value.ref b] below meth c H locs (cells + 1) (slots + 6) Q (F0 m 1778 ls [])) :
    W p l e room_1 s m #[Value.ref b] below meth c H locs cells slots Q (F0 m 192 ls []) := by
  obtain ⟨k, u, v1, o, b9, hW, hRf, hth, hout, hR⟩ := op_extend (dC := dC) (dI := dI) (gs := gs) (ad := ad) (cc := cc) (cr := cr) (cd := cd) hl9 o hR (xs (i + 1)) (xs (i + 2)) ((((xs (i + 3)).toInt64) <<< ((nI 32).toInt64 &&& 63)) ||| (((xs (i + 4)).toInt64) &&& 4294967295))
  refine lv_aload_n hx hb dL_law_192 rfl (lv_at hl 1 rfl) ?_
  refine lv_aload_n hx hb dL_law_193 rfl (lv_at hl 0 rfl) ?_
  refine lv_iload hx hb dL_law_194 (lv_at hl 5 rfl) ?_
  refine lv_iconst (v := (nI 1)) hx hb dL_law_196 (by decide) ?_
  refine lv_iadd hx hb dL_law_197 ?_
  refine kq_ti (y := (nI (i + 1))) (nI_add i 1) ?_
  refine ks_ld hx hb hT hS hL (j := i + 1) (by omega) dL_law_198 ?_
  refine lv_aload_n hx hb dL_law_199 rfl (lv_at hl 0 rfl) ?_
  refine lv_iload hx hb dL_law_200 (lv_at hl 5 rfl) ?_
  refine lv_iconst (v := (nI 2)) hx hb dL_law_202 (by decide) ?_
  refine lv_iadd hx hb dL_law_203 ?_
  refine kq_ti (y := (nI (i + 2))) (nI_add i 2) ?_
  refine ks_ld hx hb hT hS hL (j := i + 2) (by omega) dL_law_204 ?_
  refine lv_aload_n hx hb dL_law_205 rfl (lv_at hl 0 rfl) ?_
  refine lv_iload hx hb dL_law_206 (lv_at hl 5 rfl) ?_
  refine lv_iconst (v := (nI 3)) hx hb dL_law_208 (by decide) ?_
  refine lv_iadd hx hb dL_law_209 ?_
  refine kq_ti (y := (nI (i + 3))) (nI_add i 3) ?_
  refine ks_ld hx hb hT hS hL (j := i + 3) (by omega) dL_law_210 ?_
  refine lv_i2l (v := (xs (i + 3)).toInt64) hx hb dL_law_211 rfl ?_
  refine lv_bipush (v := (nI 32)) hx hb dL_law_212 (by decide) ?_
  refine lv_lshl (v := ((xs (i + 3)).toInt64) <<< ((nI 32).toInt64 &&& 63)) hx hb dL_law_214 rfl ?_
  refine lv_aload_n hx hb dL_law_215 rfl (lv_at hl 0 rfl) ?_
  refine lv_iload hx hb dL_law_216 (lv_at hl 5 rfl) ?_
  refine lv_iconst (v := (nI 4)) hx hb dL_law_218 (by decide) ?_
  refine lv_iadd hx hb dL_law_219 ?_
  refine kq_ti (y := (nI (i + 4))) (nI_add i 4) ?_
  refine ks_ld hx hb hT hS hL (j := i + 4) (by omega) dL_law_220 ?_
  refine lv_i2l (v := (xs (i + 4)).toInt64) hx hb dL_law_221 rfl ?_
  refine lv_ldc2 hx hb hown (hts _ mb_856) dL_law_222 ?_
  refine lv_land hx hb dL_law_225 ?_
  refine lv_lor hx hb dL_law_226 ?_
  refine lv_aload_n hx hb dL_law_227 rfl (lv_at hl 3 rfl) ?_
  refine kq_call (st1 := [.int k]) (vx_runSW (hh := [(0, 11, 14, 13), (0, 11, 18, 19)]) ⟨hx, hb, hml, hown, hts⟩ (hW (fun q : Nat => s.heap.size ≤ q)) (vx_cwSW 5 hts gL_112_L_extend rfl rfl rfl (by decide +kernel) ⟨Nat.le_of_ble_eq_true rfl, Nat.le_of_ble_eq_true rfl⟩) ⟨kq_blind tm_Gok, kq_pre hK hP hD (fun _ h => h) tm_Gok hG hS⟩ rfl rfl hl.1 rfl (lv_room (Nat.le_of_ble_eq_true rfl)) dL_law_228 ⟨hc, hs⟩) hS rfl (fun H locs hP hD hS => ?_)
  refine lv_istore (lv' := [(6, .int k), (0, .ref b), (1, .ref (ad 0)), (2, .ref (ad 36)), (3, .ref (ad 55)), (4, .ref (ad 56)), (5, .int (nI i))]) hx hb dL_law_231 hl (by decide) rfl (fun ls hl => ?_)
  refine lv_aload_n hx hb dL_law_233 rfl (lv_at hl 3 rfl) ?_
  refine lv_aload_n hx hb dL_law_234 rfl (lv_at hl 1 rfl) ?_
  refine lv_iload hx hb dL_law_235 (lv_at hl 6 rfl) ?_
  refine lv_iconst (v := (nI 1)) hx hb dL_law_237 (by decide) ?_
  refine lv_iadd hx hb dL_law_238 ?_
  refine kq_ti (y := (nI (i + 1))) (nI_add i 1) ?_
  refine ks_ld hx hb hT hS hL (j := i + 1) (by omega) dL_law_239 ?_
  refine lv_aload_n hx hb dL_law_240 rfl (lv_at hl 1 rfl) ?_
  refine lv_iload hx hb dL_law_241 (lv_at hl 6 rfl) ?_
  refine lv_iconst (v := (nI 2)) hx hb dL_law_243 (by decide) ?_
  refine lv_iadd hx hb dL_law_244 ?_
  refine kq_ti (y := (nI (i + 2))) (nI_add i 2) ?_
  refine ks_ld hx hb hT hS hL (j := i + 2) (by omega) dL_law_245 ?_
  refine lv_aload_n hx hb dL_law_246 rfl (lv_at hl 1 rfl) ?_
  refine lv_iload hx hb dL_law_247 (lv_at hl 6 rfl) ?_
  refine lv_iconst (v := (nI 3)) hx hb dL_law_249 (by decide) ?_
  refine lv_iadd hx hb dL_law_250 ?_
  refine kq_ti (y := (nI (i + 3))) (nI_add i 3) ?_
  refine ks_ld hx hb hT hS hL (j := i + 3) (by omega) dL_law_251 ?_
  refine lv_i2l (v := (xs (i + 3)).toInt64) hx hb dL_law_252 rfl ?_
  refine lv_bipush (v := (nI 32)) hx hb dL_law_253 (by decide) ?_
  refine lv_lshl (v := ((xs (i + 3)).toInt64) <<< ((nI 32).toInt64 &&& 63)) hx hb dL_law_255 rfl ?_
  refine lv_aload_n hx hb dL_law_256 rfl (lv_at hl 1 rfl) ?_
  refine lv_iload hx hb dL_law_257 (lv_at hl 6 rfl) ?_
  refine lv_iconst (v := (nI 4)) hx hb dL_law_259 (by decide) ?_
  refine lv_iadd hx hb dL_law_260 ?_
  refine kq_ti (y := (nI (i + 4))) (nI_add i 4) ?_
  refine ks_ld hx hb hT hS hL (j := i + 4) (by omega) dL_law_261 ?_
  refine lv_i2l (v := (xs (i + 4)).toInt64) hx hb dL_law_262 rfl ?_
  refine lv_ldc2 hx hb hown (hts _ mb_856) dL_law_263 ?_
  refine lv_land hx hb dL_law_266 ?_
  refine lv_lor hx hb dL_law_267 ?_
  refine kl_rV (st1 := [.long b9]) ⟨hx, hb, hml, hown, hts⟩ hRf (cwV 3 hts gL_115_X5_extend rfl rfl rfl (by decide +kernel) ⟨Nat.le_of_ble_eq_true rfl, Nat.le_of_ble_eq_true rfl⟩) hK hP hD (fun _ h => h) hS rfl hl.1 rfl rfl (Nat.le_of_ble_eq_true rfl) dL_law_268 ⟨hc, hs⟩ (fun H locs hP hD hS => ?_)
  refine lv_lstore (lv' := [(7, .long b9), (6, .int k), (0, .ref b), (1, .ref (ad 0)), (2, .ref (ad 36)), (3, .ref (ad 55)), (4, .ref (ad 56)), (5, .int (nI i))]) hx hb dL_law_271 hl (by decide) rfl (fun ls hl => ?_)
  refine lv_aload_n hx hb dL_law_273 rfl (lv_at hl 4 rfl) ?_
  refine kl_rV (st1 := [.int (v1.2.1 14 0)]) ⟨hx, hb, hml, hown, hts⟩ (r_thrown v1) (cwV 0 hts gL_106_X5_thrown rfl rfl rfl (by decide +kernel) ⟨Nat.le_of_ble_eq_true rfl, Nat.le_of_ble_eq_true rfl⟩) hK hP hD (fun _ h => h) hS rfl hl.1 rfl rfl (Nat.le_of_ble_eq_true rfl) dL_law_274 ⟨hc, hs⟩ (fun H locs hP hD hS => ?_)
  refine lv_iload hx hb dL_law_277 (lv_at hl 1 rfl) ?_
  refine lv_icmp_eq (tgt := 284) hx hb dL_law_279 (by decide) (fun _ => ?_) (fun c => absurd hth c)
  by_cases hk : k = 0
  · refine lv_iload hx hb dL_law_284 (lv_at hl 1 rfl) ?_
    refine lv_if_ne (tgt := 300) hx hb dL_law_286 (by decide) (fun c => absurd hk c) (fun _ => ?_)
    refine lv_aload_n hx hb dL_law_289 rfl (lv_at hl 5 rfl) ?_
    refine lv_iconst (v := (nI 0)) hx hb dL_law_290 (by decide) ?_
    refine tl_l5 hx hb hK hP dL_law_291 ?_
    refine lv_lload hx hb dL_law_292 (lv_at hl 0 rfl) ?_
    refine W.lcmp hx hb dL_law_294 ?_
    refine lv_if_eq (tgt := 300) hx hb dL_law_295 (by decide) (fun _ => ?_) (fun c => absurd (tm_cmp0.mpr (hout (hk.trans nI_0.symm))) c)
    refine lv_goto (tgt := 1778) hx hb dL_law_300 (by decide) ?_
    exact kk u v1 o H locs ls hR hP hD hS (lv_sub hl [2, 3, 4, 5, 6, 7] rfl)
  · refine lv_iload hx hb dL_law_284 (lv_at hl 1 rfl) ?_
    refine lv_if_ne (tgt := 300) hx hb dL_law_286 (by decide) (fun _ => ?_) (fun c => absurd c hk)
    refine lv_goto (tgt := 1778) hx hb dL_law_300 (by decide) ?_
    exact kk u v1 o H locs ls hR hP hD hS (lv_sub hl [2, 3, 4, 5, 6, 7] rfl)
set_option maxHeartbeats 8000000 in
set_option maxRecDepth 100000 in
theorem lc_primary {p : Program} {l : Launch} {e : Env} {s : State} {m : MethodId} {below : List Frame} {meth : Method} {c : Code} {Q : State → Prop} {b L : Nat} {xs : Nat → Int32} {u v : tm_S} {o : Int64 × UInt64} {H : Heap} {locs : List Loc} {cells slots : Nat} {ls : Array Slot} {i : Nat}
    (hl9 : l.stackTraces = false) (hx : p.tables.exec = Jvm.exec) (hb : c.code = code) (hml : c.maxLocals = 10) (hown : s.vm.findClass RL = some m.cls) (hts : ∀ w ∈ tm_B, w.before #[Value.ref b] s = true) (hT : va_T .int b L (fun j => .int (xs j)) (fun q : Nat => s.heap.size ≤ q) s s.heap) (hL : L ≤ 4097)
    (hK : va_K (dC, dI) vwCl (tl_ty cc cr cd) s) (hG : tm_G gs (fun q : Nat => s.heap.size ≤ q) s) (hi : i + 8 ≤ L) (hR : tm_R u v) (hP : va_P (dC, dI) vwCl (tl_w ad cc cr cd u v o) H) (hD : va_D (fun q : Nat => s.heap.size ≤ q) (tl_w ad cc cr cd u v o)) (hS : va_S (fun q : Nat => s.heap.size ≤ q) s.heap H locs)
    (hl : lv_has ls 10 [(0, .ref b), (1, .ref (ad 0)), (2, .ref (ad 36)), (3, .ref (ad 55)), (4, .ref (ad 56)), (5, .int (nI i))]) (hc : cells + 1 ≤ 667648) (hs : slots + 6 ≤ 7093125)
    (kk : ∀ (u v : tm_S) (o : Int64 × UInt64) (H : Heap) (locs : List Loc) (ls : Array Slot), tm_R u v → va_P (dC, dI) vwCl (tl_w ad cc cr cd u v o) H → va_D (fun q : Nat => s.heap.size ≤ q) (tl_w ad cc cr cd u v o) → va_S (fun q : Nat => s.heap.size ≤ q) s.heap H locs → lv_has ls 10 [(0, .ref b), (1, .ref (ad 0)), (2, .ref (ad 36)), (3, .ref (ad 55)), (4, .ref (ad 56)), (5, .int (nI i))] → W p l e room_1 s m #[Value.ref b] below meth c H locs (cells + 1) (slots + 6) Q (F0 m 1778 ls [])) :
    W p l e room_1 s m #[Value.ref b] below meth c H locs cells slots Q (F0 m 303 ls []) := by
  obtain ⟨k, u, v1, o, b9, hW, hRf, hth, hout, hR⟩ := op_primary (dC := dC) (dI := dI) (gs := gs) (ad := ad) (cc := cc) (cr := cr) (cd := cd) hl9 o hR (xs (i + 1)) ((((xs (i + 2)).toInt64) <<< ((nI 32).toInt64 &&& 63)) ||| (((xs (i + 3)).toInt64) &&& 4294967295))
  refine lv_aload_n hx hb dL_law_303 rfl (lv_at hl 1 rfl) ?_
  refine lv_aload_n hx hb dL_law_304 rfl (lv_at hl 0 rfl) ?_
  refine lv_iload hx hb dL_law_305 (lv_at hl 5 rfl) ?_
  refine lv_iconst (v := (nI 1)) hx hb dL_law_307 (by decide) ?_
  refine lv_iadd hx hb dL_law_308 ?_
  refine kq_ti (y := (nI (i + 1))) (nI_add i 1) ?_
  refine ks_ld hx hb hT hS hL (j := i + 1) (by omega) dL_law_309 ?_
  refine lv_aload_n hx hb dL_law_310 rfl (lv_at hl 0 rfl) ?_
  refine lv_iload hx hb dL_law_311 (lv_at hl 5 rfl) ?_
  refine lv_iconst (v := (nI 2)) hx hb dL_law_313 (by decide) ?_
  refine lv_iadd hx hb dL_law_314 ?_
  refine kq_ti (y := (nI (i + 2))) (nI_add i 2) ?_
  refine ks_ld hx hb hT hS hL (j := i + 2) (by omega) dL_law_315 ?_
  refine lv_i2l (v := (xs (i + 2)).toInt64) hx hb dL_law_316 rfl ?_
  refine lv_bipush (v := (nI 32)) hx hb dL_law_317 (by decide) ?_
  refine lv_lshl (v := ((xs (i + 2)).toInt64) <<< ((nI 32).toInt64 &&& 63)) hx hb dL_law_319 rfl ?_
  refine lv_aload_n hx hb dL_law_320 rfl (lv_at hl 0 rfl) ?_
  refine lv_iload hx hb dL_law_321 (lv_at hl 5 rfl) ?_
  refine lv_iconst (v := (nI 3)) hx hb dL_law_323 (by decide) ?_
  refine lv_iadd hx hb dL_law_324 ?_
  refine kq_ti (y := (nI (i + 3))) (nI_add i 3) ?_
  refine ks_ld hx hb hT hS hL (j := i + 3) (by omega) dL_law_325 ?_
  refine lv_i2l (v := (xs (i + 3)).toInt64) hx hb dL_law_326 rfl ?_
  refine lv_ldc2 hx hb hown (hts _ mb_856) dL_law_327 ?_
  refine lv_land hx hb dL_law_330 ?_
  refine lv_lor hx hb dL_law_331 ?_
  refine lv_aload_n hx hb dL_law_332 rfl (lv_at hl 3 rfl) ?_
  refine kq_call (st1 := [.int k]) (vx_runSW (hh := [(0, 11, 14, 13), (0, 11, 18, 19)]) ⟨hx, hb, hml, hown, hts⟩ (hW (fun q : Nat => s.heap.size ≤ q)) (vx_cwSW 4 hts gL_116_L_primary rfl rfl rfl (by decide +kernel) ⟨Nat.le_of_ble_eq_true rfl, Nat.le_of_ble_eq_true rfl⟩) ⟨kq_blind tm_Gok, kq_pre hK hP hD (fun _ h => h) tm_Gok hG hS⟩ rfl rfl hl.1 rfl (lv_room (Nat.le_of_ble_eq_true rfl)) dL_law_333 ⟨hc, hs⟩) hS rfl (fun H locs hP hD hS => ?_)
  refine lv_istore (lv' := [(6, .int k), (0, .ref b), (1, .ref (ad 0)), (2, .ref (ad 36)), (3, .ref (ad 55)), (4, .ref (ad 56)), (5, .int (nI i))]) hx hb dL_law_336 hl (by decide) rfl (fun ls hl => ?_)
  refine lv_aload_n hx hb dL_law_338 rfl (lv_at hl 3 rfl) ?_
  refine lv_aload_n hx hb dL_law_339 rfl (lv_at hl 1 rfl) ?_
  refine lv_iload hx hb dL_law_340 (lv_at hl 6 rfl) ?_
  refine lv_iconst (v := (nI 1)) hx hb dL_law_342 (by decide) ?_
  refine lv_iadd hx hb dL_law_343 ?_
  refine kq_ti (y := (nI (i + 1))) (nI_add i 1) ?_
  refine ks_ld hx hb hT hS hL (j := i + 1) (by omega) dL_law_344 ?_
  refine lv_aload_n hx hb dL_law_345 rfl (lv_at hl 1 rfl) ?_
  refine lv_iload hx hb dL_law_346 (lv_at hl 6 rfl) ?_
  refine lv_iconst (v := (nI 2)) hx hb dL_law_348 (by decide) ?_
  refine lv_iadd hx hb dL_law_349 ?_
  refine kq_ti (y := (nI (i + 2))) (nI_add i 2) ?_
  refine ks_ld hx hb hT hS hL (j := i + 2) (by omega) dL_law_350 ?_
  refine lv_i2l (v := (xs (i + 2)).toInt64) hx hb dL_law_351 rfl ?_
  refine lv_bipush (v := (nI 32)) hx hb dL_law_352 (by decide) ?_
  refine lv_lshl (v := ((xs (i + 2)).toInt64) <<< ((nI 32).toInt64 &&& 63)) hx hb dL_law_354 rfl ?_
  refine lv_aload_n hx hb dL_law_355 rfl (lv_at hl 1 rfl) ?_
  refine lv_iload hx hb dL_law_356 (lv_at hl 6 rfl) ?_
  refine lv_iconst (v := (nI 3)) hx hb dL_law_358 (by decide) ?_
  refine lv_iadd hx hb dL_law_359 ?_
  refine kq_ti (y := (nI (i + 3))) (nI_add i 3) ?_
  refine ks_ld hx hb hT hS hL (j := i + 3) (by omega) dL_law_360 ?_
  refine lv_i2l (v := (xs (i + 3)).toInt64) hx hb dL_law_361 rfl ?_
  refine lv_ldc2 hx hb hown (hts _ mb_856) dL_law_362 ?_
  refine lv_land hx hb dL_law_365 ?_
  refine lv_lor hx hb dL_law_366 ?_
  refine kl_rV (st1 := [.int b9]) ⟨hx, hb, hml, hown, hts⟩ hRf (cwV 2 hts gL_119_X5_primary rfl rfl rfl (by decide +kernel) ⟨Nat.le_of_ble_eq_true rfl, Nat.le_of_ble_eq_true rfl⟩) hK hP hD (fun _ h => h) hS rfl hl.1 rfl rfl (Nat.le_of_ble_eq_true rfl) dL_law_367 ⟨hc, hs⟩ (fun H locs hP hD hS => ?_)
  refine lv_istore (lv' := [(7, .int b9), (6, .int k), (0, .ref b), (1, .ref (ad 0)), (2, .ref (ad 36)), (3, .ref (ad 55)), (4, .ref (ad 56)), (5, .int (nI i))]) hx hb dL_law_370 hl (by decide) rfl (fun ls hl => ?_)
  refine lv_aload_n hx hb dL_law_372 rfl (lv_at hl 4 rfl) ?_
  refine kl_rV (st1 := [.int (v1.2.1 14 0)]) ⟨hx, hb, hml, hown, hts⟩ (r_thrown v1) (cwV 0 hts gL_106_X5_thrown rfl rfl rfl (by decide +kernel) ⟨Nat.le_of_ble_eq_true rfl, Nat.le_of_ble_eq_true rfl⟩) hK hP hD (fun _ h => h) hS rfl hl.1 rfl rfl (Nat.le_of_ble_eq_true rfl) dL_law_373 ⟨hc, hs⟩ (fun H locs hP hD hS => ?_)
  refine lv_iload hx hb dL_law_376 (lv_at hl 1 rfl) ?_
  refine lv_icmp_eq (tgt := 383) hx hb dL_law_378 (by decide) (fun _ => ?_) (fun c => absurd hth c)
  by_cases hk : k = 0
  · refine lv_iload hx hb dL_law_383 (lv_at hl 1 rfl) ?_
    refine lv_if_ne (tgt := 400) hx hb dL_law_385 (by decide) (fun c => absurd hk c) (fun _ => ?_)
    refine lv_aload_n hx hb dL_law_388 rfl (lv_at hl 5 rfl) ?_
    refine lv_iconst (v := (nI 0)) hx hb dL_law_389 (by decide) ?_
    refine tl_l5 hx hb hK hP dL_law_390 ?_
    refine lv_iload hx hb dL_law_391 (lv_at hl 0 rfl) ?_
    refine lv_i2l (v := b9.toInt64) hx hb dL_law_393 rfl ?_
    refine W.lcmp hx hb dL_law_394 ?_
    refine lv_if_eq (tgt := 400) hx hb dL_law_395 (by decide) (fun _ => ?_) (fun c => absurd (tm_cmp0.mpr (hout (hk.trans nI_0.symm))) c)
    refine lv_goto (tgt := 1778) hx hb dL_law_400 (by decide) ?_
    exact kk u v1 o H locs ls hR hP hD hS (lv_sub hl [2, 3, 4, 5, 6, 7] rfl)
  · refine lv_iload hx hb dL_law_383 (lv_at hl 1 rfl) ?_
    refine lv_if_ne (tgt := 400) hx hb dL_law_385 (by decide) (fun _ => ?_) (fun c => absurd c hk)
    refine lv_goto (tgt := 1778) hx hb dL_law_400 (by decide) ?_
    exact kk u v1 o H locs ls hR hP hD hS (lv_sub hl [2, 3, 4, 5, 6, 7] rfl)
set_option maxHeartbeats 8000000 in
set_option maxRecDepth 100000 in
theorem lc_create {p : Program} {l : Launch} {e : Env} {s : State} {m : MethodId} {below : List Frame} {meth : Method} {c : Code} {Q : State → Prop} {b L : Nat} {xs : Nat → Int32} {u v : tm_S} {o : Int64 × UInt64} {H : Heap} {locs : List Loc} {cells slots : Nat} {ls : Array Slot} {i : Nat}
    (hl9 : l.stackTraces = false) (hx : p.tables.exec = Jvm.exec) (hb : c.code = code) (hml : c.maxLocals = 10) (hown : s.vm.findClass RL = some m.cls) (hts : ∀ w ∈ tm_B, w.before #[Value.ref b] s = true) (hT : va_T .int b L (fun j => .int (xs j)) (fun q : Nat => s.heap.size ≤ q) s s.heap) (hL : L ≤ 4097)
    (hK : va_K (dC, dI) vwCl (tl_ty cc cr cd) s) (hG : tm_G gs (fun q : Nat => s.heap.size ≤ q) s) (hi : i + 8 ≤ L) (hR : tm_R u v) (hP : va_P (dC, dI) vwCl (tl_w ad cc cr cd u v o) H) (hD : va_D (fun q : Nat => s.heap.size ≤ q) (tl_w ad cc cr cd u v o)) (hS : va_S (fun q : Nat => s.heap.size ≤ q) s.heap H locs)
    (hl : lv_has ls 10 [(0, .ref b), (1, .ref (ad 0)), (2, .ref (ad 36)), (3, .ref (ad 55)), (4, .ref (ad 56)), (5, .int (nI i))]) (hc : cells + 1 ≤ 667648) (hs : slots + 6 ≤ 7093125)
    (kk : ∀ (u v : tm_S) (o : Int64 × UInt64) (H : Heap) (locs : List Loc) (ls : Array Slot), tm_R u v → va_P (dC, dI) vwCl (tl_w ad cc cr cd u v o) H → va_D (fun q : Nat => s.heap.size ≤ q) (tl_w ad cc cr cd u v o) → va_S (fun q : Nat => s.heap.size ≤ q) s.heap H locs → lv_has ls 10 [(0, .ref b), (1, .ref (ad 0)), (2, .ref (ad 36)), (3, .ref (ad 55)), (4, .ref (ad 56)), (5, .int (nI i))] → W p l e room_1 s m #[Value.ref b] below meth c H locs (cells + 1) (slots + 6) Q (F0 m 1778 ls [])) :
    W p l e room_1 s m #[Value.ref b] below meth c H locs cells slots Q (F0 m 403 ls []) := by
  obtain ⟨k, u, v1, o, hW, hRf, hth, hR⟩ := op_create (dC := dC) (dI := dI) (gs := gs) (ad := ad) (cc := cc) (cr := cr) (cd := cd) hl9 o hR (xs (i + 1)) (xs (i + 2)) ((((xs (i + 3)).toInt64) <<< ((nI 32).toInt64 &&& 63)) ||| (((xs (i + 4)).toInt64) &&& 4294967295)) (xs (i + 5)) ((((xs (i + 6)).toInt64) <<< ((nI 32).toInt64 &&& 63)) ||| (((xs (i + 7)).toInt64) &&& 4294967295))
  refine lv_aload_n hx hb dL_law_403 rfl (lv_at hl 1 rfl) ?_
  refine lv_aload_n hx hb dL_law_404 rfl (lv_at hl 0 rfl) ?_
  refine lv_iload hx hb dL_law_405 (lv_at hl 5 rfl) ?_
  refine lv_iconst (v := (nI 1)) hx hb dL_law_407 (by decide) ?_
  refine lv_iadd hx hb dL_law_408 ?_
  refine kq_ti (y := (nI (i + 1))) (nI_add i 1) ?_
  refine ks_ld hx hb hT hS hL (j := i + 1) (by omega) dL_law_409 ?_
  refine lv_aload_n hx hb dL_law_410 rfl (lv_at hl 0 rfl) ?_
  refine lv_iload hx hb dL_law_411 (lv_at hl 5 rfl) ?_
  refine lv_iconst (v := (nI 2)) hx hb dL_law_413 (by decide) ?_
  refine lv_iadd hx hb dL_law_414 ?_
  refine kq_ti (y := (nI (i + 2))) (nI_add i 2) ?_
  refine ks_ld hx hb hT hS hL (j := i + 2) (by omega) dL_law_415 ?_
  refine lv_aload_n hx hb dL_law_416 rfl (lv_at hl 0 rfl) ?_
  refine lv_iload hx hb dL_law_417 (lv_at hl 5 rfl) ?_
  refine lv_iconst (v := (nI 3)) hx hb dL_law_419 (by decide) ?_
  refine lv_iadd hx hb dL_law_420 ?_
  refine kq_ti (y := (nI (i + 3))) (nI_add i 3) ?_
  refine ks_ld hx hb hT hS hL (j := i + 3) (by omega) dL_law_421 ?_
  refine lv_i2l (v := (xs (i + 3)).toInt64) hx hb dL_law_422 rfl ?_
  refine lv_bipush (v := (nI 32)) hx hb dL_law_423 (by decide) ?_
  refine lv_lshl (v := ((xs (i + 3)).toInt64) <<< ((nI 32).toInt64 &&& 63)) hx hb dL_law_425 rfl ?_
  refine lv_aload_n hx hb dL_law_426 rfl (lv_at hl 0 rfl) ?_
  refine lv_iload hx hb dL_law_427 (lv_at hl 5 rfl) ?_
  refine lv_iconst (v := (nI 4)) hx hb dL_law_429 (by decide) ?_
  refine lv_iadd hx hb dL_law_430 ?_
  refine kq_ti (y := (nI (i + 4))) (nI_add i 4) ?_
  refine ks_ld hx hb hT hS hL (j := i + 4) (by omega) dL_law_431 ?_
  refine lv_i2l (v := (xs (i + 4)).toInt64) hx hb dL_law_432 rfl ?_
  refine lv_ldc2 hx hb hown (hts _ mb_856) dL_law_433 ?_
  refine lv_land hx hb dL_law_436 ?_
  refine lv_lor hx hb dL_law_437 ?_
  refine lv_aload_n hx hb dL_law_438 rfl (lv_at hl 0 rfl) ?_
  refine lv_iload hx hb dL_law_439 (lv_at hl 5 rfl) ?_
  refine lv_iconst (v := (nI 5)) hx hb dL_law_441 (by decide) ?_
  refine lv_iadd hx hb dL_law_442 ?_
  refine kq_ti (y := (nI (i + 5))) (nI_add i 5) ?_
  refine ks_ld hx hb hT hS hL (j := i + 5) (by omega) dL_law_443 ?_
  refine lv_aload_n hx hb dL_law_444 rfl (lv_at hl 0 rfl) ?_
  refine lv_iload hx hb dL_law_445 (lv_at hl 5 rfl) ?_
  refine lv_bipush (v := (nI 6)) hx hb dL_law_447 (by decide) ?_
  refine lv_iadd hx hb dL_law_449 ?_
  refine kq_ti (y := (nI (i + 6))) (nI_add i 6) ?_
  refine ks_ld hx hb hT hS hL (j := i + 6) (by omega) dL_law_450 ?_
  refine lv_i2l (v := (xs (i + 6)).toInt64) hx hb dL_law_451 rfl ?_
  refine lv_bipush (v := (nI 32)) hx hb dL_law_452 (by decide) ?_
  refine lv_lshl (v := ((xs (i + 6)).toInt64) <<< ((nI 32).toInt64 &&& 63)) hx hb dL_law_454 rfl ?_
  refine lv_aload_n hx hb dL_law_455 rfl (lv_at hl 0 rfl) ?_
  refine lv_iload hx hb dL_law_456 (lv_at hl 5 rfl) ?_
  refine lv_bipush (v := (nI 7)) hx hb dL_law_458 (by decide) ?_
  refine lv_iadd hx hb dL_law_460 ?_
  refine kq_ti (y := (nI (i + 7))) (nI_add i 7) ?_
  refine ks_ld hx hb hT hS hL (j := i + 7) (by omega) dL_law_461 ?_
  refine lv_i2l (v := (xs (i + 7)).toInt64) hx hb dL_law_462 rfl ?_
  refine lv_ldc2 hx hb hown (hts _ mb_856) dL_law_463 ?_
  refine lv_land hx hb dL_law_466 ?_
  refine lv_lor hx hb dL_law_467 ?_
  refine kq_call (st1 := [.int k]) (vx_runSW (hh := [(0, 11, 14, 13), (0, 11, 18, 19), (0, 11, 22, 29), (0, 11, 26, 31)]) ⟨hx, hb, hml, hown, hts⟩ (hW (fun q : Nat => s.heap.size ≤ q)) (vx_cwSW 6 hts gL_120_L_create rfl rfl rfl (by decide +kernel) ⟨Nat.le_of_ble_eq_true rfl, Nat.le_of_ble_eq_true rfl⟩) ⟨kq_blind tm_Gok, kq_pre hK hP hD (fun _ h => h) tm_Gok hG hS⟩ rfl rfl hl.1 rfl (lv_room (Nat.le_of_ble_eq_true rfl)) dL_law_468 ⟨hc, hs⟩) hS rfl (fun H locs hP hD hS => ?_)
  refine lv_istore (lv' := [(6, .int k), (0, .ref b), (1, .ref (ad 0)), (2, .ref (ad 36)), (3, .ref (ad 55)), (4, .ref (ad 56)), (5, .int (nI i))]) hx hb dL_law_471 hl (by decide) rfl (fun ls hl => ?_)
  refine lv_aload_n hx hb dL_law_473 rfl (lv_at hl 3 rfl) ?_
  refine lv_aload_n hx hb dL_law_474 rfl (lv_at hl 1 rfl) ?_
  refine lv_iload hx hb dL_law_475 (lv_at hl 6 rfl) ?_
  refine lv_iconst (v := (nI 1)) hx hb dL_law_477 (by decide) ?_
  refine lv_iadd hx hb dL_law_478 ?_
  refine kq_ti (y := (nI (i + 1))) (nI_add i 1) ?_
  refine ks_ld hx hb hT hS hL (j := i + 1) (by omega) dL_law_479 ?_
  refine lv_aload_n hx hb dL_law_480 rfl (lv_at hl 1 rfl) ?_
  refine lv_iload hx hb dL_law_481 (lv_at hl 6 rfl) ?_
  refine lv_iconst (v := (nI 2)) hx hb dL_law_483 (by decide) ?_
  refine lv_iadd hx hb dL_law_484 ?_
  refine kq_ti (y := (nI (i + 2))) (nI_add i 2) ?_
  refine ks_ld hx hb hT hS hL (j := i + 2) (by omega) dL_law_485 ?_
  refine lv_aload_n hx hb dL_law_486 rfl (lv_at hl 1 rfl) ?_
  refine lv_iload hx hb dL_law_487 (lv_at hl 6 rfl) ?_
  refine lv_iconst (v := (nI 3)) hx hb dL_law_489 (by decide) ?_
  refine lv_iadd hx hb dL_law_490 ?_
  refine kq_ti (y := (nI (i + 3))) (nI_add i 3) ?_
  refine ks_ld hx hb hT hS hL (j := i + 3) (by omega) dL_law_491 ?_
  refine lv_i2l (v := (xs (i + 3)).toInt64) hx hb dL_law_492 rfl ?_
  refine lv_bipush (v := (nI 32)) hx hb dL_law_493 (by decide) ?_
  refine lv_lshl (v := ((xs (i + 3)).toInt64) <<< ((nI 32).toInt64 &&& 63)) hx hb dL_law_495 rfl ?_
  refine lv_aload_n hx hb dL_law_496 rfl (lv_at hl 1 rfl) ?_
  refine lv_iload hx hb dL_law_497 (lv_at hl 6 rfl) ?_
  refine lv_iconst (v := (nI 4)) hx hb dL_law_499 (by decide) ?_
  refine lv_iadd hx hb dL_law_500 ?_
  refine kq_ti (y := (nI (i + 4))) (nI_add i 4) ?_
  refine ks_ld hx hb hT hS hL (j := i + 4) (by omega) dL_law_501 ?_
  refine lv_i2l (v := (xs (i + 4)).toInt64) hx hb dL_law_502 rfl ?_
  refine lv_ldc2 hx hb hown (hts _ mb_856) dL_law_503 ?_
  refine lv_land hx hb dL_law_506 ?_
  refine lv_lor hx hb dL_law_507 ?_
  refine lv_aload_n hx hb dL_law_508 rfl (lv_at hl 1 rfl) ?_
  refine lv_iload hx hb dL_law_509 (lv_at hl 6 rfl) ?_
  refine lv_iconst (v := (nI 5)) hx hb dL_law_511 (by decide) ?_
  refine lv_iadd hx hb dL_law_512 ?_
  refine kq_ti (y := (nI (i + 5))) (nI_add i 5) ?_
  refine ks_ld hx hb hT hS hL (j := i + 5) (by omega) dL_law_513 ?_
  refine lv_aload_n hx hb dL_law_514 rfl (lv_at hl 1 rfl) ?_
  refine lv_iload hx hb dL_law_515 (lv_at hl 6 rfl) ?_
  refine lv_bipush (v := (nI 6)) hx hb dL_law_517 (by decide) ?_
  refine lv_iadd hx hb dL_law_519 ?_
  refine kq_ti (y := (nI (i + 6))) (nI_add i 6) ?_
  refine ks_ld hx hb hT hS hL (j := i + 6) (by omega) dL_law_520 ?_
  refine lv_i2l (v := (xs (i + 6)).toInt64) hx hb dL_law_521 rfl ?_
  refine lv_bipush (v := (nI 32)) hx hb dL_law_522 (by decide) ?_
  refine lv_lshl (v := ((xs (i + 6)).toInt64) <<< ((nI 32).toInt64 &&& 63)) hx hb dL_law_524 rfl ?_
  refine lv_aload_n hx hb dL_law_525 rfl (lv_at hl 1 rfl) ?_
  refine lv_iload hx hb dL_law_526 (lv_at hl 6 rfl) ?_
  refine lv_bipush (v := (nI 7)) hx hb dL_law_528 (by decide) ?_
  refine lv_iadd hx hb dL_law_530 ?_
  refine kq_ti (y := (nI (i + 7))) (nI_add i 7) ?_
  refine ks_ld hx hb hT hS hL (j := i + 7) (by omega) dL_law_531 ?_
  refine lv_i2l (v := (xs (i + 7)).toInt64) hx hb dL_law_532 rfl ?_
  refine lv_ldc2 hx hb hown (hts _ mb_856) dL_law_533 ?_
  refine lv_land hx hb dL_law_536 ?_
  refine lv_lor hx hb dL_law_537 ?_
  refine kl_rV (st1 := []) ⟨hx, hb, hml, hown, hts⟩ hRf (cwV 5 hts gL_123_X5_create rfl rfl rfl (by decide +kernel) ⟨Nat.le_of_ble_eq_true rfl, Nat.le_of_ble_eq_true rfl⟩) hK hP hD (fun _ h => h) hS rfl hl.1 rfl rfl (Nat.le_of_ble_eq_true rfl) dL_law_538 ⟨hc, hs⟩ (fun H locs hP hD hS => ?_)
  refine lv_aload_n hx hb dL_law_541 rfl (lv_at hl 3 rfl) ?_
  refine kl_rV (st1 := [.int (v1.2.1 14 0)]) ⟨hx, hb, hml, hown, hts⟩ (r_thrown v1) (cwV 0 hts gL_106_X5_thrown rfl rfl rfl (by decide +kernel) ⟨Nat.le_of_ble_eq_true rfl, Nat.le_of_ble_eq_true rfl⟩) hK hP hD (fun _ h => h) hS rfl hl.1 rfl rfl (Nat.le_of_ble_eq_true rfl) dL_law_542 ⟨hc, hs⟩ (fun H locs hP hD hS => ?_)
  refine lv_iload hx hb dL_law_545 (lv_at hl 0 rfl) ?_
  refine lv_icmp_eq (tgt := 552) hx hb dL_law_547 (by decide) (fun _ => ?_) (fun c => absurd hth c)
  refine lv_goto (tgt := 1778) hx hb dL_law_552 (by decide) ?_
  exact kk u v1 o H locs ls hR hP hD hS (lv_sub hl [1, 2, 3, 4, 5, 6] rfl)
end S35
