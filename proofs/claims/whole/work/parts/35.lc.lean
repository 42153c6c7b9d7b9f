section S35
variable {l : Launch} {dC : Nat → ClassId} {dI : Nat → Nat → Nat} {gs : Nat → Nat} {ad : Nat → Nat} {cc cr : Nat → ClassId} {cd : ClassId}
set_option maxHeartbeats 8000000 in
set_option maxRecDepth 100000 in
theorem lc_session {p : Program} {l : Launch} {e : Env} {s : State} {m : MethodId} {below : List Frame} {meth : Method} {c : Code} {Q : State → Prop} {b L : Nat} {xs : Nat → Int32} {u v : tm_S} {o : Int64 × UInt64} {H : Heap} {locs : List Loc} {cells slots : Nat} {ls : Array Slot} {i : Nat}
    (hl9 : l.stackTraces = false) (hx : p.tables.exec = Jvm.exec) (hb : c.code = code) (hml : c.maxLocals = 10) (hown : s.vm.findClass RL = some m.cls) (hts : ∀ w ∈ tm_B, w.before #[Value.ref b] s = true) (hT : va_T .int b L (fun j => .int (xs j)) (fun q : Nat => s.heap.size ≤ q) s s.heap) (hL : L ≤ 4097)
    (hK : va_K (dC, dI) vwCl (tl_ty cc cr cd) s) (hG : tm_G gs (fun q : Nat => s.heap.size ≤ q) s) (hi : i + 8 ≤ L) (hR : tm_R u v) (hP : va_P (dC, dI) vwCl (tl_w ad cc cr cd u v o) H) (hD : va_D (fun q : Nat => s.heap.size ≤ q) (tl_w ad cc cr cd u v o)) (hS : va_S (fun q : Nat => s.heap.size ≤ q) s.heap H locs)
    (hl : lv_has ls 10 [(0, .ref b), (1, .ref (ad 0)), (2, .ref (ad 36)), (3, .ref (ad 55)), (4, .ref (ad 56)), (5, .int (nI i))]) (hc : cells + 1 ≤ 667648) (hs : slots + 6 ≤ 7093125)
    (kk : ∀ (u v : tm_S) (o : Int64 × UInt64) (H : Heap) (locs : List Loc) (ls : Array Slot), tm_R u v → va_P (dC, dI) vwCl (tl_w ad cc cr cd u v o) H → va_D (fun q : Nat => s.heap.size ≤ q) (tl_w ad cc cr cd u v o) → va_S (fun q : Nat => s.heap.size ≤ q) s.heap H locs → lv_has ls 10 [(0, .ref b), (1, .ref (ad 0)), (2, .ref (ad 36)), (3, .ref (ad 55)), (4, .ref (ad 56)), (5, .int (nI i))] → W p l e room_1 s m #[Value.ref b] below meth c H locs (cells + 1) (slots + 6) Q (F0 m 1778 ls [])) :
    W p l e room_1 s m #[Value.ref b] below meth c H locs cells slots Q (F0 m 885 ls []) := by
  obtain ⟨k, u, v1, o, hW, hRf, hth, hR⟩ := op_session (dC := dC) (dI := dI) (gs := gs) (ad := ad) (cc := cc) (cr := cr) (cd := cd) hl9 o hR (xs (i + 1))
  refine lv_aload_n hx hb dL_law_885 rfl (lv_at hl 1 rfl) ?_
  refine lv_aload_n hx hb dL_law_886 rfl (lv_at hl 0 rfl) ?_
  refine lv_iload hx hb dL_law_887 (lv_at hl 5 rfl) ?_
  refine lv_iconst (v := (nI 1)) hx hb dL_law_889 (by decide) ?_
  refine lv_iadd hx hb dL_law_890 ?_
  refine kq_ti (y := (nI (i + 1))) (nI_add i 1) ?_
  refine ks_ld hx hb hT hS hL (j := i + 1) (by omega) dL_law_891 ?_
  refine kq_call (st1 := [.int k]) (vx_runSW (hh := [(0, 5, 8, 13), (0, 5, 11, 19)]) ⟨hx, hb, hml, hown, hts⟩ (hW (fun q : Nat => s.heap.size ≤ q)) (vx_cwSW 2 hts gL_141_L_session rfl rfl rfl (by decide +kernel) ⟨Nat.le_of_ble_eq_true rfl, Nat.le_of_ble_eq_true rfl⟩) ⟨kq_blind tm_Gok, kq_pre hK hP hD (fun _ h => h) tm_Gok hG hS⟩ rfl rfl hl.1 rfl (lv_room (Nat.le_of_ble_eq_true rfl)) dL_law_892 ⟨hc, hs⟩) hS rfl (fun H locs hP hD hS => ?_)
  refine lv_istore (lv' := [(6, .int k), (0, .ref b), (1, .ref (ad 0)), (2, .ref (ad 36)), (3, .ref (ad 55)), (4, .ref (ad 56)), (5, .int (nI i))]) hx hb dL_law_895 hl (by decide) rfl (fun ls hl => ?_)
  refine lv_aload_n hx hb dL_law_897 rfl (lv_at hl 3 rfl) ?_
  refine lv_aload_n hx hb dL_law_898 rfl (lv_at hl 1 rfl) ?_
  refine lv_iload hx hb dL_law_899 (lv_at hl 6 rfl) ?_
  refine lv_iconst (v := (nI 1)) hx hb dL_law_901 (by decide) ?_
  refine lv_iadd hx hb dL_law_902 ?_
  refine kq_ti (y := (nI (i + 1))) (nI_add i 1) ?_
  refine ks_ld hx hb hT hS hL (j := i + 1) (by omega) dL_law_903 ?_
  refine kl_rV (st1 := []) ⟨hx, hb, hml, hown, hts⟩ hRf (cwV 1 hts gL_143_X5_session rfl rfl rfl (by decide +kernel) ⟨Nat.le_of_ble_eq_true rfl, Nat.le_of_ble_eq_true rfl⟩) hK hP hD (fun _ h => h) hS rfl hl.1 rfl rfl (Nat.le_of_ble_eq_true rfl) dL_law_904 ⟨hc, hs⟩ (fun H locs hP hD hS => ?_)
  refine lv_aload_n hx hb dL_law_907 rfl (lv_at hl 3 rfl) ?_
  refine kl_rV (st1 := [.int (v1.2.1 14 0)]) ⟨hx, hb, hml, hown, hts⟩ (r_thrown v1) (cwV 0 hts gL_106_X5_thrown rfl rfl rfl (by decide +kernel) ⟨Nat.le_of_ble_eq_true rfl, Nat.le_of_ble_eq_true rfl⟩) hK hP hD (fun _ h => h) hS rfl hl.1 rfl rfl (Nat.le_of_ble_eq_true rfl) dL_law_908 ⟨hc, hs⟩ (fun H locs hP hD hS => ?_)
  refine lv_iload hx hb dL_law_911 (lv_at hl 0 rfl) ?_
  refine lv_icmp_eq (tgt := 918) hx hb dL_law_913 (by decide) (fun _ => ?_) (fun c => absurd hth c)
  refine lv_goto (tgt := 1778) hx hb dL_law_918 (by decide) ?_
  exact kk u v1 o H locs ls hR hP hD hS (lv_sub hl [1, 2, 3, 4, 5, 6] rfl)
set_option maxHeartbeats 8000000 in
set_option maxRecDepth 100000 in
theorem lc_pcr {p : Program} {l : Launch} {e : Env} {s : State} {m : MethodId} {below : List Frame} {meth : Method} {c : Code} {Q : State → Prop} {b L : Nat} {xs : Nat → Int32} {u v : tm_S} {o : Int64 × UInt64} {H : Heap} {locs : List Loc} {cells slots : Nat} {ls : Array Slot} {i : Nat}
    (hl9 : l.stackTraces = false) (hx : p.tables.exec = Jvm.exec) (hb : c.code = code) (hml : c.maxLocals = 10) (hown : s.vm.findClass RL = some m.cls) (hts : ∀ w ∈ tm_B, w.before #[Value.ref b] s = true) (hT : va_T .int b L (fun j => .int (xs j)) (fun q : Nat => s.heap.size ≤ q) s s.heap) (hL : L ≤ 4097)
    (hK : va_K (dC, dI) vwCl (tl_ty cc cr cd) s) (hG : tm_G gs (fun q : Nat => s.heap.size ≤ q) s) (hi : i + 8 ≤ L) (hR : tm_R u v) (hP : va_P (dC, dI) vwCl (tl_w ad cc cr cd u v o) H) (hD : va_D (fun q : Nat => s.heap.size ≤ q) (tl_w ad cc cr cd u v o)) (hS : va_S (fun q : Nat => s.heap.size ≤ q) s.heap H locs)
    (hl : lv_has ls 10 [(0, .ref b), (1, .ref (ad 0)), (2, .ref (ad 36)), (3, .ref (ad 55)), (4, .ref (ad 56)), (5, .int (nI i))]) (hc : cells + 1 ≤ 667648) (hs : slots + 6 ≤ 7093125)
    (kk : ∀ (u v : tm_S) (o : Int64 × UInt64) (H : Heap) (locs : List Loc) (ls : Array Slot), tm_R u v → va_P (dC, dI) vwCl (tl_w ad cc cr cd u v o) H → va_D (fun q : Nat => s.heap.size ≤ q) (tl_w ad cc cr cd u v o) → va_S (fun q : Nat => s.heap.size ≤ q) s.heap H locs → lv_has ls 10 [(0, .ref b), (1, .ref (ad 0)), (2, .ref (ad 36)), (3, .ref (ad 55)), (4, .ref (ad 56)), (5, .int (nI i))] → W p l e room_1 s m #[Value.ref b] below meth c H locs (cells + 1) (slots + 6) Q (F0 m 1778 ls [])) :
    W p l e room_1 s m #[Value.ref b] below meth c H locs cells slots Q (F0 m 921 ls []) := by
  obtain ⟨k, u, v1, o, b9, hW, hRf, hth, hout, hR⟩ := op_pcr (dC := dC) (dI := dI) (gs := gs) (ad := ad) (cc := cc) (cr := cr) (cd := cd) hl9 o hR (xs (i + 1)) (xs (i + 2)) (xs (i + 3))
  refine lv_aload_n hx hb dL_law_921 rfl (lv_at hl 1 rfl) ?_
  refine lv_aload_n hx hb dL_law_922 rfl (lv_at hl 0 rfl) ?_
  refine lv_iload hx hb dL_law_923 (lv_at hl 5 rfl) ?_
  refine lv_iconst (v := (nI 1)) hx hb dL_law_925 (by decide) ?_
  refine lv_iadd hx hb dL_law_926 ?_
  refine kq_ti (y := (nI (i + 1))) (nI_add i 1) ?_
  refine ks_ld hx hb hT hS hL (j := i + 1) (by omega) dL_law_927 ?_
  refine lv_aload_n hx hb dL_law_928 rfl (lv_at hl 0 rfl) ?_
  refine lv_iload hx hb dL_law_929 (lv_at hl 5 rfl) ?_
  refine lv_iconst (v := (nI 2)) hx hb dL_law_931 (by decide) ?_
  refine lv_iadd hx hb dL_law_932 ?_
  refine kq_ti (y := (nI (i + 2))) (nI_add i 2) ?_
  refine ks_ld hx hb hT hS hL (j := i + 2) (by omega) dL_law_933 ?_
  refine lv_aload_n hx hb dL_law_934 rfl (lv_at hl 0 rfl) ?_
  refine lv_iload hx hb dL_law_935 (lv_at hl 5 rfl) ?_
  refine lv_iconst (v := (nI 3)) hx hb dL_law_937 (by decide) ?_
  refine lv_iadd hx hb dL_law_938 ?_
  refine kq_ti (y := (nI (i + 3))) (nI_add i 3) ?_
  refine ks_ld hx hb hT hS hL (j := i + 3) (by omega) dL_law_939 ?_
  refine lv_aload_n hx hb dL_law_940 rfl (lv_at hl 3 rfl) ?_
  refine kq_call (st1 := [.int k]) (vx_runSW (hh := [(0, 11, 14, 13), (0, 11, 18, 19)]) ⟨hx, hb, hml, hown, hts⟩ (hW (fun q : Nat => s.heap.size ≤ q)) (vx_cwSW 5 hts gL_144_L_pcr rfl rfl rfl (by decide +kernel) ⟨Nat.le_of_ble_eq_true rfl, Nat.le_of_ble_eq_true rfl⟩) ⟨kq_blind tm_Gok, kq_pre hK hP hD (fun _ h => h) tm_Gok hG hS⟩ rfl rfl hl.1 rfl (lv_room (Nat.le_of_ble_eq_true rfl)) dL_law_941 ⟨hc, hs⟩) hS rfl (fun H locs hP hD hS => ?_)
  refine lv_istore (lv' := [(6, .int k), (0, .ref b), (1, .ref (ad 0)), (2, .ref (ad 36)), (3, .ref (ad 55)), (4, .ref (ad 56)), (5, .int (nI i))]) hx hb dL_law_944 hl (by decide) rfl (fun ls hl => ?_)
  refine lv_aload_n hx hb dL_law_946 rfl (lv_at hl 3 rfl) ?_
  refine lv_aload_n hx hb dL_law_947 rfl (lv_at hl 1 rfl) ?_
  refine lv_iload hx hb dL_law_948 (lv_at hl 6 rfl) ?_
  refine lv_iconst (v := (nI 1)) hx hb dL_law_950 (by decide) ?_
  refine lv_iadd hx hb dL_law_951 ?_
  refine kq_ti (y := (nI (i + 1))) (nI_add i 1) ?_
  refine ks_ld hx hb hT hS hL (j := i + 1) (by omega) dL_law_952 ?_
  refine lv_aload_n hx hb dL_law_953 rfl (lv_at hl 1 rfl) ?_
  refine lv_iload hx hb dL_law_954 (lv_at hl 6 rfl) ?_
  refine lv_iconst (v := (nI 2)) hx hb dL_law_956 (by decide) ?_
  refine lv_iadd hx hb dL_law_957 ?_
  refine kq_ti (y := (nI (i + 2))) (nI_add i 2) ?_
  refine ks_ld hx hb hT hS hL (j := i + 2) (by omega) dL_law_958 ?_
  refine lv_aload_n hx hb dL_law_959 rfl (lv_at hl 1 rfl) ?_
  refine lv_iload hx hb dL_law_960 (lv_at hl 6 rfl) ?_
  refine lv_iconst (v := (nI 3)) hx hb dL_law_962 (by decide) ?_
  refine lv_iadd hx hb dL_law_963 ?_
  refine kq_ti (y := (nI (i + 3))) (nI_add i 3) ?_
  refine ks_ld hx hb hT hS hL (j := i + 3) (by omega) dL_law_964 ?_
  refine kl_rV (st1 := [.long b9]) ⟨hx, hb, hml, hown, hts⟩ hRf (cwV 3 hts gL_147_X5_pcr rfl rfl rfl (by decide +kernel) ⟨Nat.le_of_ble_eq_true rfl, Nat.le_of_ble_eq_true rfl⟩) hK hP hD (fun _ h => h) hS rfl hl.1 rfl rfl (Nat.le_of_ble_eq_true rfl) dL_law_965 ⟨hc, hs⟩ (fun H locs hP hD hS => ?_)
  refine lv_lstore (lv' := [(7, .long b9), (6, .int k), (0, .ref b), (1, .ref (ad 0)), (2, .ref (ad 36)), (3, .ref (ad 55)), (4, .ref (ad 56)), (5, .int (nI i))]) hx hb dL_law_968 hl (by decide) rfl (fun ls hl => ?_)
  refine lv_aload_n hx hb dL_law_970 rfl (lv_at hl 4 rfl) ?_
  refine kl_rV (st1 := [.int (v1.2.1 14 0)]) ⟨hx, hb, hml, hown, hts⟩ (r_thrown v1) (cwV 0 hts gL_106_X5_thrown rfl rfl rfl (by decide +kernel) ⟨Nat.le_of_ble_eq_true rfl, Nat.le_of_ble_eq_true rfl⟩) hK hP hD (fun _ h => h) hS rfl hl.1 rfl rfl (Nat.le_of_ble_eq_true rfl) dL_law_971 ⟨hc, hs⟩ (fun H locs hP hD hS => ?_)
  refine lv_iload hx hb dL_law_974 (lv_at hl 1 rfl) ?_
  refine lv_icmp_eq (tgt := 981) hx hb dL_law_976 (by decide) (fun _ => ?_) (fun c => absurd hth c)
  by_cases hk : k = 0
  · refine lv_iload hx hb dL_law_981 (lv_at hl 1 rfl) ?_
    refine lv_if_ne (tgt := 997) hx hb dL_law_983 (by decide) (fun c => absurd hk c) (fun _ => ?_)
    refine lv_aload_n hx hb dL_law_986 rfl (lv_at hl 5 rfl) ?_
    refine lv_iconst (v := (nI 0)) hx hb dL_law_987 (by decide) ?_
    refine tl_l5 hx hb hK hP dL_law_988 ?_
    refine lv_lload hx hb dL_law_989 (lv_at hl 0 rfl) ?_
    refine W.lcmp hx hb dL_law_991 ?_
    refine lv_if_eq (tgt := 997) hx hb dL_law_992 (by decide) (fun _ => ?_) (fun c => absurd (tm_cmp0.mpr (hout (hk.trans nI_0.symm))) c)
    refine lv_goto (tgt := 1778) hx hb dL_law_997 (by decide) ?_
    exact kk u v1 o H locs ls hR hP hD hS (lv_sub hl [2, 3, 4, 5, 6, 7] rfl)
  · refine lv_iload hx hb dL_law_981 (lv_at hl 1 rfl) ?_
    refine lv_if_ne (tgt := 997) hx hb dL_law_983 (by decide) (fun _ => ?_) (fun c => absurd c hk)
    refine lv_goto (tgt := 1778) hx hb dL_law_997 (by decide) ?_
    exact kk u v1 o H locs ls hR hP hD hS (lv_sub hl [2, 3, 4, 5, 6, 7] rfl)
set_option maxHeartbeats 8000000 in
set_option maxRecDepth 100000 in
theorem lc_either {p : Program} {l : Launch} {e : Env} {s : State} {m : MethodId} {below : List Frame} {meth : Method} {c : Code} {Q : State → Prop} {b L : Nat} {xs : Nat → Int32} {u v : tm_S} {o : Int64 × UInt64} {H : Heap} {locs : List Loc} {cells slots : Nat} {ls : Array Slot} {i : Nat}
    (hl9 : l.stackTraces = false) (hx : p.tables.exec = Jvm.exec) (hb : c.code = code) (hml : c.maxLocals = 10) (hown : s.vm.findClass RL = some m.cls) (hts : ∀ w ∈ tm_B, w.before #[Value.ref b] s = true) (hT : va_T .int b L (fun j => .int (xs j)) (fun q : Nat => s.heap.size ≤ q) s s.heap) (hL : L ≤ 4097)
    (hK : va_K (dC, dI) vwCl (tl_ty cc cr cd) s) (hG : tm_G gs (fun q : Nat => s.heap.size ≤ q) s) (hi : i + 8 ≤ L) (hR : tm_R u v) (hP : va_P (dC, dI) vwCl (tl_w ad cc cr cd u v o) H) (hD : va_D (fun q : Nat => s.heap.size ≤ q) (tl_w ad cc cr cd u v o)) (hS : va_S (fun q : Nat => s.heap.size ≤ q) s.heap H locs)
    (hl : lv_has ls 10 [(0, .ref b), (1, .ref (ad 0)), (2, .ref (ad 36)), (3, .ref (ad 55)), (4, .ref (ad 56)), (5, .int (nI i))]) (hc : cells + 1 ≤ 667648) (hs : slots + 6 ≤ 7093125)
    (kk : ∀ (u v : tm_S) (o : Int64 × UInt64) (H : Heap) (locs : List Loc) (ls : Array Slot), tm_R u v → va_P (dC, dI) vwCl (tl_w ad cc cr cd u v o) H → va_D (fun q : Nat => s.heap.size ≤ q) (tl_w ad cc cr cd u v o) → va_S (fun q : Nat => s.heap.size ≤ q) s.heap H locs → lv_has ls 10 [(0, .ref b), (1, .ref (ad 0)), (2, .ref (ad 36)), (3, .ref (ad 55)), (4, .ref (ad 56)), (5, .int (nI i))] → W p l e room_1 s m #[Value.ref b] below meth c H locs (cells + 1) (slots + 6) Q (F0 m 1778 ls [])) :
    W p l e room_1 s m #[Value.ref b] below meth c H locs cells slots Q (F0 m 1000 ls []) := by
  obtain ⟨k, u, v1, o, b9, hW, hRf, hth, hout, hR⟩ := op_either (dC := dC) (dI := dI) (gs := gs) (ad := ad) (cc := cc) (cr := cr) (cd := cd) hl9 o hR (xs (i + 1)) ((((xs (i + 2)).toInt64) <<< ((nI 32).toInt64 &&& 63)) ||| (((xs (i + 3)).toInt64) &&& 4294967295)) ((((xs (i + 4)).toInt64) <<< ((nI 32).toInt64 &&& 63)) ||| (((xs (i + 5)).toInt64) &&& 4294967295))
  refine lv_aload_n hx hb dL_law_1000 rfl (lv_at hl 1 rfl) ?_
  refine lv_aload_n hx hb dL_law_1001 rfl (lv_at hl 0 rfl) ?_
  refine lv_iload hx hb dL_law_1002 (lv_at hl 5 rfl) ?_
  refine lv_iconst (v := (nI 1)) hx hb dL_law_1004 (by decide) ?_
  refine lv_iadd hx hb dL_law_1005 ?_
  refine kq_ti (y := (nI (i + 1))) (nI_add i 1) ?_
  refine ks_ld hx hb hT hS hL (j := i + 1) (by omega) dL_law_1006 ?_
  refine lv_aload_n hx hb dL_law_1007 rfl (lv_at hl 0 rfl) ?_
  refine lv_iload hx hb dL_law_1008 (lv_at hl 5 rfl) ?_
  refine lv_iconst (v := (nI 2)) hx hb dL_law_1010 (by decide) ?_
  refine lv_iadd hx hb dL_law_1011 ?_
  refine kq_ti (y := (nI (i + 2))) (nI_add i 2) ?_
  refine ks_ld hx hb hT hS hL (j := i + 2) (by omega) dL_law_1012 ?_
  refine lv_i2l (v := (xs (i + 2)).toInt64) hx hb dL_law_1013 rfl ?_
  refine lv_bipush (v := (nI 32)) hx hb dL_law_1014 (by decide) ?_
  refine lv_lshl (v := ((xs (i + 2)).toInt64) <<< ((nI 32).toInt64 &&& 63)) hx hb dL_law_1016 rfl ?_
  refine lv_aload_n hx hb dL_law_1017 rfl (lv_at hl 0 rfl) ?_
  refine lv_iload hx hb dL_law_1018 (lv_at hl 5 rfl) ?_
  refine lv_iconst (v := (nI 3)) hx hb dL_law_1020 (by decide) ?_
  refine lv_iadd hx hb dL_law_1021 ?_
  refine kq_ti (y := (nI (i + 3))) (nI_add i 3) ?_
  refine ks_ld hx hb hT hS hL (j := i + 3) (by omega) dL_law_1022 ?_
  refine lv_i2l (v := (xs (i + 3)).toInt64) hx hb dL_law_1023 rfl ?_
  refine lv_ldc2 hx hb hown (hts _ mb_856) dL_law_1024 ?_
  refine lv_land hx hb dL_law_1027 ?_
  refine lv_lor hx hb dL_law_1028 ?_
  refine lv_aload_n hx hb dL_law_1029 rfl (lv_at hl 0 rfl) ?_
  refine lv_iload hx hb dL_law_1030 (lv_at hl 5 rfl) ?_
  refine lv_iconst (v := (nI 4)) hx hb dL_law_1032 (by decide) ?_
  refine lv_iadd hx hb dL_law_1033 ?_
  refine kq_ti (y := (nI (i + 4))) (nI_add i 4) ?_
  refine ks_ld hx hb hT hS hL (j := i + 4) (by omega) dL_law_1034 ?_
  refine lv_i2l (v := (xs (i + 4)).toInt64) hx hb dL_law_1035 rfl ?_
  refine lv_bipush (v := (nI 32)) hx hb dL_law_1036 (by decide) ?_
  refine lv_lshl (v := ((xs (i + 4)).toInt64) <<< ((nI 32).toInt64 &&& 63)) hx hb dL_law_1038 rfl ?_
  refine lv_aload_n hx hb dL_law_1039 rfl (lv_at hl 0 rfl) ?_
  refine lv_iload hx hb dL_law_1040 (lv_at hl 5 rfl) ?_
  refine lv_iconst (v := (nI 5)) hx hb dL_law_1042 (by decide) ?_
  refine lv_iadd hx hb dL_law_1043 ?_
  refine kq_ti (y := (nI (i + 5))) (nI_add i 5) ?_
  refine ks_ld hx hb hT hS hL (j := i + 5) (by omega) dL_law_1044 ?_
  refine lv_i2l (v := (xs (i + 5)).toInt64) hx hb dL_law_1045 rfl ?_
  refine lv_ldc2 hx hb hown (hts _ mb_856) dL_law_1046 ?_
  refine lv_land hx hb dL_law_1049 ?_
  refine lv_lor hx hb dL_law_1050 ?_
  refine lv_aload_n hx hb dL_law_1051 rfl (lv_at hl 3 rfl) ?_
  refine kq_call (st1 := [.int k]) (vx_runSW (hh := [(0, 12, 15, 13), (0, 12, 19, 19), (0, 12, 23, 31)]) ⟨hx, hb, hml, hown, hts⟩ (hW (fun q : Nat => s.heap.size ≤ q)) (vx_cwSW 5 hts gL_148_L_either rfl rfl rfl (by decide +kernel) ⟨Nat.le_of_ble_eq_true rfl, Nat.le_of_ble_eq_true rfl⟩) ⟨kq_blind tm_Gok, kq_pre hK hP hD (fun _ h => h) tm_Gok hG hS⟩ rfl rfl hl.1 rfl (lv_room (Nat.le_of_ble_eq_true rfl)) dL_law_1052 ⟨hc, hs⟩) hS rfl (fun H locs hP hD hS => ?_)
  refine lv_istore (lv' := [(6, .int k), (0, .ref b), (1, .ref (ad 0)), (2, .ref (ad 36)), (3, .ref (ad 55)), (4, .ref (ad 56)), (5, .int (nI i))]) hx hb dL_law_1055 hl (by decide) rfl (fun ls hl => ?_)
  refine lv_aload_n hx hb dL_law_1057 rfl (lv_at hl 3 rfl) ?_
  refine lv_aload_n hx hb dL_law_1058 rfl (lv_at hl 1 rfl) ?_
  refine lv_iload hx hb dL_law_1059 (lv_at hl 6 rfl) ?_
  refine lv_iconst (v := (nI 1)) hx hb dL_law_1061 (by decide) ?_
  refine lv_iadd hx hb dL_law_1062 ?_
  refine kq_ti (y := (nI (i + 1))) (nI_add i 1) ?_
  refine ks_ld hx hb hT hS hL (j := i + 1) (by omega) dL_law_1063 ?_
  refine lv_aload_n hx hb dL_law_1064 rfl (lv_at hl 1 rfl) ?_
  refine lv_iload hx hb dL_law_1065 (lv_at hl 6 rfl) ?_
  refine lv_iconst (v := (nI 2)) hx hb dL_law_1067 (by decide) ?_
  refine lv_iadd hx hb dL_law_1068 ?_
  refine kq_ti (y := (nI (i + 2))) (nI_add i 2) ?_
  refine ks_ld hx hb hT hS hL (j := i + 2) (by omega) dL_law_1069 ?_
  refine lv_i2l (v := (xs (i + 2)).toInt64) hx hb dL_law_1070 rfl ?_
  refine lv_bipush (v := (nI 32)) hx hb dL_law_1071 (by decide) ?_
  refine lv_lshl (v := ((xs (i + 2)).toInt64) <<< ((nI 32).toInt64 &&& 63)) hx hb dL_law_1073 rfl ?_
  refine lv_aload_n hx hb dL_law_1074 rfl (lv_at hl 1 rfl) ?_
  refine lv_iload hx hb dL_law_1075 (lv_at hl 6 rfl) ?_
  refine lv_iconst (v := (nI 3)) hx hb dL_law_1077 (by decide) ?_
  refine lv_iadd hx hb dL_law_1078 ?_
  refine kq_ti (y := (nI (i + 3))) (nI_add i 3) ?_
  refine ks_ld hx hb hT hS hL (j := i + 3) (by omega) dL_law_1079 ?_
  refine lv_i2l (v := (xs (i + 3)).toInt64) hx hb dL_law_1080 rfl ?_
  refine lv_ldc2 hx hb hown (hts _ mb_856) dL_law_1081 ?_
  refine lv_land hx hb dL_law_1084 ?_
  refine lv_lor hx hb dL_law_1085 ?_
  refine lv_aload_n hx hb dL_law_1086 rfl (lv_at hl 1 rfl) ?_
  refine lv_iload hx hb dL_law_1087 (lv_at hl 6 rfl) ?_
  refine lv_iconst (v := (nI 4)) hx hb dL_law_1089 (by decide) ?_
  refine lv_iadd hx hb dL_law_1090 ?_
  refine kq_ti (y := (nI (i + 4))) (nI_add i 4) ?_
  refine ks_ld hx hb hT hS hL (j := i + 4) (by omega) dL_law_1091 ?_
  refine lv_i2l (v := (xs (i + 4)).toInt64) hx hb dL_law_1092 rfl ?_
  refine lv_bipush (v := (nI 32)) hx hb dL_law_1093 (by decide) ?_
  refine lv_lshl (v := ((xs (i + 4)).toInt64) <<< ((nI 32).toInt64 &&& 63)) hx hb dL_law_1095 rfl ?_
  refine lv_aload_n hx hb dL_law_1096 rfl (lv_at hl 1 rfl) ?_
  refine lv_iload hx hb dL_law_1097 (lv_at hl 6 rfl) ?_
  refine lv_iconst (v := (nI 5)) hx hb dL_law_1099 (by decide) ?_
  refine lv_iadd hx hb dL_law_1100 ?_
  refine kq_ti (y := (nI (i + 5))) (nI_add i 5) ?_
  refine ks_ld hx hb hT hS hL (j := i + 5) (by omega) dL_law_1101 ?_
  refine lv_i2l (v := (xs (i + 5)).toInt64) hx hb dL_law_1102 rfl ?_
  refine lv_ldc2 hx hb hown (hts _ mb_856) dL_law_1103 ?_
  refine lv_land hx hb dL_law_1106 ?_
  refine lv_lor hx hb dL_law_1107 ?_
  refine kl_rV (st1 := [.long b9]) ⟨hx, hb, hml, hown, hts⟩ hRf (cwV 3 hts gL_151_X5_either rfl rfl rfl (by decide +kernel) ⟨Nat.le_of_ble_eq_true rfl, Nat.le_of_ble_eq_true rfl⟩) hK hP hD (fun _ h => h) hS rfl hl.1 rfl rfl (Nat.le_of_ble_eq_true rfl) dL_law_1108 ⟨hc, hs⟩ (fun H locs hP hD hS => ?_)
  refine lv_lstore (lv' := [(7, .long b9), (6, .int k), (0, .ref b), (1, .ref (ad 0)), (2, .ref (ad 36)), (3, .ref (ad 55)), (4, .ref (ad 56)), (5, .int (nI i))]) hx hb dL_law_1111 hl (by decide) rfl (fun ls hl => ?_)
  refine lv_aload_n hx hb dL_law_1113 rfl (lv_at hl 4 rfl) ?_
  refine kl_rV (st1 := [.int (v1.2.1 14 0)]) ⟨hx, hb, hml, hown, hts⟩ (r_thrown v1) (cwV 0 hts gL_106_X5_thrown rfl rfl rfl (by decide +kernel) ⟨Nat.le_of_ble_eq_true rfl, Nat.le_of_ble_eq_true rfl⟩) hK hP hD (fun _ h => h) hS rfl hl.1 rfl rfl (Nat.le_of_ble_eq_true rfl) dL_law_1114 ⟨hc, hs⟩ (fun H locs hP hD hS => ?_)
  refine lv_iload hx hb dL_law_1117 (lv_at hl 1 rfl) ?_
  refine lv_icmp_eq (tgt := 1124) hx hb dL_law_1119 (by decide) (fun _ => ?_) (fun c => absurd hth c)
  by_cases hk : k = 0
  · refine lv_iload hx hb dL_law_1124 (lv_at hl 1 rfl) ?_
    refine lv_if_ne (tgt := 1140) hx hb dL_law_1126 (by decide) (fun c => absurd hk c) (fun _ => ?_)
    refine lv_aload_n hx hb dL_law_1129 rfl (lv_at hl 5 rfl) ?_
    refine lv_iconst (v := (nI 0)) hx hb dL_law_1130 (by decide) ?_
    refine tl_l5 hx hb hK hP dL_law_1131 ?_
    refine lv_lload hx hb dL_law_1132 (lv_at hl 0 rfl) ?_
    refine W.lcmp hx hb dL_law_1134 ?_
    refine lv_if_eq (tgt := 1140) hx hb dL_law_1135 (by decide) (fun _ => ?_) (fun c => absurd (tm_cmp0.mpr (hout (hk.trans nI_0.symm))) c)
    refine lv_goto (tgt := 1778) hx hb dL_law_1140 (by decide) ?_
    exact kk u v1 o H locs ls hR hP hD hS (lv_sub hl [2, 3, 4, 5, 6, 7] rfl)
  · refine lv_iload hx hb dL_law_1124 (lv_at hl 1 rfl) ?_
    refine lv_if_ne (tgt := 1140) hx hb dL_law_1126 (by decide) (fun _ => ?_) (fun c => absurd c hk)
    refine lv_goto (tgt := 1778) hx hb dL_law_1140 (by decide) ?_
    exact kk u v1 o H locs ls hR hP hD hS (lv_sub hl [2, 3, 4, 5, 6, 7] rfl)
set_option maxHeartbeats 8000000 in
set_option maxRecDepth 100000 in
theorem lc_with {p : Program} {l : Launch} {e : Env} {s : State} {m : MethodId} {below : List Frame} {meth : Method} {c : Code} {Q : State → Prop} {b L : Nat} {xs : Nat → Int32} {u v : tm_S} {o : Int64 × UInt64} {H : Heap} {locs : List Loc} {cells slots : Nat} {ls : Array Slot} {i : Nat}
    (hl9 : l.stackTraces = false) (hx : p.tables.exec = Jvm.exec) (hb : c.code = code) (hml : c.maxLocals = 10) (hown : s.vm.findClass RL = some m.cls) (hts : ∀ w ∈ tm_B, w.before #[Value.ref b] s = true) (hT : va_T .int b L (fun j => .int (xs j)) (fun q : Nat => s.heap.size ≤ q) s s.heap) (hL : L ≤ 4097)
    (hK : va_K (dC, dI) vwCl (tl_ty cc cr cd) s) (hG : tm_G gs (fun q : Nat => s.heap.size ≤ q) s) (hi : i + 8 ≤ L) (hR : tm_R u v) (hP : va_P (dC, dI) vwCl (tl_w ad cc cr cd u v o) H) (hD : va_D (fun q : Nat => s.heap.size ≤ q) (tl_w ad cc cr cd u v o)) (hS : va_S (fun q : Nat => s.heap.size ≤ q) s.heap H locs)
    (hl : lv_has ls 10 [(0, .ref b), (1, .ref (ad 0)), (2, .ref (ad 36)), (3, .ref (ad 55)), (4, .ref (ad 56)), (5, .int (nI i))]) (hc : cells + 1 ≤ 667648) (hs : slots + 6 ≤ 7093125)
    (kk : ∀ (u v : tm_S) (o : Int64 × UInt64) (H : Heap) (locs : List Loc) (ls : Array Slot), tm_R u v → va_P (dC, dI) vwCl (tl_w ad cc cr cd u v o) H → va_D (fun q : Nat => s.heap.size ≤ q) (tl_w ad cc cr cd u v o) → va_S (fun q : Nat => s.heap.size ≤ q) s.heap H locs → lv_has ls 10 [(0, .ref b), (1, .ref (ad 0)), (2, .ref (ad 36)), (3, .ref (ad 55)), (4, .ref (ad 56)), (5, .int (nI i))] → W p l e room_1 s m #[Value.ref b] below meth c H locs (cells + 1) (slots + 6) Q (F0 m 1778 ls [])) :
    W p l e room_1 s m #[Value.ref b] below meth c H locs cells slots Q (F0 m 1143 ls []) := by
  obtain ⟨k, u, v1, o, b9, hW, hRf, hth, hout, hR⟩ := op_with (dC := dC) (dI := dI) (gs := gs) (ad := ad) (cc := cc) (cr := cr) (cd := cd) hl9 o hR (xs (i + 1)) (xs (i + 2)) (xs (i + 3))
  refine lv_aload_n hx hb dL_law_1143 rfl (lv_at hl 1 rfl) ?_
  refine lv_aload_n hx hb dL_law_1144 rfl (lv_at hl 0 rfl) ?_
  refine lv_iload hx hb dL_law_1145 (lv_at hl 5 rfl) ?_
  refine lv_iconst (v := (nI 1)) hx hb dL_law_1147 (by decide) ?_
  refine lv_iadd hx hb dL_law_1148 ?_
  refine kq_ti (y := (nI (i + 1))) (nI_add i 1) ?_
  refine ks_ld hx hb hT hS hL (j := i + 1) (by omega) dL_law_1149 ?_
  refine lv_aload_n hx hb dL_law_1150 rfl (lv_at hl 0 rfl) ?_
  refine lv_iload hx hb dL_law_1151 (lv_at hl 5 rfl) ?_
  refine lv_iconst (v := (nI 2)) hx hb dL_law_1153 (by decide) ?_
  refine lv_iadd hx hb dL_law_1154 ?_
  refine kq_ti (y := (nI (i + 2))) (nI_add i 2) ?_
  refine ks_ld hx hb hT hS hL (j := i + 2) (by omega) dL_law_1155 ?_
  refine lv_aload_n hx hb dL_law_1156 rfl (lv_at hl 0 rfl) ?_
  refine lv_iload hx hb dL_law_1157 (lv_at hl 5 rfl) ?_
  refine lv_iconst (v := (nI 3)) hx hb dL_law_1159 (by decide) ?_
  refine lv_iadd hx hb dL_law_1160 ?_
  refine kq_ti (y := (nI (i + 3))) (nI_add i 3) ?_
  refine ks_ld hx hb hT hS hL (j := i + 3) (by omega) dL_law_1161 ?_
  refine lv_aload_n hx hb dL_law_1162 rfl (lv_at hl 3 rfl) ?_
  refine kq_call (st1 := [.int k]) (vx_runSW (hh := [(0, 11, 14, 13), (0, 11, 18, 19), (0, 11, 22, 29), (0, 11, 26, 31)]) ⟨hx, hb, hml, hown, hts⟩ (hW (fun q : Nat => s.heap.size ≤ q)) (vx_cwSW 5 hts gL_152_L_with rfl rfl rfl (by decide +kernel) ⟨Nat.le_of_ble_eq_true rfl, Nat.le_of_ble_eq_true rfl⟩) ⟨kq_blind tm_Gok, kq_pre hK hP hD (fun _ h => h) tm_Gok hG hS⟩ rfl rfl hl.1 rfl (lv_room (Nat.le_of_ble_eq_true rfl)) dL_law_1163 ⟨hc, hs⟩) hS rfl (fun H locs hP hD hS => ?_)
  refine lv_istore (lv' := [(6, .int k), (0, .ref b), (1, .ref (ad 0)), (2, .ref (ad 36)), (3, .ref (ad 55)), (4, .ref (ad 56)), (5, .int (nI i))]) hx hb dL_law_1166 hl (by decide) rfl (fun ls hl => ?_)
  refine lv_aload_n hx hb dL_law_1168 rfl (lv_at hl 3 rfl) ?_
  refine lv_aload_n hx hb dL_law_1169 rfl (lv_at hl 1 rfl) ?_
  refine lv_iload hx hb dL_law_1170 (lv_at hl 6 rfl) ?_
  refine lv_iconst (v := (nI 1)) hx hb dL_law_1172 (by decide) ?_
  refine lv_iadd hx hb dL_law_1173 ?_
  refine kq_ti (y := (nI (i + 1))) (nI_add i 1) ?_
  refine ks_ld hx hb hT hS hL (j := i + 1) (by omega) dL_law_1174 ?_
  refine lv_aload_n hx hb dL_law_1175 rfl (lv_at hl 1 rfl) ?_
  refine lv_iload hx hb dL_law_1176 (lv_at hl 6 rfl) ?_
  refine lv_iconst (v := (nI 2)) hx hb dL_law_1178 (by decide) ?_
  refine lv_iadd hx hb dL_law_1179 ?_
  refine kq_ti (y := (nI (i + 2))) (nI_add i 2) ?_
  refine ks_ld hx hb hT hS hL (j := i + 2) (by omega) dL_law_1180 ?_
  refine lv_aload_n hx hb dL_law_1181 rfl (lv_at hl 1 rfl) ?_
  refine lv_iload hx hb dL_law_1182 (lv_at hl 6 rfl) ?_
  refine lv_iconst (v := (nI 3)) hx hb dL_law_1184 (by decide) ?_
  refine lv_iadd hx hb dL_law_1185 ?_
  refine kq_ti (y := (nI (i + 3))) (nI_add i 3) ?_
  refine ks_ld hx hb hT hS hL (j := i + 3) (by omega) dL_law_1186 ?_
  refine kl_rV (st1 := [.long b9]) ⟨hx, hb, hml, hown, hts⟩ hRf (cwV 3 hts gL_154_X5_with rfl rfl rfl (by decide +kernel) ⟨Nat.le_of_ble_eq_true rfl, Nat.le_of_ble_eq_true rfl⟩) hK hP hD (fun _ h => h) hS rfl hl.1 rfl rfl (Nat.le_of_ble_eq_true rfl) dL_law_1187 ⟨hc, hs⟩ (fun H locs hP hD hS => ?_)
  refine lv_lstore (lv' := [(7, .long b9), (6, .int k), (0, .ref b), (1, .ref (ad 0)), (2, .ref (ad 36)), (3, .ref (ad 55)), (4, .ref (ad 56)), (5, .int (nI i))]) hx hb dL_law_1190 hl (by decide) rfl (fun ls hl => ?_)
  refine lv_aload_n hx hb dL_law_1192 rfl (lv_at hl 4 rfl) ?_
  refine kl_rV (st1 := [.int (v1.2.1 14 0)]) ⟨hx, hb, hml, hown, hts⟩ (r_thrown v1) (cwV 0 hts gL_106_X5_thrown rfl rfl rfl (by decide +kernel) ⟨Nat.le_of_ble_eq_true rfl, Nat.le_of_ble_eq_true rfl⟩) hK hP hD (fun _ h => h) hS rfl hl.1 rfl rfl (Nat.le_of_ble_eq_true rfl) dL_law_1193 ⟨hc, hs⟩ (fun H locs hP hD hS => ?_)
  refine lv_iload hx hb dL_law_1196 (lv_at hl 1 rfl) ?_
  refine lv_icmp_eq (tgt := 1203) hx hb dL_law_1198 (by decide) (fun _ => ?_) (fun c => absurd hth c)
  by_cases hk : k = 0
  · refine lv_iload hx hb dL_law_1203 (lv_at hl 1 rfl) ?_
    refine lv_if_ne (tgt := 1219) hx hb dL_law_1205 (by decide) (fun c => absurd hk c) (fun _ => ?_)
    refine lv_aload_n hx hb dL_law_1208 rfl (lv_at hl 5 rfl) ?_
    refine lv_iconst (v := (nI 0)) hx hb dL_law_1209 (by decide) ?_
    refine tl_l5 hx hb hK hP dL_law_1210 ?_
    refine lv_lload hx hb dL_law_1211 (lv_at hl 0 rfl) ?_
    refine W.lcmp hx hb dL_law_1213 ?_
    refine lv_if_eq (tgt := 1219) hx hb dL_law_1214 (by decide) (fun _ => ?_) (fun c => absurd (tm_cmp0.mpr (hout (hk.trans nI_0.symm))) c)
    refine lv_goto (tgt := 1778) hx hb dL_law_1219 (by decide) ?_
    exact kk u v1 o H locs ls hR hP hD hS (lv_sub hl [2, 3, 4, 5, 6, 7] rfl)
  · refine lv_iload hx hb dL_law_1203 (lv_at hl 1 rfl) ?_
    refine lv_if_ne (tgt := 1219) hx hb dL_law_1205 (by decide) (fun _ => ?_) (fun c => absurd c hk)
    refine lv_goto (tgt := 1778) hx hb dL_law_1219 (by decide) ?_
    exact kk u v1 o H locs ls hR hP hD hS (lv_sub hl [2, 3, 4, 5, 6, 7] rfl)
end S35
