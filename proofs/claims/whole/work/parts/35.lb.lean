section S35
variable {l : Launch} {dC : Nat → ClassId} {dI : Nat → Nat → Nat} {gs : Nat → Nat} {ad : Nat → Nat} {cc cr : Nat → ClassId} {cd : ClassId}
set_option maxHeartbeats 8000000 in
set_option maxRecDepth 100000 in
theorem lc_load {p : Program} {l : Launch} {e : Env} {s : State} {m : MethodId} {below : List Frame} {meth : Method} {c : Code} {Q : State → Prop} {b L : Nat} {xs : Nat → Int32} {u v : tm_S} {o : Int64 × UInt64} {H : Heap} {locs : List Loc} {cells slots : Nat} {ls : Array Slot} {i : Nat}
    (hl9 : l.stackTraces = false) (hx : p.tables.exec = Jvm.exec) (hb : c.code = code) (hml : c.maxLocals = 10) (hown : s.vm.findClass RL = some m.cls) (hts : ∀ w ∈ tm_B, w.before #[Value.ref b] s = true) (hT : va_T .int b L (fun j => .int (xs j)) (fun q : Nat => s.heap.size ≤ q) s s.heap) (hL : L ≤ 4097)
    (hK : va_K (dC, dI) vwCl (tl_ty cc cr cd) s) (hG : tm_G gs (fun q : Nat => s.heap.size ≤ q) s) (hi : i + 8 ≤ L) (hR : tm_R u v) (hP : va_P (dC, dI) vwCl (tl_w ad cc cr cd u v o) H) (hD : va_D (fun q : Nat => s.heap.size ≤ q) (tl_w ad cc cr cd u v o)) (hS : va_S (fun q : Nat => s.heap.size ≤ q) s.heap H locs)
    (hl : lv_has ls 10 [(0, .ref b), (1, .ref (ad 0)), (2, .ref (ad 36)), (3, .ref (ad 55)), (4, .ref (ad 56)), (5, .int (nI i))]) (hc : cells + 1 ≤ 667648) (hs : slots + 6 ≤ 7093125)
    (kk : ∀ (u v : tm_S) (o : Int64 × UInt64) (H : Heap) (locs : List Loc) (ls : Array Slot), tm_R u v → va_P (dC, dI) vwCl (tl_w ad cc cr cd u v o) H → va_D (fun q : Nat => s.heap.size ≤ q) (tl_w ad cc cr cd u v o) → va_S (fun q : Nat => s.heap.size ≤ q) s.heap H locs → lv_has ls 10 [(0, .ref b), (1, .ref (ad 0)), (2, .ref (ad 36)), (3, .ref (ad 55)), (4, .ref (ad 56)), (5, .int (nI i))] → W p l e room_1 s m #[Value.ref b] below meth c H locs (cells + 1) (slots + 6) Q (F0 m 1778 ls [])) :
    W p l e room_1 s m #[Value.ref b] below meth c H locs cells slots Q (F0 m 555 ls []) := by
  obtain ⟨k, u, v1, o, b9, hW, hRf, hth, hout, hR⟩ := op_load (dC := dC) (dI := dI) (gs := gs) (ad := ad) (cc := cc) (cr := cr) (cd := cd) hl9 o hR (xs (i + 1)) (xs (i + 2))
  refine lv_aload_n hx hb dL_law_555 rfl (lv_at hl 1 rfl) ?_
  refine lv_aload_n hx hb dL_law_556 rfl (lv_at hl 0 rfl) ?_
  refine lv_iload hx hb dL_law_557 (lv_at hl 5 rfl) ?_
  refine lv_iconst (v := (nI 1)) hx hb dL_law_559 (by decide) ?_
  refine lv_iadd hx hb dL_law_560 ?_
  refine kq_ti (y := (nI (i + 1))) (nI_add i 1) ?_
  refine ks_ld hx hb hT hS hL (j := i + 1) (by omega) dL_law_561 ?_
  refine lv_aload_n hx hb dL_law_562 rfl (lv_at hl 0 rfl) ?_
  refine lv_iload hx hb dL_law_563 (lv_at hl 5 rfl) ?_
  refine lv_iconst (v := (nI 2)) hx hb dL_law_565 (by decide) ?_
  refine lv_iadd hx hb dL_law_566 ?_
  refine kq_ti (y := (nI (i + 2))) (nI_add i 2) ?_
  refine ks_ld hx hb hT hS hL (j := i + 2) (by omega) dL_law_567 ?_
  refine lv_aload_n hx hb dL_law_568 rfl (lv_at hl 3 rfl) ?_
  refine kq_call (st1 := [.int k]) (vx_runSW (hh := [(0, 10, 13, 13), (0, 10, 17, 19), (0, 10, 21, 29), (0, 10, 25, 31), (0, 10, 29, 37)]) ⟨hx, hb, hml, hown, hts⟩ (hW (fun q : Nat => s.heap.size ≤ q)) (vx_cwSW 4 hts gL_124_L_load rfl rfl rfl (by decide +kernel) ⟨Nat.le_of_ble_eq_true rfl, Nat.le_of_ble_eq_true rfl⟩) ⟨kq_blind tm_Gok, kq_pre hK hP hD (fun _ h => h) tm_Gok hG hS⟩ rfl rfl hl.1 rfl (lv_room (Nat.le_of_ble_eq_true rfl)) dL_law_569 ⟨hc, hs⟩) hS rfl (fun H locs hP hD hS => ?_)
  refine lv_istore (lv' := [(6, .int k), (0, .ref b), (1, .ref (ad 0)), (2, .ref (ad 36)), (3, .ref (ad 55)), (4, .ref (ad 56)), (5, .int (nI i))]) hx hb dL_law_572 hl (by decide) rfl (fun ls hl => ?_)
  refine lv_aload_n hx hb dL_law_574 rfl (lv_at hl 3 rfl) ?_
  refine lv_aload_n hx hb dL_law_575 rfl (lv_at hl 1 rfl) ?_
  refine lv_iload hx hb dL_law_576 (lv_at hl 6 rfl) ?_
  refine lv_iconst (v := (nI 1)) hx hb dL_law_578 (by decide) ?_
  refine lv_iadd hx hb dL_law_579 ?_
  refine kq_ti (y := (nI (i + 1))) (nI_add i 1) ?_
  refine ks_ld hx hb hT hS hL (j := i + 1) (by omega) dL_law_580 ?_
  refine lv_aload_n hx hb dL_law_581 rfl (lv_at hl 1 rfl) ?_
  refine lv_iload hx hb dL_law_582 (lv_at hl 6 rfl) ?_
  refine lv_iconst (v := (nI 2)) hx hb dL_law_584 (by decide) ?_
  refine lv_iadd hx hb dL_law_585 ?_
  refine kq_ti (y := (nI (i + 2))) (nI_add i 2) ?_
  refine ks_ld hx hb hT hS hL (j := i + 2) (by omega) dL_law_586 ?_
  refine kl_rV (st1 := [.int b9]) ⟨hx, hb, hml, hown, hts⟩ hRf (cwV 2 hts gL_127_X5_load rfl rfl rfl (by decide +kernel) ⟨Nat.le_of_ble_eq_true rfl, Nat.le_of_ble_eq_true rfl⟩) hK hP hD (fun _ h => h) hS rfl hl.1 rfl rfl (Nat.le_of_ble_eq_true rfl) dL_law_587 ⟨hc, hs⟩ (fun H locs hP hD hS => ?_)
  refine lv_istore (lv' := [(7, .int b9), (6, .int k), (0, .ref b), (1, .ref (ad 0)), (2, .ref (ad 36)), (3, .ref (ad 55)), (4, .ref (ad 56)), (5, .int (nI i))]) hx hb dL_law_590 hl (by decide) rfl (fun ls hl => ?_)
  refine lv_aload_n hx hb dL_law_592 rfl (lv_at hl 4 rfl) ?_
  refine kl_rV (st1 := [.int (v1.2.1 14 0)]) ⟨hx, hb, hml, hown, hts⟩ (r_thrown v1) (cwV 0 hts gL_106_X5_thrown rfl rfl rfl (by decide +kernel) ⟨Nat.le_of_ble_eq_true rfl, Nat.le_of_ble_eq_true rfl⟩) hK hP hD (fun _ h => h) hS rfl hl.1 rfl rfl (Nat.le_of_ble_eq_true rfl) dL_law_593 ⟨hc, hs⟩ (fun H locs hP hD hS => ?_)
  refine lv_iload hx hb dL_law_596 (lv_at hl 1 rfl) ?_
  refine lv_icmp_eq (tgt := 603) hx hb dL_law_598 (by decide) (fun _ => ?_) (fun c => absurd hth c)
  by_cases hk : k = 0
  · refine lv_iload hx hb dL_law_603 (lv_at hl 1 rfl) ?_
    refine lv_if_ne (tgt := 620) hx hb dL_law_605 (by decide) (fun c => absurd hk c) (fun _ => ?_)
    refine lv_aload_n hx hb dL_law_608 rfl (lv_at hl 5 rfl) ?_
    refine lv_iconst (v := (nI 0)) hx hb dL_law_609 (by decide) ?_
    refine tl_l5 hx hb hK hP dL_law_610 ?_
    refine lv_iload hx hb dL_law_611 (lv_at hl 0 rfl) ?_
    refine lv_i2l (v := b9.toInt64) hx hb dL_law_613 rfl ?_
    refine W.lcmp hx hb dL_law_614 ?_
    refine lv_if_eq (tgt := 620) hx hb dL_law_615 (by decide) (fun _ => ?_) (fun c => absurd (tm_cmp0.mpr (hout (hk.trans nI_0.symm))) c)
    refine lv_goto (tgt := 1778) hx hb dL_law_620 (by decide) ?_
    exact kk u v1 o H locs ls hR hP hD hS (lv_sub hl [2, 3, 4, 5, 6, 7] rfl)
  · refine lv_iload hx hb dL_law_603 (lv_at hl 1 rfl) ?_
    refine lv_if_ne (tgt := 620) hx hb dL_law_605 (by decide) (fun _ => ?_) (fun c => absurd c hk)
    refine lv_goto (tgt := 1778) hx hb dL_law_620 (by decide) ?_
    exact kk u v1 o H locs ls hR hP hD hS (lv_sub hl [2, 3, 4, 5, 6, 7] rfl)
set_option maxHeartbeats 8000000 in
set_option maxRecDepth 100000 in
theorem lc_tamper {p : Program} {l : Launch} {e : Env} {s : State} {m : MethodId} {below : List Frame} {meth : Method} {c : Code} {Q : State → Prop} {b L : Nat} {xs : Nat → Int32} {u v : tm_S} {o : Int64 × UInt64} {H : Heap} {locs : List Loc} {cells slots : Nat} {ls : Array Slot} {i : Nat}
    (hl9 : l.stackTraces = false) (hx : p.tables.exec = Jvm.exec) (hb : c.code = code) (hml : c.maxLocals = 10) (hown : s.vm.findClass RL = some m.cls) (hts : ∀ w ∈ tm_B, w.before #[Value.ref b] s = true) (hT : va_T .int b L (fun j => .int (xs j)) (fun q : Nat => s.heap.size ≤ q) s s.heap) (hL : L ≤ 4097)
    (hK : va_K (dC, dI) vwCl (tl_ty cc cr cd) s) (hG : tm_G gs (fun q : Nat => s.heap.size ≤ q) s) (hi : i + 8 ≤ L) (hR : tm_R u v) (hP : va_P (dC, dI) vwCl (tl_w ad cc cr cd u v o) H) (hD : va_D (fun q : Nat => s.heap.size ≤ q) (tl_w ad cc cr cd u v o)) (hS : va_S (fun q : Nat => s.heap.size ≤ q) s.heap H locs)
    (hl : lv_has ls 10 [(0, .ref b), (1, .ref (ad 0)), (2, .ref (ad 36)), (3, .ref (ad 55)), (4, .ref (ad 56)), (5, .int (nI i))]) (hc : cells + 1 ≤ 667648) (hs : slots + 6 ≤ 7093125)
    (kk : ∀ (u v : tm_S) (o : Int64 × UInt64) (H : Heap) (locs : List Loc) (ls : Array Slot), tm_R u v → va_P (dC, dI) vwCl (tl_w ad cc cr cd u v o) H → va_D (fun q : Nat => s.heap.size ≤ q) (tl_w ad cc cr cd u v o) → va_S (fun q : Nat => s.heap.size ≤ q) s.heap H locs → lv_has ls 10 [(0, .ref b), (1, .ref (ad 0)), (2, .ref (ad 36)), (3, .ref (ad 55)), (4, .ref (ad 56)), (5, .int (nI i))] → W p l e room_1 s m #[Value.ref b] below meth c H locs (cells + 1) (slots + 6) Q (F0 m 1778 ls [])) :
    W p l e room_1 s m #[Value.ref b] below meth c H locs cells slots Q (F0 m 623 ls []) := by
  obtain ⟨k, u, v1, o, hW, hRf, hth, hR⟩ := op_tamper (dC := dC) (dI := dI) (gs := gs) (ad := ad) (cc := cc) (cr := cr) (cd := cd) hl9 o hR (xs (i + 1)) (xs (i + 2)) ((((xs (i + 3)).toInt64) <<< ((nI 32).toInt64 &&& 63)) ||| (((xs (i + 4)).toInt64) &&& 4294967295))
  refine lv_aload_n hx hb dL_law_623 rfl (lv_at hl 1 rfl) ?_
  refine lv_aload_n hx hb dL_law_624 rfl (lv_at hl 0 rfl) ?_
  refine lv_iload hx hb dL_law_625 (lv_at hl 5 rfl) ?_
  refine lv_iconst (v := (nI 1)) hx hb dL_law_627 (by decide) ?_
  refine lv_iadd hx hb dL_law_628 ?_
  refine kq_ti (y := (nI (i + 1))) (nI_add i 1) ?_
  refine ks_ld hx hb hT hS hL (j := i + 1) (by omega) dL_law_629 ?_
  refine lv_aload_n hx hb dL_law_630 rfl (lv_at hl 0 rfl) ?_
  refine lv_iload hx hb dL_law_631 (lv_at hl 5 rfl) ?_
  refine lv_iconst (v := (nI 2)) hx hb dL_law_633 (by decide) ?_
  refine lv_iadd hx hb dL_law_634 ?_
  refine kq_ti (y := (nI (i + 2))) (nI_add i 2) ?_
  refine ks_ld hx hb hT hS hL (j := i + 2) (by omega) dL_law_635 ?_
  refine lv_aload_n hx hb dL_law_636 rfl (lv_at hl 0 rfl) ?_
  refine lv_iload hx hb dL_law_637 (lv_at hl 5 rfl) ?_
  refine lv_iconst (v := (nI 3)) hx hb dL_law_639 (by decide) ?_
  refine lv_iadd hx hb dL_law_640 ?_
  refine kq_ti (y := (nI (i + 3))) (nI_add i 3) ?_
  refine ks_ld hx hb hT hS hL (j := i + 3) (by omega) dL_law_641 ?_
  refine lv_i2l (v := (xs (i + 3)).toInt64) hx hb dL_law_642 rfl ?_
  refine lv_bipush (v := (nI 32)) hx hb dL_law_643 (by decide) ?_
  refine lv_lshl (v := ((xs (i + 3)).toInt64) <<< ((nI 32).toInt64 &&& 63)) hx hb dL_law_645 rfl ?_
  refine lv_aload_n hx hb dL_law_646 rfl (lv_at hl 0 rfl) ?_
  refine lv_iload hx hb dL_law_647 (lv_at hl 5 rfl) ?_
  refine lv_iconst (v := (nI 4)) hx hb dL_law_649 (by decide) ?_
  refine lv_iadd hx hb dL_law_650 ?_
  refine kq_ti (y := (nI (i + 4))) (nI_add i 4) ?_
  refine ks_ld hx hb hT hS hL (j := i + 4) (by omega) dL_law_651 ?_
  refine lv_i2l (v := (xs (i + 4)).toInt64) hx hb dL_law_652 rfl ?_
  refine lv_ldc2 hx hb hown (hts _ mb_856) dL_law_653 ?_
  refine lv_land hx hb dL_law_656 ?_
  refine lv_lor hx hb dL_law_657 ?_
  refine kq_call (st1 := [.int k]) (vx_runSW (hh := [(0, 7, 10, 13), (0, 7, 14, 29)]) ⟨hx, hb, hml, hown, hts⟩ (hW (fun q : Nat => s.heap.size ≤ q)) (vx_cwSW 4 hts gL_128_L_tamper rfl rfl rfl (by decide +kernel) ⟨Nat.le_of_ble_eq_true rfl, Nat.le_of_ble_eq_true rfl⟩) ⟨kq_blind tm_Gok, kq_pre hK hP hD (fun _ h => h) tm_Gok hG hS⟩ rfl rfl hl.1 rfl (lv_room (Nat.le_of_ble_eq_true rfl)) dL_law_658 ⟨hc, hs⟩) hS rfl (fun H locs hP hD hS => ?_)
  refine lv_istore (lv' := [(6, .int k), (0, .ref b), (1, .ref (ad 0)), (2, .ref (ad 36)), (3, .ref (ad 55)), (4, .ref (ad 56)), (5, .int (nI i))]) hx hb dL_law_661 hl (by decide) rfl (fun ls hl => ?_)
  refine lv_aload_n hx hb dL_law_663 rfl (lv_at hl 3 rfl) ?_
  refine lv_aload_n hx hb dL_law_664 rfl (lv_at hl 1 rfl) ?_
  refine lv_iload hx hb dL_law_665 (lv_at hl 6 rfl) ?_
  refine lv_iconst (v := (nI 1)) hx hb dL_law_667 (by decide) ?_
  refine lv_iadd hx hb dL_law_668 ?_
  refine kq_ti (y := (nI (i + 1))) (nI_add i 1) ?_
  refine ks_ld hx hb hT hS hL (j := i + 1) (by omega) dL_law_669 ?_
  refine lv_aload_n hx hb dL_law_670 rfl (lv_at hl 1 rfl) ?_
  refine lv_iload hx hb dL_law_671 (lv_at hl 6 rfl) ?_
  refine lv_iconst (v := (nI 2)) hx hb dL_law_673 (by decide) ?_
  refine lv_iadd hx hb dL_law_674 ?_
  refine kq_ti (y := (nI (i + 2))) (nI_add i 2) ?_
  refine ks_ld hx hb hT hS hL (j := i + 2) (by omega) dL_law_675 ?_
  refine lv_aload_n hx hb dL_law_676 rfl (lv_at hl 1 rfl) ?_
  refine lv_iload hx hb dL_law_677 (lv_at hl 6 rfl) ?_
  refine lv_iconst (v := (nI 3)) hx hb dL_law_679 (by decide) ?_
  refine lv_iadd hx hb dL_law_680 ?_
  refine kq_ti (y := (nI (i + 3))) (nI_add i 3) ?_
  refine ks_ld hx hb hT hS hL (j := i + 3) (by omega) dL_law_681 ?_
  refine lv_i2l (v := (xs (i + 3)).toInt64) hx hb dL_law_682 rfl ?_
  refine lv_bipush (v := (nI 32)) hx hb dL_law_683 (by decide) ?_
  refine lv_lshl (v := ((xs (i + 3)).toInt64) <<< ((nI 32).toInt64 &&& 63)) hx hb dL_law_685 rfl ?_
  refine lv_aload_n hx hb dL_law_686 rfl (lv_at hl 1 rfl) ?_
  refine lv_iload hx hb dL_law_687 (lv_at hl 6 rfl) ?_
  refine lv_iconst (v := (nI 4)) hx hb dL_law_689 (by decide) ?_
  refine lv_iadd hx hb dL_law_690 ?_
  refine kq_ti (y := (nI (i + 4))) (nI_add i 4) ?_
  refine ks_ld hx hb hT hS hL (j := i + 4) (by omega) dL_law_691 ?_
  refine lv_i2l (v := (xs (i + 4)).toInt64) hx hb dL_law_692 rfl ?_
  refine lv_ldc2 hx hb hown (hts _ mb_856) dL_law_693 ?_
  refine lv_land hx hb dL_law_696 ?_
  refine lv_lor hx hb dL_law_697 ?_
  refine kl_rV (st1 := []) ⟨hx, hb, hml, hown, hts⟩ hRf (cwV 3 hts gL_131_X5_tamper rfl rfl rfl (by decide +kernel) ⟨Nat.le_of_ble_eq_true rfl, Nat.le_of_ble_eq_true rfl⟩) hK hP hD (fun _ h => h) hS rfl hl.1 rfl rfl (Nat.le_of_ble_eq_true rfl) dL_law_698 ⟨hc, hs⟩ (fun H locs hP hD hS => ?_)
  refine lv_aload_n hx hb dL_law_701 rfl (lv_at hl 3 rfl) ?_
  refine kl_rV (st1 := [.int (v1.2.1 14 0)]) ⟨hx, hb, hml, hown, hts⟩ (r_thrown v1) (cwV 0 hts gL_106_X5_thrown rfl rfl rfl (by decide +kernel) ⟨Nat.le_of_ble_eq_true rfl, Nat.le_of_ble_eq_true rfl⟩) hK hP hD (fun _ h => h) hS rfl hl.1 rfl rfl (Nat.le_of_ble_eq_true rfl) dL_law_702 ⟨hc, hs⟩ (fun H locs hP hD hS => ?_)
  refine lv_iload hx hb dL_law_705 (lv_at hl 0 rfl) ?_
  refine lv_icmp_eq (tgt := 712) hx hb dL_law_707 (by decide) (fun _ => ?_) (fun c => absurd hth c)
  refine lv_goto (tgt := 1778) hx hb dL_law_712 (by decide) ?_
  exact kk u v1 o H locs ls hR hP hD hS (lv_sub hl [1, 2, 3, 4, 5, 6] rfl)
set_option maxHeartbeats 8000000 in
set_option maxRecDepth 100000 in
theorem lc_flush {p : Program} {l : Launch} {e : Env} {s : State} {m : MethodId} {below : List Frame} {meth : Method} {c : Code} {Q : State → Prop} {b L : Nat} {xs : Nat → Int32} {u v : tm_S} {o : Int64 × UInt64} {H : Heap} {locs : List Loc} {cells slots : Nat} {ls : Array Slot} {i : Nat}
    (hl9 : l.stackTraces = false) (hx : p.tables.exec = Jvm.exec) (hb : c.code = code) (hml : c.maxLocals = 10) (hown : s.vm.findClass RL = some m.cls) (hts : ∀ w ∈ tm_B, w.before #[Value.ref b] s = true) (hT : va_T .int b L (fun j => .int (xs j)) (fun q : Nat => s.heap.size ≤ q) s s.heap) (hL : L ≤ 4097)
    (hK : va_K (dC, dI) vwCl (tl_ty cc cr cd) s) (hG : tm_G gs (fun q : Nat => s.heap.size ≤ q) s) (hi : i + 8 ≤ L) (hR : tm_R u v) (hP : va_P (dC, dI) vwCl (tl_w ad cc cr cd u v o) H) (hD : va_D (fun q : Nat => s.heap.size ≤ q) (tl_w ad cc cr cd u v o)) (hS : va_S (fun q : Nat => s.heap.size ≤ q) s.heap H locs)
    (hl : lv_has ls 10 [(0, .ref b), (1, .ref (ad 0)), (2, .ref (ad 36)), (3, .ref (ad 55)), (4, .ref (ad 56)), (5, .int (nI i))]) (hc : cells + 1 ≤ 667648) (hs : slots + 6 ≤ 7093125)
    (kk : ∀ (u v : tm_S) (o : Int64 × UInt64) (H : Heap) (locs : List Loc) (ls : Array Slot), tm_R u v → va_P (dC, dI) vwCl (tl_w ad cc cr cd u v o) H → va_D (fun q : Nat => s.heap.size ≤ q) (tl_w ad cc cr cd u v o) → va_S (fun q : Nat => s.heap.size ≤ q) s.heap H locs → lv_has ls 10 [(0, .ref b), (1, .ref (ad 0)), (2, .ref (ad 36)), (3, .ref (ad 55)), (4, .ref (ad 56)), (5, .int (nI i))] → W p l e room_1 s m #[Value.ref b] below meth c H locs (cells + 1) (slots + 6) Q (F0 m 1778 ls [])) :
    W p l e room_1 s m #[Value.ref b] below meth c H locs cells slots Q (F0 m 715 ls []) := by
  obtain ⟨k, u, v1, o, hW, hRf, hth, hR⟩ := op_flush (dC := dC) (dI := dI) (gs := gs) (ad := ad) (cc := cc) (cr := cr) (cd := cd) hl9 o hR (xs (i + 1))
  refine lv_aload_n hx hb dL_law_715 rfl (lv_at hl 1 rfl) ?_
  refine lv_aload_n hx hb dL_law_716 rfl (lv_at hl 0 rfl) ?_
  refine lv_iload hx hb dL_law_717 (lv_at hl 5 rfl) ?_
  refine lv_iconst (v := (nI 1)) hx hb dL_law_719 (by decide) ?_
  refine lv_iadd hx hb dL_law_720 ?_
  refine kq_ti (y := (nI (i + 1))) (nI_add i 1) ?_
  refine ks_ld hx hb hT hS hL (j := i + 1) (by omega) dL_law_721 ?_
  refine kq_call (st1 := [.int k]) (vx_runSW (hh := [(0, 5, 8, 13), (0, 5, 11, 19), (0, 5, 14, 29)]) ⟨hx, hb, hml, hown, hts⟩ (hW (fun q : Nat => s.heap.size ≤ q)) (vx_cwSW 2 hts gL_132_L_flush rfl rfl rfl (by decide +kernel) ⟨Nat.le_of_ble_eq_true rfl, Nat.le_of_ble_eq_true rfl⟩) ⟨kq_blind tm_Gok, kq_pre hK hP hD (fun _ h => h) tm_Gok hG hS⟩ rfl rfl hl.1 rfl (lv_room (Nat.le_of_ble_eq_true rfl)) dL_law_722 ⟨hc, hs⟩) hS rfl (fun H locs hP hD hS => ?_)
  refine lv_istore (lv' := [(6, .int k), (0, .ref b), (1, .ref (ad 0)), (2, .ref (ad 36)), (3, .ref (ad 55)), (4, .ref (ad 56)), (5, .int (nI i))]) hx hb dL_law_725 hl (by decide) rfl (fun ls hl => ?_)
  refine lv_aload_n hx hb dL_law_727 rfl (lv_at hl 3 rfl) ?_
  refine lv_aload_n hx hb dL_law_728 rfl (lv_at hl 1 rfl) ?_
  refine lv_iload hx hb dL_law_729 (lv_at hl 6 rfl) ?_
  refine lv_iconst (v := (nI 1)) hx hb dL_law_731 (by decide) ?_
  refine lv_iadd hx hb dL_law_732 ?_
  refine kq_ti (y := (nI (i + 1))) (nI_add i 1) ?_
  refine ks_ld hx hb hT hS hL (j := i + 1) (by omega) dL_law_733 ?_
  refine kl_rV (st1 := []) ⟨hx, hb, hml, hown, hts⟩ hRf (cwV 1 hts gL_134_X5_flush rfl rfl rfl (by decide +kernel) ⟨Nat.le_of_ble_eq_true rfl, Nat.le_of_ble_eq_true rfl⟩) hK hP hD (fun _ h => h) hS rfl hl.1 rfl rfl (Nat.le_of_ble_eq_true rfl) dL_law_734 ⟨hc, hs⟩ (fun H locs hP hD hS => ?_)
  refine lv_aload_n hx hb dL_law_737 rfl (lv_at hl 3 rfl) ?_
  refine kl_rV (st1 := [.int (v1.2.1 14 0)]) ⟨hx, hb, hml, hown, hts⟩ (r_thrown v1) (cwV 0 hts gL_106_X5_thrown rfl rfl rfl (by decide +kernel) ⟨Nat.le_of_ble_eq_true rfl, Nat.le_of_ble_eq_true rfl⟩) hK hP hD (fun _ h => h) hS rfl hl.1 rfl rfl (Nat.le_of_ble_eq_true rfl) dL_law_738 ⟨hc, hs⟩ (fun H locs hP hD hS => ?_)
  refine lv_iload hx hb dL_law_741 (lv_at hl 0 rfl) ?_
  refine lv_icmp_eq (tgt := 748) hx hb dL_law_743 (by decide) (fun _ => ?_) (fun c => absurd hth c)
  refine lv_goto (tgt := 1778) hx hb dL_law_748 (by decide) ?_
  exact kk u v1 o H locs ls hR hP hD hS (lv_sub hl [1, 2, 3, 4, 5, 6] rfl)
set_option maxHeartbeats 8000000 in
set_option maxRecDepth 100000 in
theorem lc_open {p : Program} {l : Launch} {e : Env} {s : State} {m : MethodId} {below : List Frame} {meth : Method} {c : Code} {Q : State → Prop} {b L : Nat} {xs : Nat → Int32} {u v : tm_S} {o : Int64 × UInt64} {H : Heap} {locs : List Loc} {cells slots : Nat} {ls : Array Slot} {i : Nat}
    (hl9 : l.stackTraces = false) (hx : p.tables.exec = Jvm.exec) (hb : c.code = code) (hml : c.maxLocals = 10) (hown : s.vm.findClass RL = some m.cls) (hts : ∀ w ∈ tm_B, w.before #[Value.ref b] s = true) (hT : va_T .int b L (fun j => .int (xs j)) (fun q : Nat => s.heap.size ≤ q) s s.heap) (hL : L ≤ 4097)
    (hK : va_K (dC, dI) vwCl (tl_ty cc cr cd) s) (hG : tm_G gs (fun q : Nat => s.heap.size ≤ q) s) (hi : i + 8 ≤ L) (hR : tm_R u v) (hP : va_P (dC, dI) vwCl (tl_w ad cc cr cd u v o) H) (hD : va_D (fun q : Nat => s.heap.size ≤ q) (tl_w ad cc cr cd u v o)) (hS : va_S (fun q : Nat => s.heap.size ≤ q) s.heap H locs)
    (hl : lv_has ls 10 [(0, .ref b), (1, .ref (ad 0)), (2, .ref (ad 36)), (3, .ref (ad 55)), (4, .ref (ad 56)), (5, .int (nI i))]) (hc : cells + 1 ≤ 667648) (hs : slots + 6 ≤ 7093125)
    (kk : ∀ (u v : tm_S) (o : Int64 × UInt64) (H : Heap) (locs : List Loc) (ls : Array Slot), tm_R u v → va_P (dC, dI) vwCl (tl_w ad cc cr cd u v o) H → va_D (fun q : Nat => s.heap.size ≤ q) (tl_w ad cc cr cd u v o) → va_S (fun q : Nat => s.heap.size ≤ q) s.heap H locs → lv_has ls 10 [(0, .ref b), (1, .ref (ad 0)), (2, .ref (ad 36)), (3, .ref (ad 55)), (4, .ref (ad 56)), (5, .int (nI i))] → W p l e room_1 s m #[Value.ref b] below meth c H locs (cells + 1) (slots + 6) Q (F0 m 1778 ls [])) :
    W p l e room_1 s m #[Value.ref b] below meth c H locs cells slots Q (F0 m 751 ls []) := by
  obtain ⟨k, u, v1, o, b9, hW, hRf, hth, hout, hR⟩ := op_open (dC := dC) (dI := dI) (gs := gs) (ad := ad) (cc := cc) (cr := cr) (cd := cd) hl9 o hR (xs (i + 1)) (xs (i + 2))
  refine lv_aload_n hx hb dL_law_751 rfl (lv_at hl 1 rfl) ?_
  refine lv_aload_n hx hb dL_law_752 rfl (lv_at hl 0 rfl) ?_
  refine lv_iload hx hb dL_law_753 (lv_at hl 5 rfl) ?_
  refine lv_iconst (v := (nI 1)) hx hb dL_law_755 (by decide) ?_
  refine lv_iadd hx hb dL_law_756 ?_
  refine kq_ti (y := (nI (i + 1))) (nI_add i 1) ?_
  refine ks_ld hx hb hT hS hL (j := i + 1) (by omega) dL_law_757 ?_
  refine lv_aload_n hx hb dL_law_758 rfl (lv_at hl 0 rfl) ?_
  refine lv_iload hx hb dL_law_759 (lv_at hl 5 rfl) ?_
  refine lv_iconst (v := (nI 2)) hx hb dL_law_761 (by decide) ?_
  refine lv_iadd hx hb dL_law_762 ?_
  refine kq_ti (y := (nI (i + 2))) (nI_add i 2) ?_
  refine ks_ld hx hb hT hS hL (j := i + 2) (by omega) dL_law_763 ?_
  refine lv_aload_n hx hb dL_law_764 rfl (lv_at hl 3 rfl) ?_
  refine kq_call (st1 := [.int k]) (vx_runSW (hh := [(0, 9, 12, 13), (0, 9, 16, 19), (0, 9, 20, 29), (0, 9, 24, 31)]) ⟨hx, hb, hml, hown, hts⟩ (hW (fun q : Nat => s.heap.size ≤ q)) (vx_cwSW 4 hts gL_135_L_open rfl rfl rfl (by decide +kernel) ⟨Nat.le_of_ble_eq_true rfl, Nat.le_of_ble_eq_true rfl⟩) ⟨kq_blind tm_Gok, kq_pre hK hP hD (fun _ h => h) tm_Gok hG hS⟩ rfl rfl hl.1 rfl (lv_room (Nat.le_of_ble_eq_true rfl)) dL_law_765 ⟨hc, hs⟩) hS rfl (fun H locs hP hD hS => ?_)
  refine lv_istore (lv' := [(6, .int k), (0, .ref b), (1, .ref (ad 0)), (2, .ref (ad 36)), (3, .ref (ad 55)), (4, .ref (ad 56)), (5, .int (nI i))]) hx hb dL_law_768 hl (by decide) rfl (fun ls hl => ?_)
  refine lv_aload_n hx hb dL_law_770 rfl (lv_at hl 3 rfl) ?_
  refine lv_aload_n hx hb dL_law_771 rfl (lv_at hl 1 rfl) ?_
  refine lv_iload hx hb dL_law_772 (lv_at hl 6 rfl) ?_
  refine lv_iconst (v := (nI 1)) hx hb dL_law_774 (by decide) ?_
  refine lv_iadd hx hb dL_law_775 ?_
  refine kq_ti (y := (nI (i + 1))) (nI_add i 1) ?_
  refine ks_ld hx hb hT hS hL (j := i + 1) (by omega) dL_law_776 ?_
  refine lv_aload_n hx hb dL_law_777 rfl (lv_at hl 1 rfl) ?_
  refine lv_iload hx hb dL_law_778 (lv_at hl 6 rfl) ?_
  refine lv_iconst (v := (nI 2)) hx hb dL_law_780 (by decide) ?_
  refine lv_iadd hx hb dL_law_781 ?_
  refine kq_ti (y := (nI (i + 2))) (nI_add i 2) ?_
  refine ks_ld hx hb hT hS hL (j := i + 2) (by omega) dL_law_782 ?_
  refine kl_rV (st1 := [.long b9]) ⟨hx, hb, hml, hown, hts⟩ hRf (cwV 2 hts gL_137_X5_open rfl rfl rfl (by decide +kernel) ⟨Nat.le_of_ble_eq_true rfl, Nat.le_of_ble_eq_true rfl⟩) hK hP hD (fun _ h => h) hS rfl hl.1 rfl rfl (Nat.le_of_ble_eq_true rfl) dL_law_783 ⟨hc, hs⟩ (fun H locs hP hD hS => ?_)
  refine lv_lstore (lv' := [(7, .long b9), (6, .int k), (0, .ref b), (1, .ref (ad 0)), (2, .ref (ad 36)), (3, .ref (ad 55)), (4, .ref (ad 56)), (5, .int (nI i))]) hx hb dL_law_786 hl (by decide) rfl (fun ls hl => ?_)
  refine lv_aload_n hx hb dL_law_788 rfl (lv_at hl 4 rfl) ?_
  refine kl_rV (st1 := [.int (v1.2.1 14 0)]) ⟨hx, hb, hml, hown, hts⟩ (r_thrown v1) (cwV 0 hts gL_106_X5_thrown rfl rfl rfl (by decide +kernel) ⟨Nat.le_of_ble_eq_true rfl, Nat.le_of_ble_eq_true rfl⟩) hK hP hD (fun _ h => h) hS rfl hl.1 rfl rfl (Nat.le_of_ble_eq_true rfl) dL_law_789 ⟨hc, hs⟩ (fun H locs hP hD hS => ?_)
  refine lv_iload hx hb dL_law_792 (lv_at hl 1 rfl) ?_
  refine lv_icmp_eq (tgt := 799) hx hb dL_law_794 (by decide) (fun _ => ?_) (fun c => absurd hth c)
  by_cases hk : k = 0
  · refine lv_iload hx hb dL_law_799 (lv_at hl 1 rfl) ?_
    refine lv_if_ne (tgt := 815) hx hb dL_law_801 (by decide) (fun c => absurd hk c) (fun _ => ?_)
    refine lv_aload_n hx hb dL_law_804 rfl (lv_at hl 5 rfl) ?_
    refine lv_iconst (v := (nI 0)) hx hb dL_law_805 (by decide) ?_
    refine tl_l5 hx hb hK hP dL_law_806 ?_
    refine lv_lload hx hb dL_law_807 (lv_at hl 0 rfl) ?_
    refine W.lcmp hx hb dL_law_809 ?_
    refine lv_if_eq (tgt := 815) hx hb dL_law_810 (by decide) (fun _ => ?_) (fun c => absurd (tm_cmp0.mpr (hout (hk.trans nI_0.symm))) c)
    refine lv_goto (tgt := 1778) hx hb dL_law_815 (by decide) ?_
    exact kk u v1 o H locs ls hR hP hD hS (lv_sub hl [2, 3, 4, 5, 6, 7] rfl)
  · refine lv_iload hx hb dL_law_799 (lv_at hl 1 rfl) ?_
    refine lv_if_ne (tgt := 815) hx hb dL_law_801 (by decide) (fun _ => ?_) (fun c => absurd c hk)
    refine lv_goto (tgt := 1778) hx hb dL_law_815 (by decide) ?_
    exact kk u v1 o H locs ls hR hP hD hS (lv_sub hl [2, 3, 4, 5, 6, 7] rfl)
set_option maxHeartbeats 8000000 in
set_option maxRecDepth 100000 in
theorem lc_unseal {p : Program} {l : Launch} {e : Env} {s : State} {m : MethodId} {below : List Frame} {meth : Method} {c : Code} {Q : State → Prop} {b L : Nat} {xs : Nat → Int32} {u v : tm_S} {o : Int64 × UInt64} {H : Heap} {locs : List Loc} {cells slots : Nat} {ls : Array Slot} {i : Nat}
    (hl9 : l.stackTraces = false) (hx : p.tables.exec = Jvm.exec) (hb : c.code = code) (hml : c.maxLocals = 10) (hown : s.vm.findClass RL = some m.cls) (hts : ∀ w ∈ tm_B, w.before #[Value.ref b] s = true) (hT : va_T .int b L (fun j => .int (xs j)) (fun q : Nat => s.heap.size ≤ q) s s.heap) (hL : L ≤ 4097)
    (hK : va_K (dC, dI) vwCl (tl_ty cc cr cd) s) (hG : tm_G gs (fun q : Nat => s.heap.size ≤ q) s) (hi : i + 8 ≤ L) (hR : tm_R u v) (hP : va_P (dC, dI) vwCl (tl_w ad cc cr cd u v o) H) (hD : va_D (fun q : Nat => s.heap.size ≤ q) (tl_w ad cc cr cd u v o)) (hS : va_S (fun q : Nat => s.heap.size ≤ q) s.heap H locs)
    (hl : lv_has ls 10 [(0, .ref b), (1, .ref (ad 0)), (2, .ref (ad 36)), (3, .ref (ad 55)), (4, .ref (ad 56)), (5, .int (nI i))]) (hc : cells + 1 ≤ 667648) (hs : slots + 6 ≤ 7093125)
    (kk : ∀ (u v : tm_S) (o : Int64 × UInt64) (H : Heap) (locs : List Loc) (ls : Array Slot), tm_R u v → va_P (dC, dI) vwCl (tl_w ad cc cr cd u v o) H → va_D (fun q : Nat => s.heap.size ≤ q) (tl_w ad cc cr cd u v o) → va_S (fun q : Nat => s.heap.size ≤ q) s.heap H locs → lv_has ls 10 [(0, .ref b), (1, .ref (ad 0)), (2, .ref (ad 36)), (3, .ref (ad 55)), (4, .ref (ad 56)), (5, .int (nI i))] → W p l e room_1 s m #[Value.ref b] below meth c H locs (cells + 1) (slots + 6) Q (F0 m 1778 ls [])) :
    W p l e room_1 s m #[Value.ref b] below meth c H locs cells slots Q (F0 m 818 ls []) := by
  obtain ⟨k, u, v1, o, b9, hW, hRf, hth, hout, hR⟩ := op_unseal (dC := dC) (dI := dI) (gs := gs) (ad := ad) (cc := cc) (cr := cr) (cd := cd) hl9 o hR (xs (i + 1)) (xs (i + 2))
  refine lv_aload_n hx hb dL_law_818 rfl (lv_at hl 1 rfl) ?_
  refine lv_aload_n hx hb dL_law_819 rfl (lv_at hl 0 rfl) ?_
  refine lv_iload hx hb dL_law_820 (lv_at hl 5 rfl) ?_
  refine lv_iconst (v := (nI 1)) hx hb dL_law_822 (by decide) ?_
  refine lv_iadd hx hb dL_law_823 ?_
  refine kq_ti (y := (nI (i + 1))) (nI_add i 1) ?_
  refine ks_ld hx hb hT hS hL (j := i + 1) (by omega) dL_law_824 ?_
  refine lv_aload_n hx hb dL_law_825 rfl (lv_at hl 0 rfl) ?_
  refine lv_iload hx hb dL_law_826 (lv_at hl 5 rfl) ?_
  refine lv_iconst (v := (nI 2)) hx hb dL_law_828 (by decide) ?_
  refine lv_iadd hx hb dL_law_829 ?_
  refine kq_ti (y := (nI (i + 2))) (nI_add i 2) ?_
  refine ks_ld hx hb hT hS hL (j := i + 2) (by omega) dL_law_830 ?_
  refine lv_aload_n hx hb dL_law_831 rfl (lv_at hl 3 rfl) ?_
  refine kq_call (st1 := [.int k]) (vx_runSW (hh := [(0, 9, 12, 13), (0, 9, 16, 19), (0, 9, 20, 29), (0, 9, 24, 31)]) ⟨hx, hb, hml, hown, hts⟩ (hW (fun q : Nat => s.heap.size ≤ q)) (vx_cwSW 4 hts gL_138_L_unseal rfl rfl rfl (by decide +kernel) ⟨Nat.le_of_ble_eq_true rfl, Nat.le_of_ble_eq_true rfl⟩) ⟨kq_blind tm_Gok, kq_pre hK hP hD (fun _ h => h) tm_Gok hG hS⟩ rfl rfl hl.1 rfl (lv_room (Nat.le_of_ble_eq_true rfl)) dL_law_832 ⟨hc, hs⟩) hS rfl (fun H locs hP hD hS => ?_)
  refine lv_istore (lv' := [(6, .int k), (0, .ref b), (1, .ref (ad 0)), (2, .ref (ad 36)), (3, .ref (ad 55)), (4, .ref (ad 56)), (5, .int (nI i))]) hx hb dL_law_835 hl (by decide) rfl (fun ls hl => ?_)
  refine lv_aload_n hx hb dL_law_837 rfl (lv_at hl 3 rfl) ?_
  refine lv_aload_n hx hb dL_law_838 rfl (lv_at hl 1 rfl) ?_
  refine lv_iload hx hb dL_law_839 (lv_at hl 6 rfl) ?_
  refine lv_iconst (v := (nI 1)) hx hb dL_law_841 (by decide) ?_
  refine lv_iadd hx hb dL_law_842 ?_
  refine kq_ti (y := (nI (i + 1))) (nI_add i 1) ?_
  refine ks_ld hx hb hT hS hL (j := i + 1) (by omega) dL_law_843 ?_
  refine lv_aload_n hx hb dL_law_844 rfl (lv_at hl 1 rfl) ?_
  refine lv_iload hx hb dL_law_845 (lv_at hl 6 rfl) ?_
  refine lv_iconst (v := (nI 2)) hx hb dL_law_847 (by decide) ?_
  refine lv_iadd hx hb dL_law_848 ?_
  refine kq_ti (y := (nI (i + 2))) (nI_add i 2) ?_
  refine ks_ld hx hb hT hS hL (j := i + 2) (by omega) dL_law_849 ?_
  refine kl_rV (st1 := [.long b9]) ⟨hx, hb, hml, hown, hts⟩ hRf (cwV 2 hts gL_140_X5_unseal rfl rfl rfl (by decide +kernel) ⟨Nat.le_of_ble_eq_true rfl, Nat.le_of_ble_eq_true rfl⟩) hK hP hD (fun _ h => h) hS rfl hl.1 rfl rfl (Nat.le_of_ble_eq_true rfl) dL_law_850 ⟨hc, hs⟩ (fun H locs hP hD hS => ?_)
  refine lv_lstore (lv' := [(7, .long b9), (6, .int k), (0, .ref b), (1, .ref (ad 0)), (2, .ref (ad 36)), (3, .ref (ad 55)), (4, .ref (ad 56)), (5, .int (nI i))]) hx hb dL_law_853 hl (by decide) rfl (fun ls hl => ?_)
  refine lv_aload_n hx hb dL_law_855 rfl (lv_at hl 4 rfl) ?_
  refine kl_rV (st1 := [.int (v1.2.1 14 0)]) ⟨hx, hb, hml, hown, hts⟩ (r_thrown v1) (cwV 0 hts gL_106_X5_thrown rfl rfl rfl (by decide +kernel) ⟨Nat.le_of_ble_eq_true rfl, Nat.le_of_ble_eq_true rfl⟩) hK hP hD (fun _ h => h) hS rfl hl.1 rfl rfl (Nat.le_of_ble_eq_true rfl) dL_law_856 ⟨hc, hs⟩ (fun H locs hP hD hS => ?_)
  refine lv_iload hx hb dL_law_859 (lv_at hl 1 rfl) ?_
  refine lv_icmp_eq (tgt := 866) hx hb dL_law_861 (by decide) (fun _ => ?_) (fun c => absurd hth c)
  by_cases hk : k = 0
  · refine lv_iload hx hb dL_law_866 (lv_at hl 1 rfl) ?_
    refine lv_if_ne (tgt := 882) hx hb dL_law_868 (by decide) (fun c => absurd hk c) (fun _ => ?_)
    refine lv_aload_n hx hb dL_law_871 rfl (lv_at hl 5 rfl) ?_
    refine lv_iconst (v := (nI 0)) hx hb dL_law_872 (by decide) ?_
    refine tl_l5 hx hb hK hP dL_law_873 ?_
    refine lv_lload hx hb dL_law_874 (lv_at hl 0 rfl) ?_
    refine W.lcmp hx hb dL_law_876 ?_
    refine lv_if_eq (tgt := 882) hx hb dL_law_877 (by decide) (fun _ => ?_) (fun c => absurd (tm_cmp0.mpr (hout (hk.trans nI_0.symm))) c)
    refine lv_goto (tgt := 1778) hx hb dL_law_882 (by decide) ?_
    exact kk u v1 o H locs ls hR hP hD hS (lv_sub hl [2, 3, 4, 5, 6, 7] rfl)
  · refine lv_iload hx hb dL_law_866 (lv_at hl 1 rfl) ?_
    refine lv_if_ne (tgt := 882) hx hb dL_law_868 (by decide) (fun _ => ?_) (fun c => absurd c hk)
    refine lv_goto (tgt := 1778) hx hb dL_law_882 (by decide) ?_
    exact kk u v1 o H locs ls hR hP hD hS (lv_sub hl [2, 3, 4, 5, 6, 7] rfl)
end S35
