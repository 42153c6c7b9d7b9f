section S35
variable {l : Launch} {dC : Nat → ClassId} {dI : Nat → Nat → Nat} {gs : Nat → Nat} {ad : Nat → Nat} {cc cr : Nat → ClassId} {cd : ClassId}
set_option maxHeartbeats 8000000 in
set_option maxRecDepth 100000 in
theorem lc_clock {p : Program} {l : Launch} {e : Env} {s : State} {m : MethodId} {below : List Frame} {meth : Method} {c : Code} {Q : State → Prop} {b L : Nat} {xs : Nat → Int32} {u v : tm_S} {o : Int64 × UInt64} {H : Heap} {locs : List Loc} {cells slots : Nat} {ls : Array Slot} {i : Nat}
    (hl9 : l.stackTraces = false) (hx : p.tables.exec = Jvm.exec) (hb : c.code = code) (hml : c.maxLocals = 10) (hown : s.vm.findClass RL = some m.cls) (hts : ∀ w ∈ tm_B, w.before #[Value.ref b] s = true) (hT : va_T .int b L (fun j => .int (xs j)) (fun q : Nat => s.heap.size ≤ q) s s.heap) (hL : L ≤ 4097)
    (hK : va_K (dC, dI) vwCl (tl_ty cc cr cd) s) (hG : tm_G gs (fun q : Nat => s.heap.size ≤ q) s) (hi : i + 8 ≤ L) (hR : tm_R u v) (hP : va_P (dC, dI) vwCl (tl_w ad cc cr cd u v o) H) (hD : va_D (fun q : Nat => s.heap.size ≤ q) (tl_w ad cc cr cd u v o)) (hS : va_S (fun q : Nat => s.heap.size ≤ q) s.heap H locs)
    (hl : lv_has ls 10 [(0, .ref b), (1, .ref (ad 0)), (2, .ref (ad 36)), (3, .ref (ad 55)), (4, .ref (ad 56)), (5, .int (nI i))]) (hc : cells + 1 ≤ 667648) (hs : slots + 6 ≤ 7093125)
    (kk : ∀ (u v : tm_S) (o : Int64 × UInt64) (H : Heap) (locs : List Loc) (ls : Array Slot), tm_R u v → va_P (dC, dI) vwCl (tl_w ad cc cr cd u v o) H → va_D (fun q : Nat => s.heap.size ≤ q) (tl_w ad cc cr cd u v o) → va_S (fun q : Nat => s.heap.size ≤ q) s.heap H locs → lv_has ls 10 [(0, .ref b), (1, .ref (ad 0)), (2, .ref (ad 36)), (3, .ref (ad 55)), (4, .ref (ad 56)), (5, .int (nI i))] → W p l e room_1 s m #[Value.ref b] below meth c H locs (cells + 1) (slots + 6) Q (F0 m 1778 ls [])) :
    W p l e room_1 s m #[Value.ref b] below meth c H locs cells slots Q (F0 m 1532 ls []) := by
  obtain ⟨k, u, v1, o, b9, hW, hRf, hth, hout, hR⟩ := op_clock (dC := dC) (dI := dI) (gs := gs) (ad := ad) (cc := cc) (cr := cr) (cd := cd) hl9 o hR (xs (i + 1)) (xs (i + 2))
  refine lv_aload_n hx hb dL_law_1532 rfl (lv_at hl 1 rfl) ?_
  refine lv_aload_n hx hb dL_law_1533 rfl (lv_at hl 0 rfl) ?_
  refine lv_iload hx hb dL_law_1534 (lv_at hl 5 rfl) ?_
  refine lv_iconst (v := (nI 1)) hx hb dL_law_1536 (by decide) ?_
  refine lv_iadd hx hb dL_law_1537 ?_
  refine kq_ti (y := (nI (i + 1))) (nI_add i 1) ?_
  refine ks_ld hx hb hT hS hL (j := i + 1) (by omega) dL_law_1538 ?_
  refine lv_aload_n hx hb dL_law_1539 rfl (lv_at hl 0 rfl) ?_
  refine lv_iload hx hb dL_law_1540 (lv_at hl 5 rfl) ?_
  refine lv_iconst (v := (nI 2)) hx hb dL_law_1542 (by decide) ?_
  refine lv_iadd hx hb dL_law_1543 ?_
  refine kq_ti (y := (nI (i + 2))) (nI_add i 2) ?_
  refine ks_ld hx hb hT hS hL (j := i + 2) (by omega) dL_law_1544 ?_
  refine lv_aload hx hb dL_law_1545 (lv_at hl 4 rfl) ?_
  refine kq_call (st1 := [.int k]) (vx_runSW (hh := [(0, 9, 12, 13), (0, 9, 16, 19)]) ⟨hx, hb, hml, hown, hts⟩ (hW (fun q : Nat => s.heap.size ≤ q)) (vx_cwSW 4 hts gL_169_L_clock rfl rfl rfl (by decide +kernel) ⟨Nat.le_of_ble_eq_true rfl, Nat.le_of_ble_eq_true rfl⟩) ⟨kq_blind tm_Gok, kq_pre hK hP hD (fun _ h => h) tm_Gok hG hS⟩ rfl rfl hl.1 rfl (lv_room (Nat.le_of_ble_eq_true rfl)) dL_law_1547 ⟨hc, hs⟩) hS rfl (fun H locs hP hD hS => ?_)
  refine lv_istore (lv' := [(6, .int k), (0, .ref b), (1, .ref (ad 0)), (2, .ref (ad 36)), (3, .ref (ad 55)), (4, .ref (ad 56)), (5, .int (nI i))]) hx hb dL_law_1550 hl (by decide) rfl (fun ls hl => ?_)
  refine lv_aload_n hx hb dL_law_1552 rfl (lv_at hl 3 rfl) ?_
  refine lv_aload_n hx hb dL_law_1553 rfl (lv_at hl 1 rfl) ?_
  refine lv_iload hx hb dL_law_1554 (lv_at hl 6 rfl) ?_
  refine lv_iconst (v := (nI 1)) hx hb dL_law_1556 (by decide) ?_
  refine lv_iadd hx hb dL_law_1557 ?_
  refine kq_ti (y := (nI (i + 1))) (nI_add i 1) ?_
  refine ks_ld hx hb hT hS hL (j := i + 1) (by omega) dL_law_1558 ?_
  refine lv_aload_n hx hb dL_law_1559 rfl (lv_at hl 1 rfl) ?_
  refine lv_iload hx hb dL_law_1560 (lv_at hl 6 rfl) ?_
  refine lv_iconst (v := (nI 2)) hx hb dL_law_1562 (by decide) ?_
  refine lv_iadd hx hb dL_law_1563 ?_
  refine kq_ti (y := (nI (i + 2))) (nI_add i 2) ?_
  refine ks_ld hx hb hT hS hL (j := i + 2) (by omega) dL_law_1564 ?_
  refine kl_rV (st1 := [.double b9]) ⟨hx, hb, hml, hown, hts⟩ hRf (cwV 2 hts gL_172_X5_clock rfl rfl rfl (by decide +kernel) ⟨Nat.le_of_ble_eq_true rfl, Nat.le_of_ble_eq_true rfl⟩) hK hP hD (fun _ h => h) hS rfl hl.1 rfl rfl (Nat.le_of_ble_eq_true rfl) dL_law_1565 ⟨hc, hs⟩ (fun H locs hP hD hS => ?_)
  refine lv_dstore (lv' := [(7, .double b9), (6, .int k), (0, .ref b), (1, .ref (ad 0)), (2, .ref (ad 36)), (3, .ref (ad 55)), (4, .ref (ad 56)), (5, .int (nI i))]) hx hb dL_law_1568 hl (by decide) rfl (fun ls hl => ?_)
  refine lv_aload_n hx hb dL_law_1570 rfl (lv_at hl 4 rfl) ?_
  refine kl_rV (st1 := [.int (v1.2.1 14 0)]) ⟨hx, hb, hml, hown, hts⟩ (r_thrown v1) (cwV 0 hts gL_106_X5_thrown rfl rfl rfl (by decide +kernel) ⟨Nat.le_of_ble_eq_true rfl, Nat.le_of_ble_eq_true rfl⟩) hK hP hD (fun _ h => h) hS rfl hl.1 rfl rfl (Nat.le_of_ble_eq_true rfl) dL_law_1571 ⟨hc, hs⟩ (fun H locs hP hD hS => ?_)
  refine lv_iload hx hb dL_law_1574 (lv_at hl 1 rfl) ?_
  refine lv_icmp_eq (tgt := 1581) hx hb dL_law_1576 (by decide) (fun _ => ?_) (fun c => absurd hth c)
  by_cases hk : k = 0
  · have ho := hout (hk.trans nI_0.symm)
    subst ho
    refine lv_iload hx hb dL_law_1581 (lv_at hl 1 rfl) ?_
    refine lv_if_ne (tgt := 1618) hx hb dL_law_1583 (by decide) (fun c => absurd hk c) (fun _ => ?_)
    refine lv_aload hx hb dL_law_1586 (lv_at hl 6 rfl) ?_
    refine lv_iconst (v := (nI 0)) hx hb dL_law_1588 (by decide) ?_
    refine tl_l6 hx hb hK hP dL_law_1589 ?_
    refine lv_dload hx hb dL_law_1590 (lv_at hl 0 rfl) ?_
    refine lv_dcmp hx hb dL_law_1592 ?_
    by_cases hd : Op.cmpValue (FP.dcmp o.2 o.2) .l = 0
    · refine lv_if_eq (tgt := 1618) hx hb dL_law_1593 (by decide) (fun _ => ?_) (fun c => absurd hd c)
      refine lv_goto (tgt := 1778) hx hb dL_law_1618 (by decide) ?_
      exact kk u v1 o H locs ls hR hP hD hS (lv_sub hl [2, 3, 4, 5, 6, 7] rfl)
    · refine lv_if_eq (tgt := 1618) hx hb dL_law_1593 (by decide) (fun c => absurd c hd) (fun _ => ?_)
      refine lv_aload hx hb dL_law_1596 (lv_at hl 6 rfl) ?_
      refine lv_iconst (v := (nI 0)) hx hb dL_law_1598 (by decide) ?_
      refine tl_l6 hx hb hK hP dL_law_1599 ?_
      refine lv_aload hx hb dL_law_1600 (lv_at hl 6 rfl) ?_
      refine lv_iconst (v := (nI 0)) hx hb dL_law_1602 (by decide) ?_
      refine tl_l6 hx hb hK hP dL_law_1603 ?_
      refine lv_dcmp hx hb dL_law_1604 ?_
      refine lv_if_eq (tgt := 1616) hx hb dL_law_1605 (by decide) (fun c => absurd c hd) (fun _ => ?_)
      refine lv_dload hx hb dL_law_1608 (lv_at hl 0 rfl) ?_
      refine lv_dload hx hb dL_law_1610 (lv_at hl 0 rfl) ?_
      refine lv_dcmp hx hb dL_law_1612 ?_
      refine lv_if_ne (tgt := 1618) hx hb dL_law_1613 (by decide) (fun _ => ?_) (fun c => absurd c hd)
      refine lv_goto (tgt := 1778) hx hb dL_law_1618 (by decide) ?_
      exact kk u v1 o H locs ls hR hP hD hS (lv_sub hl [2, 3, 4, 5, 6, 7] rfl)
  · refine lv_iload hx hb dL_law_1581 (lv_at hl 1 rfl) ?_
    refine lv_if_ne (tgt := 1618) hx hb dL_law_1583 (by decide) (fun _ => ?_) (fun c => absurd c hk)
    refine lv_goto (tgt := 1778) hx hb dL_law_1618 (by decide) ?_
    exact kk u v1 o H locs ls hR hP hD hS (lv_sub hl [2, 3, 4, 5, 6, 7] rfl)
set_option maxHeartbeats 8000000 in
set_option maxRecDepth 100000 in
theorem lc_clear {p : Program} {l : Launch} {e : Env} {s : State} {m : MethodId} {below : List Frame} {meth : Method} {c : Code} {Q : State → Prop} {b L : Nat} {xs : Nat → Int32} {u v : tm_S} {o : Int64 × UInt64} {H : Heap} {locs : List Loc} {cells slots : Nat} {ls : Array Slot} {i : Nat}
    (hl9 : l.stackTraces = false) (hx : p.tables.exec = Jvm.exec) (hb : c.code = code) (hml : c.maxLocals = 10) (hown : s.vm.findClass RL = some m.cls) (hts : ∀ w ∈ tm_B, w.before #[Value.ref b] s = true) (hT : va_T .int b L (fun j => .int (xs j)) (fun q : Nat => s.heap.size ≤ q) s s.heap) (hL : L ≤ 4097)
    (hK : va_K (dC, dI) vwCl (tl_ty cc cr cd) s) (hG : tm_G gs (fun q : Nat => s.heap.size ≤ q) s) (hi : i + 8 ≤ L) (hR : tm_R u v) (hP : va_P (dC, dI) vwCl (tl_w ad cc cr cd u v o) H) (hD : va_D (fun q : Nat => s.heap.size ≤ q) (tl_w ad cc cr cd u v o)) (hS : va_S (fun q : Nat => s.heap.size ≤ q) s.heap H locs)
    (hl : lv_has ls 10 [(0, .ref b), (1, .ref (ad 0)), (2, .ref (ad 36)), (3, .ref (ad 55)), (4, .ref (ad 56)), (5, .int (nI i))]) (hc : cells + 1 ≤ 667648) (hs : slots + 6 ≤ 7093125)
    (kk : ∀ (u v : tm_S) (o : Int64 × UInt64) (H : Heap) (locs : List Loc) (ls : Array Slot), tm_R u v → va_P (dC, dI) vwCl (tl_w ad cc cr cd u v o) H → va_D (fun q : Nat => s.heap.size ≤ q) (tl_w ad cc cr cd u v o) → va_S (fun q : Nat => s.heap.size ≤ q) s.heap H locs → lv_has ls 10 [(0, .ref b), (1, .ref (ad 0)), (2, .ref (ad 36)), (3, .ref (ad 55)), (4, .ref (ad 56)), (5, .int (nI i))] → W p l e room_1 s m #[Value.ref b] below meth c H locs (cells + 1) (slots + 6) Q (F0 m 1778 ls [])) :
    W p l e room_1 s m #[Value.ref b] below meth c H locs cells slots Q (F0 m 1621 ls []) := by
  obtain ⟨k, u, v1, o, hW, hRf, hth, hR⟩ := op_clear (dC := dC) (dI := dI) (gs := gs) (ad := ad) (cc := cc) (cr := cr) (cd := cd) hl9 o hR 
  refine lv_aload_n hx hb dL_law_1621 rfl (lv_at hl 1 rfl) ?_
  refine kq_call (st1 := [.int k]) (vx_runSW (hh := [(0, 4, 7, 19)]) ⟨hx, hb, hml, hown, hts⟩ (hW (fun q : Nat => s.heap.size ≤ q)) (vx_cwSW 1 hts gL_173_L_clear rfl rfl rfl (by decide +kernel) ⟨Nat.le_of_ble_eq_true rfl, Nat.le_of_ble_eq_true rfl⟩) ⟨kq_blind tm_Gok, kq_pre hK hP hD (fun _ h => h) tm_Gok hG hS⟩ rfl rfl hl.1 rfl (lv_room (Nat.le_of_ble_eq_true rfl)) dL_law_1622 ⟨hc, hs⟩) hS rfl (fun H locs hP hD hS => ?_)
  refine lv_istore (lv' := [(6, .int k), (0, .ref b), (1, .ref (ad 0)), (2, .ref (ad 36)), (3, .ref (ad 55)), (4, .ref (ad 56)), (5, .int (nI i))]) hx hb dL_law_1625 hl (by decide) rfl (fun ls hl => ?_)
  refine lv_aload_n hx hb dL_law_1627 rfl (lv_at hl 3 rfl) ?_
  refine kl_rV (st1 := []) ⟨hx, hb, hml, hown, hts⟩ hRf (cwV 0 hts gL_176_X5_clear rfl rfl rfl (by decide +kernel) ⟨Nat.le_of_ble_eq_true rfl, Nat.le_of_ble_eq_true rfl⟩) hK hP hD (fun _ h => h) hS rfl hl.1 rfl rfl (Nat.le_of_ble_eq_true rfl) dL_law_1628 ⟨hc, hs⟩ (fun H locs hP hD hS => ?_)
  refine lv_aload_n hx hb dL_law_1631 rfl (lv_at hl 3 rfl) ?_
  refine kl_rV (st1 := [.int (v1.2.1 14 0)]) ⟨hx, hb, hml, hown, hts⟩ (r_thrown v1) (cwV 0 hts gL_106_X5_thrown rfl rfl rfl (by decide +kernel) ⟨Nat.le_of_ble_eq_true rfl, Nat.le_of_ble_eq_true rfl⟩) hK hP hD (fun _ h => h) hS rfl hl.1 rfl rfl (Nat.le_of_ble_eq_true rfl) dL_law_1632 ⟨hc, hs⟩ (fun H locs hP hD hS => ?_)
  refine lv_iload hx hb dL_law_1635 (lv_at hl 0 rfl) ?_
  refine lv_icmp_eq (tgt := 1642) hx hb dL_law_1637 (by decide) (fun _ => ?_) (fun c => absurd hth c)
  refine lv_goto (tgt := 1778) hx hb dL_law_1642 (by decide) ?_
  exact kk u v1 o H locs ls hR hP hD hS (lv_sub hl [1, 2, 3, 4, 5, 6] rfl)
set_option maxHeartbeats 8000000 in
set_option maxRecDepth 100000 in
theorem lc_told {p : Program} {l : Launch} {e : Env} {s : State} {m : MethodId} {below : List Frame} {meth : Method} {c : Code} {Q : State → Prop} {b L : Nat} {xs : Nat → Int32} {u v : tm_S} {o : Int64 × UInt64} {H : Heap} {locs : List Loc} {cells slots : Nat} {ls : Array Slot} {i : Nat}
    (hl9 : l.stackTraces = false) (hx : p.tables.exec = Jvm.exec) (hb : c.code = code) (hml : c.maxLocals = 10) (hown : s.vm.findClass RL = some m.cls) (hts : ∀ w ∈ tm_B, w.before #[Value.ref b] s = true) (hT : va_T .int b L (fun j => .int (xs j)) (fun q : Nat => s.heap.size ≤ q) s s.heap) (hL : L ≤ 4097)
    (hK : va_K (dC, dI) vwCl (tl_ty cc cr cd) s) (hG : tm_G gs (fun q : Nat => s.heap.size ≤ q) s) (hi : i + 8 ≤ L) (hR : tm_R u v) (hP : va_P (dC, dI) vwCl (tl_w ad cc cr cd u v o) H) (hD : va_D (fun q : Nat => s.heap.size ≤ q) (tl_w ad cc cr cd u v o)) (hS : va_S (fun q : Nat => s.heap.size ≤ q) s.heap H locs)
    (hl : lv_has ls 10 [(0, .ref b), (1, .ref (ad 0)), (2, .ref (ad 36)), (3, .ref (ad 55)), (4, .ref (ad 56)), (5, .int (nI i))]) (hc : cells + 1 ≤ 667648) (hs : slots + 6 ≤ 7093125)
    (kk : ∀ (u v : tm_S) (o : Int64 × UInt64) (H : Heap) (locs : List Loc) (ls : Array Slot), tm_R u v → va_P (dC, dI) vwCl (tl_w ad cc cr cd u v o) H → va_D (fun q : Nat => s.heap.size ≤ q) (tl_w ad cc cr cd u v o) → va_S (fun q : Nat => s.heap.size ≤ q) s.heap H locs → lv_has ls 10 [(0, .ref b), (1, .ref (ad 0)), (2, .ref (ad 36)), (3, .ref (ad 55)), (4, .ref (ad 56)), (5, .int (nI i))] → W p l e room_1 s m #[Value.ref b] below meth c H locs (cells + 1) (slots + 6) Q (F0 m 1778 ls [])) :
    W p l e room_1 s m #[Value.ref b] below meth c H locs cells slots Q (F0 m 1645 ls []) := by
  obtain ⟨k, u, v1, o, b9, hW, hRf, hth, hout, hR⟩ := op_told (dC := dC) (dI := dI) (gs := gs) (ad := ad) (cc := cc) (cr := cr) (cd := cd) hl9 o hR (xs (i + 1)) (xs (i + 2))
  refine lv_aload_n hx hb dL_law_1645 rfl (lv_at hl 1 rfl) ?_
  refine lv_aload_n hx hb dL_law_1646 rfl (lv_at hl 0 rfl) ?_
  refine lv_iload hx hb dL_law_1647 (lv_at hl 5 rfl) ?_
  refine lv_iconst (v := (nI 1)) hx hb dL_law_1649 (by decide) ?_
  refine lv_iadd hx hb dL_law_1650 ?_
  refine kq_ti (y := (nI (i + 1))) (nI_add i 1) ?_
  refine ks_ld hx hb hT hS hL (j := i + 1) (by omega) dL_law_1651 ?_
  refine lv_aload_n hx hb dL_law_1652 rfl (lv_at hl 0 rfl) ?_
  refine lv_iload hx hb dL_law_1653 (lv_at hl 5 rfl) ?_
  refine lv_iconst (v := (nI 2)) hx hb dL_law_1655 (by decide) ?_
  refine lv_iadd hx hb dL_law_1656 ?_
  refine kq_ti (y := (nI (i + 2))) (nI_add i 2) ?_
  refine ks_ld hx hb hT hS hL (j := i + 2) (by omega) dL_law_1657 ?_
  refine lv_aload_n hx hb dL_law_1658 rfl (lv_at hl 3 rfl) ?_
  refine kq_call (st1 := [.int k]) (vx_runSW (hh := [(0, 9, 12, 13), (0, 9, 16, 29)]) ⟨hx, hb, hml, hown, hts⟩ (hW (fun q : Nat => s.heap.size ≤ q)) (vx_cwSW 4 hts gL_177_L_told rfl rfl rfl (by decide +kernel) ⟨Nat.le_of_ble_eq_true rfl, Nat.le_of_ble_eq_true rfl⟩) ⟨kq_blind tm_Gok, kq_pre hK hP hD (fun _ h => h) tm_Gok hG hS⟩ rfl rfl hl.1 rfl (lv_room (Nat.le_of_ble_eq_true rfl)) dL_law_1659 ⟨hc, hs⟩) hS rfl (fun H locs hP hD hS => ?_)
  refine lv_istore (lv' := [(6, .int k), (0, .ref b), (1, .ref (ad 0)), (2, .ref (ad 36)), (3, .ref (ad 55)), (4, .ref (ad 56)), (5, .int (nI i))]) hx hb dL_law_1662 hl (by decide) rfl (fun ls hl => ?_)
  refine lv_aload_n hx hb dL_law_1664 rfl (lv_at hl 3 rfl) ?_
  refine lv_aload_n hx hb dL_law_1665 rfl (lv_at hl 1 rfl) ?_
  refine lv_iload hx hb dL_law_1666 (lv_at hl 6 rfl) ?_
  refine lv_iconst (v := (nI 1)) hx hb dL_law_1668 (by decide) ?_
  refine lv_iadd hx hb dL_law_1669 ?_
  refine kq_ti (y := (nI (i + 1))) (nI_add i 1) ?_
  refine ks_ld hx hb hT hS hL (j := i + 1) (by omega) dL_law_1670 ?_
  refine lv_aload_n hx hb dL_law_1671 rfl (lv_at hl 1 rfl) ?_
  refine lv_iload hx hb dL_law_1672 (lv_at hl 6 rfl) ?_
  refine lv_iconst (v := (nI 2)) hx hb dL_law_1674 (by decide) ?_
  refine lv_iadd hx hb dL_law_1675 ?_
  refine kq_ti (y := (nI (i + 2))) (nI_add i 2) ?_
  refine ks_ld hx hb hT hS hL (j := i + 2) (by omega) dL_law_1676 ?_
  refine kl_rV (st1 := [.long b9]) ⟨hx, hb, hml, hown, hts⟩ hRf (cwV 2 hts gL_179_X5_told rfl rfl rfl (by decide +kernel) ⟨Nat.le_of_ble_eq_true rfl, Nat.le_of_ble_eq_true rfl⟩) hK hP hD (fun _ h => h) hS rfl hl.1 rfl rfl (Nat.le_of_ble_eq_true rfl) dL_law_1677 ⟨hc, hs⟩ (fun H locs hP hD hS => ?_)
  refine lv_lstore (lv' := [(7, .long b9), (6, .int k), (0, .ref b), (1, .ref (ad 0)), (2, .ref (ad 36)), (3, .ref (ad 55)), (4, .ref (ad 56)), (5, .int (nI i))]) hx hb dL_law_1680 hl (by decide) rfl (fun ls hl => ?_)
  refine lv_aload_n hx hb dL_law_1682 rfl (lv_at hl 4 rfl) ?_
  refine kl_rV (st1 := [.int (v1.2.1 14 0)]) ⟨hx, hb, hml, hown, hts⟩ (r_thrown v1) (cwV 0 hts gL_106_X5_thrown rfl rfl rfl (by decide +kernel) ⟨Nat.le_of_ble_eq_true rfl, Nat.le_of_ble_eq_true rfl⟩) hK hP hD (fun _ h => h) hS rfl hl.1 rfl rfl (Nat.le_of_ble_eq_true rfl) dL_law_1683 ⟨hc, hs⟩ (fun H locs hP hD hS => ?_)
  refine lv_iload hx hb dL_law_1686 (lv_at hl 1 rfl) ?_
  refine lv_icmp_eq (tgt := 1693) hx hb dL_law_1688 (by decide) (fun _ => ?_) (fun c => absurd hth c)
  by_cases hk : k = 0
  · refine lv_iload hx hb dL_law_1693 (lv_at hl 1 rfl) ?_
    refine lv_if_ne (tgt := 1709) hx hb dL_law_1695 (by decide) (fun c => absurd hk c) (fun _ => ?_)
    refine lv_aload_n hx hb dL_law_1698 rfl (lv_at hl 5 rfl) ?_
    refine lv_iconst (v := (nI 0)) hx hb dL_law_1699 (by decide) ?_
    refine tl_l5 hx hb hK hP dL_law_1700 ?_
    refine lv_lload hx hb dL_law_1701 (lv_at hl 0 rfl) ?_
    refine W.lcmp hx hb dL_law_1703 ?_
    refine lv_if_eq (tgt := 1709) hx hb dL_law_1704 (by decide) (fun _ => ?_) (fun c => absurd (tm_cmp0.mpr (hout (hk.trans nI_0.symm))) c)
    refine lv_goto (tgt := 1778) hx hb dL_law_1709 (by decide) ?_
    exact kk u v1 o H locs ls hR hP hD hS (lv_sub hl [2, 3, 4, 5, 6, 7] rfl)
  · refine lv_iload hx hb dL_law_1693 (lv_at hl 1 rfl) ?_
    refine lv_if_ne (tgt := 1709) hx hb dL_law_1695 (by decide) (fun _ => ?_) (fun c => absurd c hk)
    refine lv_goto (tgt := 1778) hx hb dL_law_1709 (by decide) ?_
    exact kk u v1 o H locs ls hR hP hD hS (lv_sub hl [2, 3, 4, 5, 6, 7] rfl)
set_option maxHeartbeats 8000000 in
set_option maxRecDepth 100000 in
theorem lc_count {p : Program} {l : Launch} {e : Env} {s : State} {m : MethodId} {below : List Frame} {meth : Method} {c : Code} {Q : State → Prop} {b L : Nat} {xs : Nat → Int32} {u v : tm_S} {o : Int64 × UInt64} {H : Heap} {locs : List Loc} {cells slots : Nat} {ls : Array Slot} {i : Nat}
    (hl9 : l.stackTraces = false) (hx : p.tables.exec = Jvm.exec) (hb : c.code = code) (hml : c.maxLocals = 10) (hown : s.vm.findClass RL = some m.cls) (hts : ∀ w ∈ tm_B, w.before #[Value.ref b] s = true) (hT : va_T .int b L (fun j => .int (xs j)) (fun q : Nat => s.heap.size ≤ q) s s.heap) (hL : L ≤ 4097)
    (hK : va_K (dC, dI) vwCl (tl_ty cc cr cd) s) (hG : tm_G gs (fun q : Nat => s.heap.size ≤ q) s) (hi : i + 8 ≤ L) (hR : tm_R u v) (hP : va_P (dC, dI) vwCl (tl_w ad cc cr cd u v o) H) (hD : va_D (fun q : Nat => s.heap.size ≤ q) (tl_w ad cc cr cd u v o)) (hS : va_S (fun q : Nat => s.heap.size ≤ q) s.heap H locs)
    (hl : lv_has ls 10 [(0, .ref b), (1, .ref (ad 0)), (2, .ref (ad 36)), (3, .ref (ad 55)), (4, .ref (ad 56)), (5, .int (nI i))]) (hc : cells + 1 ≤ 667648) (hs : slots + 6 ≤ 7093125)
    (kk : ∀ (u v : tm_S) (o : Int64 × UInt64) (H : Heap) (locs : List Loc) (ls : Array Slot), tm_R u v → va_P (dC, dI) vwCl (tl_w ad cc cr cd u v o) H → va_D (fun q : Nat => s.heap.size ≤ q) (tl_w ad cc cr cd u v o) → va_S (fun q : Nat => s.heap.size ≤ q) s.heap H locs → lv_has ls 10 [(0, .ref b), (1, .ref (ad 0)), (2, .ref (ad 36)), (3, .ref (ad 55)), (4, .ref (ad 56)), (5, .int (nI i))] → W p l e room_1 s m #[Value.ref b] below meth c H locs (cells + 1) (slots + 6) Q (F0 m 1778 ls [])) :
    W p l e room_1 s m #[Value.ref b] below meth c H locs cells slots Q (F0 m 1712 ls []) := by
  refine W.widen (k := cells + 1) (n := slots + 6) (by omega) (by omega) ?_
  obtain ⟨r, v1, hM, hRf, hR⟩ := op_count (l := l) (dC := dC) (dI := dI) (gs := gs) (ad := ad) (cc := cc) (cr := cr) hR (xs (i + 1))
  refine lv_aload_n hx hb dL_law_1712 rfl (lv_at hl 1 rfl) ?_
  refine lv_aload_n hx hb dL_law_1713 rfl (lv_at hl 0 rfl) ?_
  refine lv_iload hx hb dL_law_1714 (lv_at hl 5 rfl) ?_
  refine lv_iconst (v := (nI 1)) hx hb dL_law_1716 (by decide) ?_
  refine lv_iadd hx hb dL_law_1717 ?_
  refine kq_ti (y := (nI (i + 1))) (nI_add i 1) ?_
  refine ks_ld hx hb hT hS hL (j := i + 1) (by omega) dL_law_1718 ?_
  refine kl_cV (st1 := [.int r]) ⟨hx, hb, hml, hown, hts⟩ hM (cwV 1 hts gL_180_X4_count rfl rfl rfl (by decide +kernel) ⟨Nat.le_of_ble_eq_true rfl, Nat.le_of_ble_eq_true rfl⟩) hK hP hD (fun _ h => h) hG hS rfl hl.1 rfl rfl (Nat.le_of_ble_eq_true rfl) dL_law_1719 ⟨hc, hs⟩ (fun H locs hP hD hS => ?_)
  refine lv_aload_n hx hb dL_law_1722 rfl (lv_at hl 2 rfl) ?_
  refine lv_aload_n hx hb dL_law_1723 rfl (lv_at hl 0 rfl) ?_
  refine lv_iload hx hb dL_law_1724 (lv_at hl 5 rfl) ?_
  refine lv_iconst (v := (nI 1)) hx hb dL_law_1726 (by decide) ?_
  refine lv_iadd hx hb dL_law_1727 ?_
  refine kq_ti (y := (nI (i + 1))) (nI_add i 1) ?_
  refine ks_ld hx hb hT hS hL (j := i + 1) (by omega) dL_law_1728 ?_
  refine kl_rV (st1 := [.int r, .int r]) ⟨hx, hb, hml, hown, hts⟩ hRf (cwV 1 hts gL_184_X5_count rfl rfl rfl (by decide +kernel) ⟨Nat.le_of_ble_eq_true rfl, Nat.le_of_ble_eq_true rfl⟩) hK hP hD (fun _ h => h) hS rfl hl.1 rfl rfl (Nat.le_of_ble_eq_true rfl) dL_law_1729 ⟨hc, hs⟩ (fun H locs hP hD hS => ?_)
  refine lv_icmp_eq (tgt := 1778) hx hb dL_law_1732 (by decide) (fun _ => ?_) (fun c => absurd rfl c)
  exact kk u v1 o H locs ls hR hP hD hS (lv_sub hl [0, 1, 2, 3, 4, 5] rfl)
set_option maxHeartbeats 8000000 in
set_option maxRecDepth 100000 in
theorem lc_rate {p : Program} {l : Launch} {e : Env} {s : State} {m : MethodId} {below : List Frame} {meth : Method} {c : Code} {Q : State → Prop} {b L : Nat} {xs : Nat → Int32} {u v : tm_S} {o : Int64 × UInt64} {H : Heap} {locs : List Loc} {cells slots : Nat} {ls : Array Slot} {i : Nat}
    (hl9 : l.stackTraces = false) (hx : p.tables.exec = Jvm.exec) (hb : c.code = code) (hml : c.maxLocals = 10) (hown : s.vm.findClass RL = some m.cls) (hts : ∀ w ∈ tm_B, w.before #[Value.ref b] s = true) (hT : va_T .int b L (fun j => .int (xs j)) (fun q : Nat => s.heap.size ≤ q) s s.heap) (hL : L ≤ 4097)
    (hK : va_K (dC, dI) vwCl (tl_ty cc cr cd) s) (hG : tm_G gs (fun q : Nat => s.heap.size ≤ q) s) (hi : i + 8 ≤ L) (hR : tm_R u v) (hP : va_P (dC, dI) vwCl (tl_w ad cc cr cd u v o) H) (hD : va_D (fun q : Nat => s.heap.size ≤ q) (tl_w ad cc cr cd u v o)) (hS : va_S (fun q : Nat => s.heap.size ≤ q) s.heap H locs)
    (hl : lv_has ls 10 [(0, .ref b), (1, .ref (ad 0)), (2, .ref (ad 36)), (3, .ref (ad 55)), (4, .ref (ad 56)), (5, .int (nI i))]) (hc : cells + 1 ≤ 667648) (hs : slots + 6 ≤ 7093125)
    (kk : ∀ (u v : tm_S) (o : Int64 × UInt64) (H : Heap) (locs : List Loc) (ls : Array Slot), tm_R u v → va_P (dC, dI) vwCl (tl_w ad cc cr cd u v o) H → va_D (fun q : Nat => s.heap.size ≤ q) (tl_w ad cc cr cd u v o) → va_S (fun q : Nat => s.heap.size ≤ q) s.heap H locs → lv_has ls 10 [(0, .ref b), (1, .ref (ad 0)), (2, .ref (ad 36)), (3, .ref (ad 55)), (4, .ref (ad 56)), (5, .int (nI i))] → W p l e room_1 s m #[Value.ref b] below meth c H locs (cells + 1) (slots + 6) Q (F0 m 1778 ls [])) :
    W p l e room_1 s m #[Value.ref b] below meth c H locs cells slots Q (F0 m 1737 ls []) := by
  refine W.widen (k := cells + 1) (n := slots + 6) (by omega) (by omega) ?_
  obtain ⟨v1, hM, hRf, hR⟩ := op_rate (l := l) (dC := dC) (dI := dI) (gs := gs) (ad := ad) (cc := cc) (cr := cr) hR
  refine lv_aload_n hx hb dL_law_1737 rfl (lv_at hl 1 rfl) ?_
  refine kl_cV (st1 := [.double (u.2.2 2)]) ⟨hx, hb, hml, hown, hts⟩ hM (cwV 0 hts gL_185_X4_rate rfl rfl rfl (by decide +kernel) ⟨Nat.le_of_ble_eq_true rfl, Nat.le_of_ble_eq_true rfl⟩) hK hP hD (fun _ h => h) hG hS rfl hl.1 rfl rfl (Nat.le_of_ble_eq_true rfl) dL_law_1738 ⟨hc, hs⟩ (fun H locs hP hD hS => ?_)
  refine lv_dstore (lv' := [(6, .double (u.2.2 2)), (0, .ref b), (1, .ref (ad 0)), (2, .ref (ad 36)), (3, .ref (ad 55)), (4, .ref (ad 56)), (5, .int (nI i))]) hx hb dL_law_1741 hl (by decide) rfl (fun ls hl => ?_)
  refine lv_aload_n hx hb dL_law_1743 rfl (lv_at hl 3 rfl) ?_
  refine kl_rV (st1 := [.double (u.2.2 2)]) ⟨hx, hb, hml, hown, hts⟩ hRf (cwV 0 hts gL_189_X5_rate rfl rfl rfl (by decide +kernel) ⟨Nat.le_of_ble_eq_true rfl, Nat.le_of_ble_eq_true rfl⟩) hK hP hD (fun _ h => h) hS rfl hl.1 rfl rfl (Nat.le_of_ble_eq_true rfl) dL_law_1744 ⟨hc, hs⟩ (fun H locs hP hD hS => ?_)
  refine lv_dstore (lv' := [(8, .double (u.2.2 2)), (6, .double (u.2.2 2)), (0, .ref b), (1, .ref (ad 0)), (2, .ref (ad 36)), (3, .ref (ad 55)), (4, .ref (ad 56)), (5, .int (nI i))]) hx hb dL_law_1747 hl (by decide) rfl (fun ls hl => ?_)
  refine lv_dload hx hb dL_law_1749 (lv_at hl 1 rfl) ?_
  refine lv_dload hx hb dL_law_1751 (lv_at hl 0 rfl) ?_
  refine lv_dcmp hx hb dL_law_1753 ?_
  by_cases hd : Op.cmpValue (FP.dcmp (u.2.2 2) (u.2.2 2)) .l = 0
  · refine lv_if_eq (tgt := 1775) hx hb dL_law_1754 (by decide) (fun _ => ?_) (fun c => absurd hd c)
    refine lv_goto (tgt := 1778) hx hb dL_law_1775 (by decide) ?_
    exact kk u v1 o H locs ls hR hP hD hS (lv_sub hl [2, 3, 4, 5, 6, 7] rfl)
  · refine lv_if_eq (tgt := 1775) hx hb dL_law_1754 (by decide) (fun c => absurd c hd) (fun _ => ?_)
    refine lv_dload hx hb dL_law_1757 (lv_at hl 1 rfl) ?_
    refine lv_dload hx hb dL_law_1759 (lv_at hl 1 rfl) ?_
    refine lv_dcmp hx hb dL_law_1761 ?_
    refine lv_if_eq (tgt := 1773) hx hb dL_law_1762 (by decide) (fun c => absurd c hd) (fun _ => ?_)
    refine lv_dload hx hb dL_law_1765 (lv_at hl 0 rfl) ?_
    refine lv_dload hx hb dL_law_1767 (lv_at hl 0 rfl) ?_
    refine lv_dcmp hx hb dL_law_1769 ?_
    refine lv_if_ne (tgt := 1775) hx hb dL_law_1770 (by decide) (fun _ => ?_) (fun c => absurd c hd)
    refine lv_goto (tgt := 1778) hx hb dL_law_1775 (by decide) ?_
    exact kk u v1 o H locs ls hR hP hD hS (lv_sub hl [2, 3, 4, 5, 6, 7] rfl)
end S35
