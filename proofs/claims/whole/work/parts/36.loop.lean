section S36
variable {l : Launch} {dC : Nat → ClassId} {dI : Nat → Nat → Nat} {gs : Nat → Nat} {ad : Nat → Nat} {cc cr : Nat → ClassId} {cd : ClassId}
set_option maxHeartbeats 8000000 in
set_option maxRecDepth 100000 in
theorem law_loop {p : Program} {l : Launch} {e : Env} {s : State} {m : MethodId} {below : List Frame} {meth : Method} {c : Code} {b L : Nat} {xs : Nat → Int32}
    (hl9 : l.stackTraces = false) (hx : p.tables.exec = Jvm.exec) (hb : c.code = code) (hr : meth.sig.returnType = ret) (hlocks : meth.locks = false) (hml : c.maxLocals = 10) (hown : s.vm.findClass RL = some m.cls) (hts : ∀ w ∈ tm_B, w.before #[Value.ref b] s = true) (hT : va_T .int b L (fun j => .int (xs j)) (fun q : Nat => s.heap.size ≤ q) s s.heap) (hL : L ≤ 4097)
    (hK : va_K (dC, dI) vwCl (tl_ty cc cr cd) s) (hG : tm_G gs (fun q : Nat => s.heap.size ≤ q) s) :
    ∀ (n i cells slots : Nat) (u v : tm_S) (o : Int64 × UInt64) (H : Heap) (locs : List Loc) (ls : Array Slot), L + 8 ≤ i + 8 * n → cells + n ≤ 667648 → slots + 6 * n ≤ 7093125 → i ≤ L + 8 → tm_R u v → va_P (dC, dI) vwCl (tl_w ad cc cr cd u v o) H → va_D (fun q : Nat => s.heap.size ≤ q) (tl_w ad cc cr cd u v o) → va_S (fun q : Nat => s.heap.size ≤ q) s.heap H locs →
      lv_has ls 10 [(0, .ref b), (1, .ref (ad 0)), (2, .ref (ad 36)), (3, .ref (ad 55)), (4, .ref (ad 56)), (5, .int (nI i))] → W p l e room_1 s m #[Value.ref b] below meth c H locs cells slots (lw_Z below #[Value.ref b] s) (F0 m 38 ls []) := by
  intro n
  induction n with
  | zero =>
    intro i cells slots u v o H locs ls hn hc hs hi hR hP hD hS hl
    refine lv_iload hx hb dL_law_38 (lv_at hl 5 rfl) ?_
    refine lv_aload_n hx hb dL_law_40 rfl (lv_at hl 0 rfl) ?_
    refine va_tlen hx hb hT hS (v := nI L) rfl dL_law_41 ?_
    refine lv_bipush (v := (nI 8)) hx hb dL_law_42 (by decide) ?_
    refine lv_isub hx hb dL_law_44 ?_
    refine lv_icmp_gt (tgt := 1784) hx hb dL_law_45 (by decide) (fun _ => ?_) (fun c => absurd (tm_gt8 (by omega) (by omega) (by omega)) c)
    refine lv_iconst (v := 1) hx hb dL_law_1784 (by decide) ?_
    refine va_forget (fun q hq => hS.2.2 q hq) ?_
    refine W.widen (k := 667648) (n := 7093125) (by omega) (by omega) ?_
    exact lw_ret hx hb hr hlocks dL_law_1785
  | succ n ih =>
    intro i cells slots u v o H locs ls hn hc hs hi hR hP hD hS hl
    refine lv_iload hx hb dL_law_38 (lv_at hl 5 rfl) ?_
    refine lv_aload_n hx hb dL_law_40 rfl (lv_at hl 0 rfl) ?_
    refine va_tlen hx hb hT hS (v := nI L) rfl dL_law_41 ?_
    refine lv_bipush (v := (nI 8)) hx hb dL_law_42 (by decide) ?_
    refine lv_isub hx hb dL_law_44 ?_
    by_cases h8 : L < i + 8
    · refine lv_icmp_gt (tgt := 1784) hx hb dL_law_45 (by decide) (fun _ => ?_) (fun c => absurd (tm_gt8 (by omega) (by omega) (by omega)) c)
      refine lv_iconst (v := 1) hx hb dL_law_1784 (by decide) ?_
      refine va_forget (fun q hq => hS.2.2 q hq) ?_
      refine W.widen (k := 667648) (n := 7093125) (by omega) (by omega) ?_
      exact lw_ret hx hb hr hlocks dL_law_1785
    refine lv_icmp_gt (tgt := 1784) hx hb dL_law_45 (by decide) (fun c => absurd c (tm_ngt8 (by omega) (by omega))) (fun _ => ?_)
    have kk : ∀ (u v : tm_S) (o : Int64 × UInt64) (H : Heap) (locs : List Loc) (ls : Array Slot), tm_R u v → va_P (dC, dI) vwCl (tl_w ad cc cr cd u v o) H → va_D (fun q : Nat => s.heap.size ≤ q) (tl_w ad cc cr cd u v o) → va_S (fun q : Nat => s.heap.size ≤ q) s.heap H locs → lv_has ls 10 [(0, .ref b), (1, .ref (ad 0)), (2, .ref (ad 36)), (3, .ref (ad 55)), (4, .ref (ad 56)), (5, .int (nI i))] → W p l e room_1 s m #[Value.ref b] below meth c H locs (cells + 1) (slots + 6) (lw_Z below #[Value.ref b] s) (F0 m 1778 ls []) := by
      intro u v o H locs ls hR hP hD hS hl
      refine lv_iinc (v := nI (i + 8)) (lv' := [(5, .int (nI (i + 8))), (0, .ref b), (1, .ref (ad 0)), (2, .ref (ad 36)), (3, .ref (ad 55)), (4, .ref (ad 56))]) hx hb dL_law_1778 hl (k := 5) rfl (nI_add i 8) (by decide) rfl (fun ls hl => ?_)
      refine lv_goto (tgt := 38) hx hb dL_law_1781 (by decide) ?_
      exact ih (i + 8) (cells + 1) (slots + 6) u v o H locs ls (by omega) (by omega) (by omega) (by omega) hR hP hD hS (lv_sub hl [1, 2, 3, 4, 5, 0] rfl)
    refine lv_aload_n hx hb dL_law_48 rfl (lv_at hl 0 rfl) ?_
    refine lv_iload hx hb dL_law_49 (lv_at hl 5 rfl) ?_
    refine ks_ld hx hb hT hS hL (j := i) (by omega) dL_law_51 ?_
    refine lv_bipush (v := (nI 31)) hx hb dL_law_52 (by decide) ?_
    refine lv_iand hx hb dL_law_54 ?_
    obtain ⟨j, hj, hje⟩ := pk_andE (xs i) (m := nI 31) 5 (by decide)
    refine kq_ti hje ?_
    by_cases h22 : j < 22
    · match j, h22 with
      | 0, _ =>
        refine lv_tableIn (tgt := 156) hx hb dL_law_55 (by decide) (by decide) rfl (by decide) ?_
        exact lc_power hl9 hx hb hml hown hts hT hL hK hG (by omega) hR hP hD hS hl (by omega) (by omega) kk
      | 1, _ =>
        refine lv_tableIn (tgt := 192) hx hb dL_law_55 (by decide) (by decide) rfl (by decide) ?_
        exact lc_extend hl9 hx hb hml hown hts hT hL hK hG (by omega) hR hP hD hS hl (by omega) (by omega) kk
      | 2, _ =>
        refine lv_tableIn (tgt := 303) hx hb dL_law_55 (by decide) (by decide) rfl (by decide) ?_
        exact lc_primary hl9 hx hb hml hown hts hT hL hK hG (by omega) hR hP hD hS hl (by omega) (by omega) kk
      | 3, _ =>
        refine lv_tableIn (tgt := 403) hx hb dL_law_55 (by decide) (by decide) rfl (by decide) ?_
        exact lc_create hl9 hx hb hml hown hts hT hL hK hG (by omega) hR hP hD hS hl (by omega) (by omega) kk
      | 4, _ =>
        refine lv_tableIn (tgt := 555) hx hb dL_law_55 (by decide) (by decide) rfl (by decide) ?_
        exact lc_load hl9 hx hb hml hown hts hT hL hK hG (by omega) hR hP hD hS hl (by omega) (by omega) kk
      | 5, _ =>
        refine lv_tableIn (tgt := 623) hx hb dL_law_55 (by decide) (by decide) rfl (by decide) ?_
        exact lc_tamper hl9 hx hb hml hown hts hT hL hK hG (by omega) hR hP hD hS hl (by omega) (by omega) kk
      | 6, _ =>
        refine lv_tableIn (tgt := 715) hx hb dL_law_55 (by decide) (by decide) rfl (by decide) ?_
        exact lc_flush hl9 hx hb hml hown hts hT hL hK hG (by omega) hR hP hD hS hl (by omega) (by omega) kk
      | 7, _ =>
        refine lv_tableIn (tgt := 751) hx hb dL_law_55 (by decide) (by decide) rfl (by decide) ?_
        exact lc_open hl9 hx hb hml hown hts hT hL hK hG (by omega) hR hP hD hS hl (by omega) (by omega) kk
      | 8, _ =>
        refine lv_tableIn (tgt := 818) hx hb dL_law_55 (by decide) (by decide) rfl (by decide) ?_
        exact lc_unseal hl9 hx hb hml hown hts hT hL hK hG (by omega) hR hP hD hS hl (by omega) (by omega) kk
      | 9, _ =>
        refine lv_tableIn (tgt := 885) hx hb dL_law_55 (by decide) (by decide) rfl (by decide) ?_
        exact lc_session hl9 hx hb hml hown hts hT hL hK hG (by omega) hR hP hD hS hl (by omega) (by omega) kk
      | 10, _ =>
        refine lv_tableIn (tgt := 921) hx hb dL_law_55 (by decide) (by decide) rfl (by decide) ?_
        exact lc_pcr hl9 hx hb hml hown hts hT hL hK hG (by omega) hR hP hD hS hl (by omega) (by omega) kk
      | 11, _ =>
        refine lv_tableIn (tgt := 1000) hx hb dL_law_55 (by decide) (by decide) rfl (by decide) ?_
        exact lc_either hl9 hx hb hml hown hts hT hL hK hG (by omega) hR hP hD hS hl (by omega) (by omega) kk
      | 12, _ =>
        refine lv_tableIn (tgt := 1143) hx hb dL_law_55 (by decide) (by decide) rfl (by decide) ?_
        exact lc_with hl9 hx hb hml hown hts hT hL hK hG (by omega) hR hP hD hS hl (by omega) (by omega) kk
      | 13, _ =>
        refine lv_tableIn (tgt := 1222) hx hb dL_law_55 (by decide) (by decide) rfl (by decide) ?_
        exact lc_define hl9 hx hb hml hown hts hT hL hK hG (by omega) hR hP hD hS hl (by omega) (by omega) kk
      | 14, _ =>
        refine lv_tableIn (tgt := 1330) hx hb dL_law_55 (by decide) (by decide) rfl (by decide) ?_
        exact lc_remove hl9 hx hb hml hown hts hT hL hK hG (by omega) hR hP hD hS hl (by omega) (by omega) kk
      | 15, _ =>
        refine lv_tableIn (tgt := 1366) hx hb dL_law_55 (by decide) (by decide) rfl (by decide) ?_
        exact lc_write hl9 hx hb hml hown hts hT hL hK hG (by omega) hR hP hD hS hl (by omega) (by omega) kk
      | 16, _ =>
        refine lv_tableIn (tgt := 1477) hx hb dL_law_55 (by decide) (by decide) rfl (by decide) ?_
        exact lc_read hl9 hx hb hml hown hts hT hL hK hG (by omega) hR hP hD hS hl (by omega) (by omega) kk
      | 17, _ =>
        refine lv_tableIn (tgt := 1532) hx hb dL_law_55 (by decide) (by decide) rfl (by decide) ?_
        exact lc_clock hl9 hx hb hml hown hts hT hL hK hG (by omega) hR hP hD hS hl (by omega) (by omega) kk
      | 18, _ =>
        refine lv_tableIn (tgt := 1621) hx hb dL_law_55 (by decide) (by decide) rfl (by decide) ?_
        exact lc_clear hl9 hx hb hml hown hts hT hL hK hG (by omega) hR hP hD hS hl (by omega) (by omega) kk
      | 19, _ =>
        refine lv_tableIn (tgt := 1645) hx hb dL_law_55 (by decide) (by decide) rfl (by decide) ?_
        exact lc_told hl9 hx hb hml hown hts hT hL hK hG (by omega) hR hP hD hS hl (by omega) (by omega) kk
      | 20, _ =>
        refine lv_tableIn (tgt := 1712) hx hb dL_law_55 (by decide) (by decide) rfl (by decide) ?_
        exact lc_count hl9 hx hb hml hown hts hT hL hK hG (by omega) hR hP hD hS hl (by omega) (by omega) kk
      | 21, _ =>
        refine lv_tableIn (tgt := 1737) hx hb dL_law_55 (by decide) (by decide) rfl (by decide) ?_
        exact lc_rate hl9 hx hb hml hown hts hT hL hK hG (by omega) hR hP hD hS hl (by omega) (by omega) kk
      | j + 22, h => exact absurd h (by omega)
    · refine lv_tableOut (tgt := 1778) hx hb dL_law_55 (Or.inr (by rw [nI_toInt (by omega)]; omega)) (by decide) ?_
      exact W.widen (k := cells + 1) (n := slots + 6) (by omega) (by omega) (kk u v o H locs ls hR hP hD hS hl)
end S36
