section S15
variable {l : Launch} {dC : Nat → ClassId} {dI : Nat → Nat → Nat} {gs : Nat → Nat} {ad : Nat → Nat} {cc : Nat → ClassId}
/-- how many of the first n are set -/
def tm_cnt (u : tm_S) (a : Nat) : Nat → Int32
  | 0 => nI 0
  | n + 1 => if u.2.1 a n = 0 then tm_cnt u a n else tm_cnt u a n + 1
/-- X of the document: the PCRS that the mask names, in order -/
def tm_px (u : tm_S) (b : Nat) (mk : Int32) : Nat → Int64
  | 0 => 0
  | n + 1 => if ((mk >>> (nI n &&& 31)) &&& nI 1) = nI 1 then tm_h (tm_px u b mk n) (u.1 1 (8 * b + n)) else tm_px u b mk n
theorem tm_and1 (x : Int32) : x &&& nI 1 = nI 1 ↔ ¬ x &&& nI 1 = 0 := by
  obtain ⟨j, hj, e⟩ := pk_andE x (m := nI 1) 1 (by decide)
  rw [e]
  match j, hj with
  | 0, _ => decide
  | 1, _ => decide

set_option maxHeartbeats 4000000 in
set_option maxRecDepth 100000 in
theorem c_heldKeys (u : tm_S) : kc_M l dC dI gs ad cc yX4_heldKeys wsX4_heldKeys { frames := 0, cells := 0, slots := 0, locals := 0 } [.ref (ad 0)] u u (some (.int (tm_cnt u 0 4))) := by
  refine kq_ofW (cc := cX4_heldKeys) (maxL := 3) (ret := (some .int)) (R0 := RX4) (by decide) rfl rfl (Nat.le_of_ble_eq_true rfl) ?_
  intro p e s m below meth c A ls hx hb hr hlk hml hown hts hP hK hD hA hG hS hl
  have hl : lv_has ls 3 [(0, .ref (ad 0))] := hl
  have K : ∀ (n i : Nat) (x : Int32) (ls : Array Slot), i + n = 4 → x = tm_cnt u 0 i → lv_has ls 3 [(2, .int (nI i)), (1, .int x), (0, .ref (ad 0))] → W p l e { frames := 0, cells := 0, slots := 0, locals := 0 } s m (([.ref (ad 0)] : List Value).toArray) below meth c s.heap [] 0 0 (MQ below (fun _ => kq_Q (dC, dI) vwCl A (tc_w ad cc u) (some (.int (tm_cnt u 0 4)))) (([.ref (ad 0)] : List Value).toArray) s 0 0 A) (F0 m 4 ls []) := by
    intro n
    induction n with
    | zero =>
      intro i x ls hi hx0 hl
      have hi : i = 4 := by omega
      subst hi
      refine lv_iload_n hx hb dX4_heldKeys_4 rfl (lv_at hl 0 rfl) ?_
      refine lv_iconst (v := (nI 4)) hx hb dX4_heldKeys_5 (by decide) ?_
      refine lv_icmp_ge (tgt := 30) hx hb dX4_heldKeys_6 (by decide) (fun _ => ?_) (fun c => absurd (by decide) c)
      subst hx0
      refine lv_iload_n hx hb dX4_heldKeys_30 rfl (lv_at hl 1 rfl) ?_
      exact kq_iret hx hb hr hlk hP hD hS dX4_heldKeys_31
    | succ n ih =>
      intro i x ls hi hx0 hl
      refine lv_iload_n hx hb dX4_heldKeys_4 rfl (lv_at hl 0 rfl) ?_
      refine lv_iconst (v := (nI 4)) hx hb dX4_heldKeys_5 (by decide) ?_
      refine lv_icmp_ge (tgt := 30) hx hb dX4_heldKeys_6 (by decide) (fun c => absurd c (nI_ge (show i < 4 by omega) (by omega))) (fun _ => ?_)
      refine lv_aload_n hx hb dX4_heldKeys_9 rfl (lv_at hl 2 rfl) ?_
      refine tc_gT_keys hx hb hts inB_X4 hown hK hP (hts _ mb_147) dX4_heldKeys_10 ?_
      refine lv_iload_n hx hb dX4_heldKeys_13 rfl (lv_at hl 0 rfl) ?_
      refine tc_a_keys hx hb hK hP (by omega) dX4_heldKeys_14 ?_
      refine tc_gK_held hx hb hts inB_X2 hown hK hP (by omega) (hts _ mb_45) dX4_heldKeys_15 ?_
      by_cases hc : u.2.1 0 i = 0
      · refine lv_if_eq (tgt := 24) hx hb dX4_heldKeys_18 (by decide) (fun _ => ?_) (fun c => absurd hc c)
        refine lv_iinc (v := ((nI i) + 1)) (lv' := [(2, .int ((nI i) + 1)), (1, .int x), (0, .ref (ad 0))]) hx hb dX4_heldKeys_24 hl (k := 0) rfl (rfl) (by decide) rfl (fun ls hl => ?_)
        refine lv_goto (tgt := 4) hx hb dX4_heldKeys_27 (by decide) ?_
        exact ih (i + 1) x ls (by omega) (by rw [hx0]; simp only [tm_cnt]; rw [if_pos hc]) (by rw [← nI_1]; exact lv_sub hl [0, 1, 2] rfl)
      · refine lv_if_eq (tgt := 24) hx hb dX4_heldKeys_18 (by decide) (fun c => absurd c hc) (fun _ => ?_)
        refine lv_iinc (v := (x + 1)) (lv' := [(1, .int (x + 1)), (2, .int (nI i)), (0, .ref (ad 0))]) hx hb dX4_heldKeys_21 hl (k := 1) rfl (rfl) (by decide) rfl (fun ls hl => ?_)
        refine lv_iinc (v := ((nI i) + 1)) (lv' := [(2, .int ((nI i) + 1)), (1, .int (x + 1)), (0, .ref (ad 0))]) hx hb dX4_heldKeys_24 hl (k := 1) rfl (rfl) (by decide) rfl (fun ls hl => ?_)
        refine lv_goto (tgt := 4) hx hb dX4_heldKeys_27 (by decide) ?_
        exact ih (i + 1) (x + 1) ls (by omega) (by rw [hx0]; simp only [tm_cnt]; rw [if_neg hc]) (by rw [← nI_1]; exact lv_sub hl [0, 1, 2] rfl)
  refine lv_iconst (v := (nI 0)) hx hb dX4_heldKeys_0 (by decide) ?_
  refine lv_istore_n (lv' := [(1, .int (nI 0)), (0, .ref (ad 0))]) hx hb dX4_heldKeys_1 rfl hl (by decide) rfl (fun ls hl => ?_)
  refine lv_iconst (v := (nI 0)) hx hb dX4_heldKeys_2 (by decide) ?_
  refine lv_istore_n (lv' := [(2, .int (nI 0)), (1, .int (nI 0)), (0, .ref (ad 0))]) hx hb dX4_heldKeys_3 rfl hl (by decide) rfl (fun ls hl => ?_)
  exact K 4 0 _ ls (by omega) rfl (lv_sub hl [0, 1, 2] rfl)
set_option maxHeartbeats 4000000 in
set_option maxRecDepth 100000 in
theorem c_definedIndices (u : tm_S) : kc_M l dC dI gs ad cc yX4_definedIndices wsX4_definedIndices { frames := 0, cells := 0, slots := 0, locals := 0 } [.ref (ad 0)] u u (some (.int (tm_cnt u 6 4))) := by
  refine kq_ofW (cc := cX4_definedIndices) (maxL := 3) (ret := (some .int)) (R0 := RX4) (by decide) rfl rfl (Nat.le_of_ble_eq_true rfl) ?_
  intro p e s m below meth c A ls hx hb hr hlk hml hown hts hP hK hD hA hG hS hl
  have hl : lv_has ls 3 [(0, .ref (ad 0))] := hl
  have K : ∀ (n i : Nat) (x : Int32) (ls : Array Slot), i + n = 4 → x = tm_cnt u 6 i → lv_has ls 3 [(2, .int (nI i)), (1, .int x), (0, .ref (ad 0))] → W p l e { frames := 0, cells := 0, slots := 0, locals := 0 } s m (([.ref (ad 0)] : List Value).toArray) below meth c s.heap [] 0 0 (MQ below (fun _ => kq_Q (dC, dI) vwCl A (tc_w ad cc u) (some (.int (tm_cnt u 6 4)))) (([.ref (ad 0)] : List Value).toArray) s 0 0 A) (F0 m 4 ls []) := by
    intro n
    induction n with
    | zero =>
      intro i x ls hi hx0 hl
      have hi : i = 4 := by omega
      subst hi
      refine lv_iload_n hx hb dX4_definedIndices_4 rfl (lv_at hl 0 rfl) ?_
      refine lv_iconst (v := (nI 4)) hx hb dX4_definedIndices_5 (by decide) ?_
      refine lv_icmp_ge (tgt := 30) hx hb dX4_definedIndices_6 (by decide) (fun _ => ?_) (fun c => absurd (by decide) c)
      subst hx0
      refine lv_iload_n hx hb dX4_definedIndices_30 rfl (lv_at hl 1 rfl) ?_
      exact kq_iret hx hb hr hlk hP hD hS dX4_definedIndices_31
    | succ n ih =>
      intro i x ls hi hx0 hl
      refine lv_iload_n hx hb dX4_definedIndices_4 rfl (lv_at hl 0 rfl) ?_
      refine lv_iconst (v := (nI 4)) hx hb dX4_definedIndices_5 (by decide) ?_
      refine lv_icmp_ge (tgt := 30) hx hb dX4_definedIndices_6 (by decide) (fun c => absurd c (nI_ge (show i < 4 by omega) (by omega))) (fun _ => ?_)
      refine lv_aload_n hx hb dX4_definedIndices_9 rfl (lv_at hl 2 rfl) ?_
      refine tc_gT_indices hx hb hts inB_X4 hown hK hP (hts _ mb_150) dX4_definedIndices_10 ?_
      refine lv_iload_n hx hb dX4_definedIndices_13 rfl (lv_at hl 0 rfl) ?_
      refine tc_a_indices hx hb hK hP (by omega) dX4_definedIndices_14 ?_
      refine tc_gX_defined hx hb hts inB_X1 hown hK hP (by omega) (hts _ mb_108) dX4_definedIndices_15 ?_
      by_cases hc : u.2.1 6 i = 0
      · refine lv_if_eq (tgt := 24) hx hb dX4_definedIndices_18 (by decide) (fun _ => ?_) (fun c => absurd hc c)
        refine lv_iinc (v := ((nI i) + 1)) (lv' := [(2, .int ((nI i) + 1)), (1, .int x), (0, .ref (ad 0))]) hx hb dX4_definedIndices_24 hl (k := 0) rfl (rfl) (by decide) rfl (fun ls hl => ?_)
        refine lv_goto (tgt := 4) hx hb dX4_definedIndices_27 (by decide) ?_
        exact ih (i + 1) x ls (by omega) (by rw [hx0]; simp only [tm_cnt]; rw [if_pos hc]) (by rw [← nI_1]; exact lv_sub hl [0, 1, 2] rfl)
      · refine lv_if_eq (tgt := 24) hx hb dX4_definedIndices_18 (by decide) (fun c => absurd c hc) (fun _ => ?_)
        refine lv_iinc (v := (x + 1)) (lv' := [(1, .int (x + 1)), (2, .int (nI i)), (0, .ref (ad 0))]) hx hb dX4_definedIndices_21 hl (k := 1) rfl (rfl) (by decide) rfl (fun ls hl => ?_)
        refine lv_iinc (v := ((nI i) + 1)) (lv' := [(2, .int ((nI i) + 1)), (1, .int (x + 1)), (0, .ref (ad 0))]) hx hb dX4_definedIndices_24 hl (k := 1) rfl (rfl) (by decide) rfl (fun ls hl => ?_)
        refine lv_goto (tgt := 4) hx hb dX4_definedIndices_27 (by decide) ?_
        exact ih (i + 1) (x + 1) ls (by omega) (by rw [hx0]; simp only [tm_cnt]; rw [if_neg hc]) (by rw [← nI_1]; exact lv_sub hl [0, 1, 2] rfl)
  refine lv_iconst (v := (nI 0)) hx hb dX4_definedIndices_0 (by decide) ?_
  refine lv_istore_n (lv' := [(1, .int (nI 0)), (0, .ref (ad 0))]) hx hb dX4_definedIndices_1 rfl hl (by decide) rfl (fun ls hl => ?_)
  refine lv_iconst (v := (nI 0)) hx hb dX4_definedIndices_2 (by decide) ?_
  refine lv_istore_n (lv' := [(2, .int (nI 0)), (1, .int (nI 0)), (0, .ref (ad 0))]) hx hb dX4_definedIndices_3 rfl hl (by decide) rfl (fun ls hl => ?_)
  exact K 4 0 _ ls (by omega) rfl (lv_sub hl [0, 1, 2] rfl)
set_option maxHeartbeats 4000000 in
set_option maxRecDepth 100000 in
theorem c_madeBlobs (u : tm_S) : kc_M l dC dI gs ad cc yX4_madeBlobs wsX4_madeBlobs { frames := 0, cells := 0, slots := 0, locals := 0 } [.ref (ad 0)] u u (some (.int (tm_cnt u 3 8))) := by
  refine kq_ofW (cc := cX4_madeBlobs) (maxL := 3) (ret := (some .int)) (R0 := RX4) (by decide) rfl rfl (Nat.le_of_ble_eq_true rfl) ?_
  intro p e s m below meth c A ls hx hb hr hlk hml hown hts hP hK hD hA hG hS hl
  have hl : lv_has ls 3 [(0, .ref (ad 0))] := hl
  have K : ∀ (n i : Nat) (x : Int32) (ls : Array Slot), i + n = 8 → x = tm_cnt u 3 i → lv_has ls 3 [(2, .int (nI i)), (1, .int x), (0, .ref (ad 0))] → W p l e { frames := 0, cells := 0, slots := 0, locals := 0 } s m (([.ref (ad 0)] : List Value).toArray) below meth c s.heap [] 0 0 (MQ below (fun _ => kq_Q (dC, dI) vwCl A (tc_w ad cc u) (some (.int (tm_cnt u 3 8)))) (([.ref (ad 0)] : List Value).toArray) s 0 0 A) (F0 m 4 ls []) := by
    intro n
    induction n with
    | zero =>
      intro i x ls hi hx0 hl
      have hi : i = 8 := by omega
      subst hi
      refine lv_iload_n hx hb dX4_madeBlobs_4 rfl (lv_at hl 0 rfl) ?_
      refine lv_bipush (v := (nI 8)) hx hb dX4_madeBlobs_5 (by decide) ?_
      refine lv_icmp_ge (tgt := 31) hx hb dX4_madeBlobs_7 (by decide) (fun _ => ?_) (fun c => absurd (by decide) c)
      subst hx0
      refine lv_iload_n hx hb dX4_madeBlobs_31 rfl (lv_at hl 1 rfl) ?_
      exact kq_iret hx hb hr hlk hP hD hS dX4_madeBlobs_32
    | succ n ih =>
      intro i x ls hi hx0 hl
      refine lv_iload_n hx hb dX4_madeBlobs_4 rfl (lv_at hl 0 rfl) ?_
      refine lv_bipush (v := (nI 8)) hx hb dX4_madeBlobs_5 (by decide) ?_
      refine lv_icmp_ge (tgt := 31) hx hb dX4_madeBlobs_7 (by decide) (fun c => absurd c (nI_ge (show i < 8 by omega) (by omega))) (fun _ => ?_)
      refine lv_aload_n hx hb dX4_madeBlobs_10 rfl (lv_at hl 2 rfl) ?_
      refine tc_gT_blobs hx hb hts inB_X4 hown hK hP (hts _ mb_148) dX4_madeBlobs_11 ?_
      refine lv_iload_n hx hb dX4_madeBlobs_14 rfl (lv_at hl 0 rfl) ?_
      refine tc_a_blobs hx hb hK hP (by omega) dX4_madeBlobs_15 ?_
      refine tc_gB_made hx hb hts inB_X0 hown hK hP (by omega) (hts _ mb_76) dX4_madeBlobs_16 ?_
      by_cases hc : u.2.1 3 i = 0
      · refine lv_if_eq (tgt := 25) hx hb dX4_madeBlobs_19 (by decide) (fun _ => ?_) (fun c => absurd hc c)
        refine lv_iinc (v := ((nI i) + 1)) (lv' := [(2, .int ((nI i) + 1)), (1, .int x), (0, .ref (ad 0))]) hx hb dX4_madeBlobs_25 hl (k := 0) rfl (rfl) (by decide) rfl (fun ls hl => ?_)
        refine lv_goto (tgt := 4) hx hb dX4_madeBlobs_28 (by decide) ?_
        exact ih (i + 1) x ls (by omega) (by rw [hx0]; simp only [tm_cnt]; rw [if_pos hc]) (by rw [← nI_1]; exact lv_sub hl [0, 1, 2] rfl)
      · refine lv_if_eq (tgt := 25) hx hb dX4_madeBlobs_19 (by decide) (fun c => absurd c hc) (fun _ => ?_)
        refine lv_iinc (v := (x + 1)) (lv' := [(1, .int (x + 1)), (2, .int (nI i)), (0, .ref (ad 0))]) hx hb dX4_madeBlobs_22 hl (k := 1) rfl (rfl) (by decide) rfl (fun ls hl => ?_)
        refine lv_iinc (v := ((nI i) + 1)) (lv' := [(2, .int ((nI i) + 1)), (1, .int (x + 1)), (0, .ref (ad 0))]) hx hb dX4_madeBlobs_25 hl (k := 1) rfl (rfl) (by decide) rfl (fun ls hl => ?_)
        refine lv_goto (tgt := 4) hx hb dX4_madeBlobs_28 (by decide) ?_
        exact ih (i + 1) (x + 1) ls (by omega) (by rw [hx0]; simp only [tm_cnt]; rw [if_neg hc]) (by rw [← nI_1]; exact lv_sub hl [0, 1, 2] rfl)
  refine lv_iconst (v := (nI 0)) hx hb dX4_madeBlobs_0 (by decide) ?_
  refine lv_istore_n (lv' := [(1, .int (nI 0)), (0, .ref (ad 0))]) hx hb dX4_madeBlobs_1 rfl hl (by decide) rfl (fun ls hl => ?_)
  refine lv_iconst (v := (nI 0)) hx hb dX4_madeBlobs_2 (by decide) ?_
  refine lv_istore_n (lv' := [(2, .int (nI 0)), (1, .int (nI 0)), (0, .ref (ad 0))]) hx hb dX4_madeBlobs_3 rfl hl (by decide) rfl (fun ls hl => ?_)
  exact K 8 0 _ ls (by omega) rfl (lv_sub hl [0, 1, 2] rfl)
set_option maxHeartbeats 4000000 in
set_option maxRecDepth 100000 in
theorem c_hashOfPcrs (u : tm_S) {j : Nat} (hj : j < 2) (mk : Int32) : kc_M l dC dI gs ad cc yX4_hashOfPcrs wsX4_hashOfPcrs { frames := 1, cells := 0, slots := 0, locals := 25 } [.ref (ad 0), .int (nI j), .int mk] u u (some (.long (tm_px u j mk 8))) := by
  refine kq_ofW (cc := cX4_hashOfPcrs) (maxL := 6) (ret := (some .long)) (R0 := RX4) (by decide) rfl rfl (Nat.le_of_ble_eq_true rfl) ?_
  intro p e s m below meth c A ls hx hb hr hlk hml hown hts hP hK hD hA hG hS hl
  have hl : lv_has ls 6 [(0, .ref (ad 0)), (1, .int (nI j)), (2, .int mk)] := hl
  have K : ∀ (n i : Nat) (x : Int64) (ls : Array Slot) (H : Heap) (locs : List Loc), i + n = 8 → x = tm_px u j mk i → va_P (dC, dI) vwCl (tc_w ad cc u) H → va_D A (tc_w ad cc u) → va_S A s.heap H locs → lv_has ls 6 [(5, .int (nI i)), (3, .long x), (0, .ref (ad 0)), (1, .int (nI j)), (2, .int mk)] → W p l e { frames := 1, cells := 0, slots := 0, locals := 25 } s m (([.ref (ad 0), .int (nI j), .int mk] : List Value).toArray) below meth c H locs 0 0 (MQ below (fun _ => kq_Q (dC, dI) vwCl A (tc_w ad cc u) (some (.long (tm_px u j mk 8)))) (([.ref (ad 0), .int (nI j), .int mk] : List Value).toArray) s 0 0 A) (F0 m 5 ls []) := by
    intro n
    induction n with
    | zero =>
      intro i x ls H locs hi hx0 hP hD hS hl
      have hi : i = 8 := by omega
      subst hi
      subst hx0
      refine lv_iload hx hb dX4_hashOfPcrs_5 (lv_at hl 0 rfl) ?_
      refine lv_bipush (v := (nI 8)) hx hb dX4_hashOfPcrs_7 (by decide) ?_
      refine lv_icmp_ge (tgt := 42) hx hb dX4_hashOfPcrs_9 (by decide) (fun _ => ?_) (fun c => absurd (by decide) c)
      refine lv_lload_n hx hb dX4_hashOfPcrs_42 rfl (lv_at hl 1 rfl) ?_
      exact kq_lret hx hb hr hlk hP hD hS dX4_hashOfPcrs_43
    | succ n ih =>
      intro i x ls H locs hi hx0 hP hD hS hl
      refine lv_iload hx hb dX4_hashOfPcrs_5 (lv_at hl 0 rfl) ?_
      refine lv_bipush (v := (nI 8)) hx hb dX4_hashOfPcrs_7 (by decide) ?_
      refine lv_icmp_ge (tgt := 42) hx hb dX4_hashOfPcrs_9 (by decide) (fun c => absurd c (nI_ge (show i < 8 by omega) (by omega))) (fun _ => ?_)
      refine lv_iload_n hx hb dX4_hashOfPcrs_12 rfl (lv_at hl 4 rfl) ?_
      refine lv_iload hx hb dX4_hashOfPcrs_13 (lv_at hl 0 rfl) ?_
      refine lv_ishr hx hb dX4_hashOfPcrs_15 ?_
      refine lv_iconst (v := (nI 1)) hx hb dX4_hashOfPcrs_16 (by decide) ?_
      refine lv_iand hx hb dX4_hashOfPcrs_17 ?_
      refine lv_iconst (v := (nI 1)) hx hb dX4_hashOfPcrs_18 (by decide) ?_
      by_cases hc : ((mk >>> (nI i &&& 31)) &&& nI 1) = nI 1
      · refine lv_icmp_ne (tgt := 36) hx hb dX4_hashOfPcrs_19 (by decide) (fun c => absurd hc c) (fun _ => ?_)
        refine lv_lload_n hx hb dX4_hashOfPcrs_22 rfl (lv_at hl 1 rfl) ?_
        refine lv_aload_n hx hb dX4_hashOfPcrs_23 rfl (lv_at hl 2 rfl) ?_
        refine tc_gT_pcrs hx hb hts inB_X4 hown hK hP (hts _ mb_146) dX4_hashOfPcrs_24 ?_
        refine lv_iload_n hx hb dX4_hashOfPcrs_27 rfl (lv_at hl 3 rfl) ?_
        refine tc_a_pcrs hx hb hK hP (by omega) dX4_hashOfPcrs_28 ?_
        refine lv_iload hx hb dX4_hashOfPcrs_29 (lv_at hl 0 rfl) ?_
        refine tc_l_pcr hx hb hK hP (by omega) (by omega) dX4_hashOfPcrs_31 ?_
        refine kq_cS (st1 := [.long (tm_h x (u.1 1 (8 * j + i)))]) ⟨hx, hb, hml, hown, hts⟩ (c_hash u x (u.1 1 (8 * j + i))) (va_cwS 2 hts gX4_42_X4_hash rfl rfl rfl (by decide +kernel) ⟨Nat.le_of_ble_eq_true rfl, Nat.le_of_ble_eq_true rfl⟩) tm_Gok hK hP hD hA hG hS rfl hl.1 rfl rfl (Nat.le_of_ble_eq_true rfl) dX4_hashOfPcrs_32 ⟨Nat.le_of_ble_eq_true rfl, Nat.le_of_ble_eq_true rfl⟩ (fun H locs hP hD hS => ?_)
        refine lv_lstore_n (lv' := [(3, .long (tm_h x (u.1 1 (8 * j + i)))), (5, .int (nI i)), (0, .ref (ad 0)), (1, .int (nI j)), (2, .int mk)]) hx hb dX4_hashOfPcrs_35 rfl hl (by decide) rfl (fun ls hl => ?_)
        refine lv_iinc (v := ((nI i) + 1)) (lv' := [(5, .int ((nI i) + 1)), (3, .long (tm_h x (u.1 1 (8 * j + i)))), (0, .ref (ad 0)), (1, .int (nI j)), (2, .int mk)]) hx hb dX4_hashOfPcrs_36 hl (k := 1) rfl (rfl) (by decide) rfl (fun ls hl => ?_)
        refine lv_goto (tgt := 5) hx hb dX4_hashOfPcrs_39 (by decide) ?_
        exact ih (i + 1) (tm_h x (u.1 1 (8 * j + i))) ls H locs (by omega) (by rw [hx0]; simp only [tm_px]; rw [if_pos hc]) hP hD hS (by rw [← nI_1]; exact lv_sub hl [0, 1, 2, 3, 4] rfl)
      · refine lv_icmp_ne (tgt := 36) hx hb dX4_hashOfPcrs_19 (by decide) (fun _ => ?_) (fun c => absurd c hc)
        refine lv_iinc (v := ((nI i) + 1)) (lv' := [(5, .int ((nI i) + 1)), (3, .long x), (0, .ref (ad 0)), (1, .int (nI j)), (2, .int mk)]) hx hb dX4_hashOfPcrs_36 hl (k := 0) rfl (rfl) (by decide) rfl (fun ls hl => ?_)
        refine lv_goto (tgt := 5) hx hb dX4_hashOfPcrs_39 (by decide) ?_
        exact ih (i + 1) x ls H locs (by omega) (by rw [hx0]; simp only [tm_px]; rw [if_neg hc]) hP hD hS (by rw [← nI_1]; exact lv_sub hl [0, 1, 2, 3, 4] rfl)
  refine lv_lconst (v := 0) hx hb dX4_hashOfPcrs_0 (by decide) ?_
  refine lv_lstore_n (lv' := [(3, .long 0), (0, .ref (ad 0)), (1, .int (nI j)), (2, .int mk)]) hx hb dX4_hashOfPcrs_1 rfl hl (by decide) rfl (fun ls hl => ?_)
  refine lv_iconst (v := (nI 0)) hx hb dX4_hashOfPcrs_2 (by decide) ?_
  refine lv_istore (lv' := [(5, .int (nI 0)), (3, .long 0), (0, .ref (ad 0)), (1, .int (nI j)), (2, .int mk)]) hx hb dX4_hashOfPcrs_3 hl (by decide) rfl (fun ls hl => ?_)
  exact K 8 0 _ ls s.heap [] (by omega) rfl hP hD hS (lv_sub hl [0, 1, 2, 3, 4] rfl)
end S15
