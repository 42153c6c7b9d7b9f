section S23
variable {l : Launch} {dC : Nat → ClassId} {dI : Nat → Nat → Nat} {gs : Nat → Nat} {ad : Nat → Nat} {cc : Nat → ClassId}
set_option maxHeartbeats 4000000 in
set_option maxRecDepth 100000 in
theorem p_pcr_ok (u : tm_S) {j i : Nat} (hj : j < 3) (hi : i < 2) (mk : Int32) (h : ¬ mk < nI 1) (h2 : mk ≤ nI 255) (hnl : u.2.1 11 0 = 0) : kr_M l dC dI ad cc yX5_pcr wsX5_pcr { frames := 1, cells := 0, slots := 0, locals := 26 } [.ref (ad 0), .int (nI j), .int (nI i), .int mk] u (tm_I (tm_I (tm_L (tm_I u 14 0 (nI 0)) 6 j (tm_h (tm_h (u.1 6 j) 11) (tm_px u i mk 8))) 4 j (nI 1)) 5 j (u.2.1 9 0)) (some (.long (tm_h (tm_h (u.1 6 j) 11) (tm_px u i mk 8)))) := by
  refine kq_ofW (cc := cX5_pcr) (maxL := 7) (ret := (some .long)) (R0 := RX5) (by decide) rfl rfl (Nat.le_of_ble_eq_true rfl) ?_
  intro p e s m below meth c A ls hx hb hr hlk hml hown hts hP hK hD hA hG hS hl
  have hl : lv_has ls 7 [(0, .ref (ad 0)), (1, .int (nI j)), (2, .int (nI i)), (3, .int mk)] := hl
  have K : ∀ (n q : Nat) (x : Int64) (ls : Array Slot) (H : Heap) (locs : List Loc), q + n = 8 → x = tm_px u i mk q → va_P (dC, dI) vwCl (tr_w ad cc (tm_I u 14 0 (nI 0))) H → va_D A (tr_w ad cc (tm_I u 14 0 (nI 0))) → va_S A s.heap H locs → lv_has ls 7 [(6, .int (nI q)), (4, .long x), (0, .ref (ad 0)), (1, .int (nI j)), (2, .int (nI i)), (3, .int mk)] → W p l e { frames := 1, cells := 0, slots := 0, locals := 26 } s m (([.ref (ad 0), .int (nI j), .int (nI i), .int mk] : List Value).toArray) below meth c H locs 0 0 (MQ below (fun _ => kq_Q (dC, dI) vwCl A (tr_w ad cc (tm_I (tm_I (tm_L (tm_I u 14 0 (nI 0)) 6 j (tm_h (tm_h (u.1 6 j) 11) (tm_px u i mk 8))) 4 j (nI 1)) 5 j (u.2.1 9 0))) (some (.long (tm_h (tm_h (u.1 6 j) 11) (tm_px u i mk 8))))) (([.ref (ad 0), .int (nI j), .int (nI i), .int mk] : List Value).toArray) s 0 0 A) (F0 m 50 ls []) := by
    intro n
    induction n with
    | zero =>
      intro q x ls H locs hq hx0 hP hD hS hl
      have hq : q = 8 := by omega
      subst hq
      subst hx0
      refine lv_iload hx hb dX5_pcr_50 (lv_at hl 0 rfl) ?_
      refine lv_bipush (v := (nI 8)) hx hb dX5_pcr_52 (by decide) ?_
      refine lv_icmp_ge (tgt := 92) hx hb dX5_pcr_54 (by decide) (fun _ => ?_) (fun c => absurd (by decide) c)
      refine lv_aload_n hx hb dX5_pcr_92 rfl (lv_at hl 2 rfl) ?_
      refine tr_g_digest hx hb hts inB_X5 hown hK hP (hts _ mb_632) dX5_pcr_93 ?_
      refine lv_iload_n hx hb dX5_pcr_96 rfl (lv_at hl 3 rfl) ?_
      refine lv_aload_n hx hb dX5_pcr_97 rfl (lv_at hl 2 rfl) ?_
      refine lv_aload_n hx hb dX5_pcr_98 rfl (lv_at hl 2 rfl) ?_
      refine lv_aload_n hx hb dX5_pcr_99 rfl (lv_at hl 2 rfl) ?_
      refine tr_g_digest hx hb hts inB_X5 hown hK hP (hts _ mb_632) dX5_pcr_100 ?_
      refine lv_iload_n hx hb dX5_pcr_103 rfl (lv_at hl 3 rfl) ?_
      refine tr_l_digest hx hb hK hP (by omega) dX5_pcr_104 ?_
      refine kq_tl (y := (u.1 6 j)) (by simp [tm_L, tm_I, tm_D]) ?_
      refine lv_ldc2 hx hb hown (hts _ mb_795) dX5_pcr_105 ?_
      refine kq_cV (st1 := [.long (tm_h (u.1 6 j) 11), .ref (ad 0), .int (nI j), .ref (ad 3)]) ⟨hx, hb, hml, hown, hts⟩ (r_mix (tm_I u 14 0 (nI 0)) (u.1 6 j) 11) (cwV 2 hts gX5_74_X5_mix rfl rfl rfl (by decide +kernel) ⟨Nat.le_of_ble_eq_true rfl, Nat.le_of_ble_eq_true rfl⟩) kq_okT hK hP hD hA hG hS (va_recv hK hP (ci := 5) (q0 := 0) rfl (tm_at (i := 0) (by omega) rfl)) rfl hl.1 rfl rfl (Nat.le_of_ble_eq_true rfl) dX5_pcr_108 ⟨Nat.le_of_ble_eq_true rfl, Nat.le_of_ble_eq_true rfl⟩ (fun H locs hP hD hS => ?_)
      refine lv_lload hx hb dX5_pcr_111 (lv_at hl 1 rfl) ?_
      refine kq_cV (st1 := [.long (tm_h (tm_h (u.1 6 j) 11) (tm_px u i mk 8)), .int (nI j), .ref (ad 3)]) ⟨hx, hb, hml, hown, hts⟩ (r_mix (tm_I u 14 0 (nI 0)) (tm_h (u.1 6 j) 11) (tm_px u i mk 8)) (cwV 2 hts gX5_74_X5_mix rfl rfl rfl (by decide +kernel) ⟨Nat.le_of_ble_eq_true rfl, Nat.le_of_ble_eq_true rfl⟩) kq_okT hK hP hD hA hG hS (va_recv hK hP (ci := 5) (q0 := 0) rfl (tm_at (i := 0) (by omega) rfl)) rfl hl.1 rfl rfl (Nat.le_of_ble_eq_true rfl) dX5_pcr_113 ⟨Nat.le_of_ble_eq_true rfl, Nat.le_of_ble_eq_true rfl⟩ (fun H locs hP hD hS => ?_)
      refine tr_t_digest hx hb hK hP hD hS (by omega) dX5_pcr_116 (fun H locs hP hD hS => ?_)
      refine lv_aload_n hx hb dX5_pcr_117 rfl (lv_at hl 2 rfl) ?_
      refine tr_g_looked hx hb hts inB_X5 hown hK hP (hts _ mb_644) dX5_pcr_118 ?_
      refine lv_iload_n hx hb dX5_pcr_121 rfl (lv_at hl 3 rfl) ?_
      refine lv_iconst (v := (nI 1)) hx hb dX5_pcr_122 (by decide) ?_
      refine tr_t_looked hx hb hK hP hD hS (by omega) (by first | rfl | decide) dX5_pcr_123 (fun H locs hP hD hS => ?_)
      refine lv_aload_n hx hb dX5_pcr_124 rfl (lv_at hl 2 rfl) ?_
      refine tr_g_seen hx hb hts inB_X5 hown hK hP (hts _ mb_640) dX5_pcr_125 ?_
      refine lv_iload_n hx hb dX5_pcr_128 rfl (lv_at hl 3 rfl) ?_
      refine lv_aload_n hx hb dX5_pcr_129 rfl (lv_at hl 2 rfl) ?_
      refine tr_g_pcrCount hx hb hts inB_X5 hown hK hP (hts _ mb_648) dX5_pcr_130 ?_
      refine kq_ti (y := (u.2.1 9 0)) (by simp [tm_L, tm_I, tm_D]) ?_
      refine tr_t_seen hx hb hK hP hD hS (by omega) dX5_pcr_133 (fun H locs hP hD hS => ?_)
      refine lv_aload_n hx hb dX5_pcr_134 rfl (lv_at hl 2 rfl) ?_
      refine tr_g_digest hx hb hts inB_X5 hown hK hP (hts _ mb_632) dX5_pcr_135 ?_
      refine lv_iload_n hx hb dX5_pcr_138 rfl (lv_at hl 3 rfl) ?_
      refine tr_l_digest hx hb hK hP (by omega) dX5_pcr_139 ?_
      refine kq_tl (y := (tm_h (tm_h (u.1 6 j) 11) (tm_px u i mk 8))) (by simp [tm_L, tm_I, tm_D]) ?_
      exact kq_lret hx hb hr hlk hP hD hS dX5_pcr_140
    | succ n ih =>
      intro q x ls H locs hq hx0 hP hD hS hl
      refine lv_iload hx hb dX5_pcr_50 (lv_at hl 0 rfl) ?_
      refine lv_bipush (v := (nI 8)) hx hb dX5_pcr_52 (by decide) ?_
      refine lv_icmp_ge (tgt := 92) hx hb dX5_pcr_54 (by decide) (fun c => absurd c (nI_ge (show q < 8 by omega) (by omega))) (fun _ => ?_)
      refine lv_iload_n hx hb dX5_pcr_57 rfl (lv_at hl 5 rfl) ?_
      refine lv_iload hx hb dX5_pcr_58 (lv_at hl 0 rfl) ?_
      refine lv_ishr hx hb dX5_pcr_60 ?_
      refine lv_iconst (v := (nI 1)) hx hb dX5_pcr_61 (by decide) ?_
      refine lv_iand hx hb dX5_pcr_62 ?_
      by_cases hc : ((mk >>> (nI q &&& 31)) &&& nI 1) = nI 1
      · refine lv_if_eq (tgt := 86) hx hb dX5_pcr_63 (by decide) (fun c => absurd c ((tm_and1 _).mp hc)) (fun _ => ?_)
        refine lv_aload_n hx hb dX5_pcr_66 rfl (lv_at hl 2 rfl) ?_
        refine lv_lload hx hb dX5_pcr_67 (lv_at hl 1 rfl) ?_
        refine lv_aload_n hx hb dX5_pcr_69 rfl (lv_at hl 2 rfl) ?_
        refine tr_g_pcr hx hb hts inB_X5 hown hK hP (hts _ mb_631) dX5_pcr_70 ?_
        refine lv_iload_n hx hb dX5_pcr_73 rfl (lv_at hl 4 rfl) ?_
        refine lv_bipush (v := (nI 8)) hx hb dX5_pcr_74 (by decide) ?_
        refine lv_imul hx hb dX5_pcr_76 ?_
        refine kq_ti (y := (nI (8 * i))) (by rw [pk_mul, Nat.mul_comm]) ?_
        refine lv_iload hx hb dX5_pcr_77 (lv_at hl 0 rfl) ?_
        refine lv_iadd hx hb dX5_pcr_79 ?_
        refine kq_ti (y := (nI (8 * i + q))) (nI_add (8 * i) q) ?_
        refine tr_l_pcr hx hb hK hP (by omega) dX5_pcr_80 ?_
        refine kq_tl (y := (u.1 1 (8 * i + q))) (by simp [tm_L, tm_I, tm_D]) ?_
        refine kq_cV (st1 := [.long (tm_h x (u.1 1 (8 * i + q)))]) ⟨hx, hb, hml, hown, hts⟩ (r_mix (tm_I u 14 0 (nI 0)) x (u.1 1 (8 * i + q))) (cwV 2 hts gX5_74_X5_mix rfl rfl rfl (by decide +kernel) ⟨Nat.le_of_ble_eq_true rfl, Nat.le_of_ble_eq_true rfl⟩) kq_okT hK hP hD hA hG hS (va_recv hK hP (ci := 5) (q0 := 0) rfl (tm_at (i := 0) (by omega) rfl)) rfl hl.1 rfl rfl (Nat.le_of_ble_eq_true rfl) dX5_pcr_81 ⟨Nat.le_of_ble_eq_true rfl, Nat.le_of_ble_eq_true rfl⟩ (fun H locs hP hD hS => ?_)
        refine lv_lstore (lv' := [(4, .long (tm_h x (u.1 1 (8 * i + q)))), (6, .int (nI q)), (0, .ref (ad 0)), (1, .int (nI j)), (2, .int (nI i)), (3, .int mk)]) hx hb dX5_pcr_84 hl (by decide) rfl (fun ls hl => ?_)
        refine lv_iinc (v := ((nI q) + 1)) (lv' := [(6, .int ((nI q) + 1)), (4, .long (tm_h x (u.1 1 (8 * i + q)))), (0, .ref (ad 0)), (1, .int (nI j)), (2, .int (nI i)), (3, .int mk)]) hx hb dX5_pcr_86 hl (k := 1) rfl (rfl) (by decide) rfl (fun ls hl => ?_)
        refine lv_goto (tgt := 50) hx hb dX5_pcr_89 (by decide) ?_
        exact ih (q + 1) (tm_h x (u.1 1 (8 * i + q))) ls H locs (by omega) (by rw [hx0]; simp only [tm_px]; rw [if_pos hc]) hP hD hS (by rw [← nI_1]; exact lv_sub hl [0, 1, 2, 3, 4, 5] rfl)
      · refine lv_if_eq (tgt := 86) hx hb dX5_pcr_63 (by decide) (fun _ => ?_) (fun c => absurd (Decidable.not_not.mp (fun z => hc ((tm_and1 _).mpr z))) c)
        refine lv_iinc (v := ((nI q) + 1)) (lv' := [(6, .int ((nI q) + 1)), (4, .long x), (0, .ref (ad 0)), (1, .int (nI j)), (2, .int (nI i)), (3, .int mk)]) hx hb dX5_pcr_86 hl (k := 0) rfl (rfl) (by decide) rfl (fun ls hl => ?_)
        refine lv_goto (tgt := 50) hx hb dX5_pcr_89 (by decide) ?_
        exact ih (q + 1) x ls H locs (by omega) (by rw [hx0]; simp only [tm_px]; rw [if_neg hc]) hP hD hS (by rw [← nI_1]; exact lv_sub hl [0, 1, 2, 3, 4, 5] rfl)
  refine lv_aload_n hx hb dX5_pcr_0 rfl (lv_at hl 0 rfl) ?_
  refine lv_aload_n hx hb dX5_pcr_1 rfl (lv_at hl 0 rfl) ?_
  refine lv_iload_n hx hb dX5_pcr_2 rfl (lv_at hl 1 rfl) ?_
  refine lv_iconst (v := (nI 2)) hx hb dX5_pcr_3 (by decide) ?_
  refine kq_cV (st1 := [.int (nI 0), .ref (ad 0)]) ⟨hx, hb, hml, hown, hts⟩ (r_out_in u (by omega) (by omega)) (cwV 2 hts gX5_109_X5_out rfl rfl rfl (by decide +kernel) ⟨Nat.le_of_ble_eq_true rfl, Nat.le_of_ble_eq_true rfl⟩) kq_okT hK hP hD hA hG hS (va_recv hK hP (ci := 5) (q0 := 0) rfl (tm_at (i := 0) (by omega) rfl)) rfl hl.1 rfl rfl (Nat.le_of_ble_eq_true rfl) dX5_pcr_4 ⟨Nat.le_of_ble_eq_true rfl, Nat.le_of_ble_eq_true rfl⟩ (fun H locs hP hD hS => ?_)
  refine lv_if_ne (tgt := 31) hx hb dX5_pcr_7 (by decide) (fun c => absurd (by decide) c) (fun _ => ?_)
  refine lv_aload_n hx hb dX5_pcr_10 rfl (lv_at hl 0 rfl) ?_
  refine lv_iload_n hx hb dX5_pcr_11 rfl (lv_at hl 2 rfl) ?_
  refine lv_iconst (v := (nI 1)) hx hb dX5_pcr_12 (by decide) ?_
  refine kq_cV (st1 := [.int (nI 0), .ref (ad 0)]) ⟨hx, hb, hml, hown, hts⟩ (r_out_in u (by omega) (by omega)) (cwV 2 hts gX5_109_X5_out rfl rfl rfl (by decide +kernel) ⟨Nat.le_of_ble_eq_true rfl, Nat.le_of_ble_eq_true rfl⟩) kq_okT hK hP hD hA hG hS (va_recv hK hP (ci := 5) (q0 := 0) rfl (tm_at (i := 0) (by omega) rfl)) rfl hl.1 rfl rfl (Nat.le_of_ble_eq_true rfl) dX5_pcr_13 ⟨Nat.le_of_ble_eq_true rfl, Nat.le_of_ble_eq_true rfl⟩ (fun H locs hP hD hS => ?_)
  refine lv_if_ne (tgt := 31) hx hb dX5_pcr_16 (by decide) (fun c => absurd (by decide) c) (fun _ => ?_)
  refine lv_iload_n hx hb dX5_pcr_19 rfl (lv_at hl 3 rfl) ?_
  refine lv_iconst (v := (nI 1)) hx hb dX5_pcr_20 (by decide) ?_
  refine lv_icmp_lt (tgt := 31) hx hb dX5_pcr_21 (by decide) (fun c => absurd c h) (fun _ => ?_)
  refine lv_iload_n hx hb dX5_pcr_24 rfl (lv_at hl 3 rfl) ?_
  refine lv_sipush (v := (nI 255)) hx hb dX5_pcr_25 (by decide) ?_
  refine lv_icmp_le (tgt := 35) hx hb dX5_pcr_28 (by decide) (fun _ => ?_) (fun c => absurd h2 c)
  refine lv_iconst (v := (nI 0)) hx hb dX5_pcr_35 (by decide) ?_
  refine kq_cV (st1 := [.int (nI 1)]) ⟨hx, hb, hml, hown, hts⟩ (r_begin_ok u hnl) (cwV 1 hts gX5_113_X5_begin rfl rfl rfl (by decide +kernel) ⟨Nat.le_of_ble_eq_true rfl, Nat.le_of_ble_eq_true rfl⟩) kq_okT hK hP hD hA hG hS (va_recv hK hP (ci := 5) (q0 := 0) rfl (tm_at (i := 0) (by omega) rfl)) rfl hl.1 rfl rfl (Nat.le_of_ble_eq_true rfl) dX5_pcr_36 ⟨Nat.le_of_ble_eq_true rfl, Nat.le_of_ble_eq_true rfl⟩ (fun H locs hP hD hS => ?_)
  refine lv_if_ne (tgt := 44) hx hb dX5_pcr_39 (by decide) (fun _ => ?_) (fun c => absurd c (by decide))
  refine lv_lconst (v := 0) hx hb dX5_pcr_44 (by decide) ?_
  refine lv_lstore (lv' := [(4, .long 0), (0, .ref (ad 0)), (1, .int (nI j)), (2, .int (nI i)), (3, .int mk)]) hx hb dX5_pcr_45 hl (by decide) rfl (fun ls hl => ?_)
  refine lv_iconst (v := (nI 0)) hx hb dX5_pcr_47 (by decide) ?_
  refine lv_istore (lv' := [(6, .int (nI 0)), (4, .long 0), (0, .ref (ad 0)), (1, .int (nI j)), (2, .int (nI i)), (3, .int mk)]) hx hb dX5_pcr_48 hl (by decide) rfl (fun ls hl => ?_)
  exact K 8 0 _ ls H locs (by omega) rfl hP hD hS (lv_sub hl [0, 1, 2, 3, 4, 5] rfl)
set_option maxHeartbeats 4000000 in
set_option maxRecDepth 100000 in
theorem p_clock_ok0 (u : tm_S) {k : Nat} (hk : k < 101) (hnl : u.2.1 11 0 = 0) (hr2 : tm_pf (u.2.2 2)) (hc1 : tm_pn (u.2.2 1)) (hm : tm_pn (u.2.2 0)) (n0 : Nat) (hn : (u.2.1 13 0).toNatClampNeg ≤ n0) : kr_M l dC dI ad cc yX5_clock wsX5_clock { frames := 1, cells := 0, slots := 0, locals := 22 } [.ref (ad 0), .int (nI k), .int (nI 0)] u (tm_fg n0 (tm_D (tm_I u 14 0 (nI 0)) 1 (FP.dadd (u.2.2 1) (FP.dmul (FP.i2d (nI k)) (u.2.2 2))))) (some (.double ((tm_fg n0 (tm_D (tm_I u 14 0 (nI 0)) 1 (FP.dadd (u.2.2 1) (FP.dmul (FP.i2d (nI k)) (u.2.2 2))))).2.2 1))) := by
  refine kq_ofW (cc := cX5_clock) (maxL := 5) (ret := (some .double)) (R0 := RX5) (by decide) rfl rfl (Nat.le_of_ble_eq_true rfl) ?_
  intro p e s m below meth c A ls hx hb hr hlk hml hown hts hP hK hD hA hG hS hl
  have hl : lv_has ls 5 [(0, .ref (ad 0)), (1, .int (nI k)), (2, .int (nI 0))] := hl
  have hz2 : tm_pf ((tm_fg n0 (tm_D (tm_I u 14 0 (nI 0)) 1 (FP.dadd (u.2.2 1) (FP.dmul (FP.i2d (nI k)) (u.2.2 2))))).2.2 2) := by rw [tm_fg_D _ _ _ (by decide)]; simpa [tm_D, tm_I] using hr2
  have X : ∀ (ls : Array Slot) (H : Heap) (locs : List Loc), va_P (dC, dI) vwCl (tr_w ad cc (tm_fg n0 (tm_D (tm_I u 14 0 (nI 0)) 1 (FP.dadd (u.2.2 1) (FP.dmul (FP.i2d (nI k)) (u.2.2 2)))))) H → va_D A (tr_w ad cc (tm_fg n0 (tm_D (tm_I u 14 0 (nI 0)) 1 (FP.dadd (u.2.2 1) (FP.dmul (FP.i2d (nI k)) (u.2.2 2)))))) → va_S A s.heap H locs → lv_has ls 5 [(0, .ref (ad 0)), (1, .int (nI k)), (2, .int (nI 0))] → W p l e { frames := 1, cells := 0, slots := 0, locals := 22 } s m (([.ref (ad 0), .int (nI k), .int (nI 0)] : List Value).toArray) below meth c H locs 0 0 (MQ below (fun _ => kq_Q (dC, dI) vwCl A (tr_w ad cc (tm_fg n0 (tm_D (tm_I u 14 0 (nI 0)) 1 (FP.dadd (u.2.2 1) (FP.dmul (FP.i2d (nI k)) (u.2.2 2)))))) (some (.double ((tm_fg n0 (tm_D (tm_I u 14 0 (nI 0)) 1 (FP.dadd (u.2.2 1) (FP.dmul (FP.i2d (nI k)) (u.2.2 2))))).2.2 1)))) (([.ref (ad 0), .int (nI k), .int (nI 0)] : List Value).toArray) s 0 0 A) (F0 m 97 ls []) := by
    intro ls H locs hP hD hS hl
    have hz : ∃ z, z = (tm_fg n0 (tm_D (tm_I u 14 0 (nI 0)) 1 (FP.dadd (u.2.2 1) (FP.dmul (FP.i2d (nI k)) (u.2.2 2))))) := ⟨_, rfl⟩
    obtain ⟨z, hz⟩ := hz
    rw [← hz] at hz2 hP hD ⊢
    by_cases h2 : 0 < Op.cmpValue (FP.dcmp (z.2.2 2) 4616189618054758400) .g
    · skip
      refine lv_iload_n hx hb dX5_clock_97 rfl (lv_at hl 2 rfl) ?_
      refine lv_iconst (v := (nI 1)) hx hb dX5_clock_98 (by decide) ?_
      refine lv_icmp_ne (tgt := 113) hx hb dX5_clock_99 (by decide) (fun _ => ?_) (fun c => absurd c (by decide))
      refine lv_iload_n hx hb dX5_clock_113 rfl (lv_at hl 2 rfl) ?_
      refine lv_iconst (v := (nI 2)) hx hb dX5_clock_114 (by decide) ?_
      refine lv_icmp_ne (tgt := 129) hx hb dX5_clock_115 (by decide) (fun _ => ?_) (fun c => absurd c (by decide))
      refine lv_aload_n hx hb dX5_clock_129 rfl (lv_at hl 0 rfl) ?_
      refine tr_g_rate hx hb hts inB_X5 hown hK hP (hts _ mb_657) dX5_clock_130 ?_
      refine lv_dstore_n (lv' := [(3, .double (z.2.2 2)), (0, .ref (ad 0)), (1, .int (nI k)), (2, .int (nI 0))]) hx hb dX5_clock_133 rfl hl (by decide) rfl (fun ls hl => ?_)
      refine lv_dload_n hx hb dX5_clock_134 rfl (lv_at hl 0 rfl) ?_
      refine lv_ldc2d hx hb hown (hts _ mb_837) dX5_clock_135 ?_
      refine lv_dcmp hx hb dX5_clock_138 ?_
      refine lv_if_gt (tgt := 155) hx hb dX5_clock_139 (by decide) (fun _ => ?_) (fun c => absurd h2 c)
      refine lv_aload_n hx hb dX5_clock_155 rfl (lv_at hl 1 rfl) ?_
      refine tr_g_clock hx hb hts inB_X5 hown hK hP (hts _ mb_655) dX5_clock_156 ?_
      exact kq_dret hx hb hr hlk hP hD hS dX5_clock_159
    · by_cases h1 : Op.cmpValue (FP.dcmp (z.2.2 2) 4598175219545276416) .l < 0
      · skip
        refine lv_iload_n hx hb dX5_clock_97 rfl (lv_at hl 2 rfl) ?_
        refine lv_iconst (v := (nI 1)) hx hb dX5_clock_98 (by decide) ?_
        refine lv_icmp_ne (tgt := 113) hx hb dX5_clock_99 (by decide) (fun _ => ?_) (fun c => absurd c (by decide))
        refine lv_iload_n hx hb dX5_clock_113 rfl (lv_at hl 2 rfl) ?_
        refine lv_iconst (v := (nI 2)) hx hb dX5_clock_114 (by decide) ?_
        refine lv_icmp_ne (tgt := 129) hx hb dX5_clock_115 (by decide) (fun _ => ?_) (fun c => absurd c (by decide))
        refine lv_aload_n hx hb dX5_clock_129 rfl (lv_at hl 0 rfl) ?_
        refine tr_g_rate hx hb hts inB_X5 hown hK hP (hts _ mb_657) dX5_clock_130 ?_
        refine lv_dstore_n (lv' := [(3, .double (z.2.2 2)), (0, .ref (ad 0)), (1, .int (nI k)), (2, .int (nI 0))]) hx hb dX5_clock_133 rfl hl (by decide) rfl (fun ls hl => ?_)
        refine lv_dload_n hx hb dX5_clock_134 rfl (lv_at hl 0 rfl) ?_
        refine lv_ldc2d hx hb hown (hts _ mb_837) dX5_clock_135 ?_
        refine lv_dcmp hx hb dX5_clock_138 ?_
        refine lv_if_gt (tgt := 155) hx hb dX5_clock_139 (by decide) (fun c => absurd c h2) (fun _ => ?_)
        refine lv_dload_n hx hb dX5_clock_142 rfl (lv_at hl 0 rfl) ?_
        refine lv_ldc2d hx hb hown (hts _ mb_838) dX5_clock_143 ?_
        refine lv_dcmp hx hb dX5_clock_146 ?_
        refine lv_if_lt (tgt := 155) hx hb dX5_clock_147 (by decide) (fun _ => ?_) (fun c => absurd h1 c)
        refine lv_aload_n hx hb dX5_clock_155 rfl (lv_at hl 1 rfl) ?_
        refine tr_g_clock hx hb hts inB_X5 hown hK hP (hts _ mb_655) dX5_clock_156 ?_
        exact kq_dret hx hb hr hlk hP hD hS dX5_clock_159
      · have e9 : tm_D z 2 (z.2.2 2) = z := tm_D_id z 2
        refine lv_iload_n hx hb dX5_clock_97 rfl (lv_at hl 2 rfl) ?_
        refine lv_iconst (v := (nI 1)) hx hb dX5_clock_98 (by decide) ?_
        refine lv_icmp_ne (tgt := 113) hx hb dX5_clock_99 (by decide) (fun _ => ?_) (fun c => absurd c (by decide))
        refine lv_iload_n hx hb dX5_clock_113 rfl (lv_at hl 2 rfl) ?_
        refine lv_iconst (v := (nI 2)) hx hb dX5_clock_114 (by decide) ?_
        refine lv_icmp_ne (tgt := 129) hx hb dX5_clock_115 (by decide) (fun _ => ?_) (fun c => absurd c (by decide))
        refine lv_aload_n hx hb dX5_clock_129 rfl (lv_at hl 0 rfl) ?_
        refine tr_g_rate hx hb hts inB_X5 hown hK hP (hts _ mb_657) dX5_clock_130 ?_
        refine lv_dstore_n (lv' := [(3, .double (z.2.2 2)), (0, .ref (ad 0)), (1, .int (nI k)), (2, .int (nI 0))]) hx hb dX5_clock_133 rfl hl (by decide) rfl (fun ls hl => ?_)
        refine lv_dload_n hx hb dX5_clock_134 rfl (lv_at hl 0 rfl) ?_
        refine lv_ldc2d hx hb hown (hts _ mb_837) dX5_clock_135 ?_
        refine lv_dcmp hx hb dX5_clock_138 ?_
        refine lv_if_gt (tgt := 155) hx hb dX5_clock_139 (by decide) (fun c => absurd c h2) (fun _ => ?_)
        refine lv_dload_n hx hb dX5_clock_142 rfl (lv_at hl 0 rfl) ?_
        refine lv_ldc2d hx hb hown (hts _ mb_838) dX5_clock_143 ?_
        refine lv_dcmp hx hb dX5_clock_146 ?_
        refine lv_if_lt (tgt := 155) hx hb dX5_clock_147 (by decide) (fun c => absurd c h1) (fun _ => ?_)
        refine lv_aload_n hx hb dX5_clock_150 rfl (lv_at hl 1 rfl) ?_
        refine lv_dload_n hx hb dX5_clock_151 rfl (lv_at hl 0 rfl) ?_
        refine tr_p_rate hx hb hts inB_X5 hown hK hP hD hS (hts _ mb_657) dX5_clock_152 (fun H locs hP hD hS => ?_)
        rw [e9] at hP hD
        refine lv_aload_n hx hb dX5_clock_155 rfl (lv_at hl 1 rfl) ?_
        refine tr_g_clock hx hb hts inB_X5 hown hK hP (hts _ mb_655) dX5_clock_156 ?_
        exact kq_dret hx hb hr hlk hP hD hS dX5_clock_159
  have K : ∀ (n : Nat) (y : tm_S) (ls : Array Slot) (H : Heap) (locs : List Loc), tm_pn (y.2.2 0) → (y.2.1 13 0).toNatClampNeg ≤ n → tm_fg n y = (tm_fg n0 (tm_D (tm_I u 14 0 (nI 0)) 1 (FP.dadd (u.2.2 1) (FP.dmul (FP.i2d (nI k)) (u.2.2 2))))) → va_P (dC, dI) vwCl (tr_w ad cc y) H → va_D A (tr_w ad cc y) → va_S A s.heap H locs → lv_has ls 5 [(0, .ref (ad 0)), (1, .int (nI k)), (2, .int (nI 0))] → W p l e { frames := 1, cells := 0, slots := 0, locals := 22 } s m (([.ref (ad 0), .int (nI k), .int (nI 0)] : List Value).toArray) below meth c H locs 0 0 (MQ below (fun _ => kq_Q (dC, dI) vwCl A (tr_w ad cc (tm_fg n0 (tm_D (tm_I u 14 0 (nI 0)) 1 (FP.dadd (u.2.2 1) (FP.dmul (FP.i2d (nI k)) (u.2.2 2)))))) (some (.double ((tm_fg n0 (tm_D (tm_I u 14 0 (nI 0)) 1 (FP.dadd (u.2.2 1) (FP.dmul (FP.i2d (nI k)) (u.2.2 2))))).2.2 1)))) (([.ref (ad 0), .int (nI k), .int (nI 0)] : List Value).toArray) s 0 0 A) (F0 m 49 ls []) := by
    intro n
    induction n with
    | zero =>
      intro y ls H locs hm hn he hP hD hS hl
      have hle : y.2.1 13 0 ≤ 0 := tm_le0 (by omega)
      have he : y = (tm_fg n0 (tm_D (tm_I u 14 0 (nI 0)) 1 (FP.dadd (u.2.2 1) (FP.dmul (FP.i2d (nI k)) (u.2.2 2))))) := he
      refine lv_aload_n hx hb dX5_clock_49 rfl (lv_at hl 0 rfl) ?_
      refine tr_g_guesses hx hb hts inB_X5 hown hK hP (hts _ mb_649) dX5_clock_50 ?_
      refine lv_if_le (tgt := 97) hx hb dX5_clock_53 (by decide) (fun _ => ?_) (fun c => absurd hle c)
      rw [he] at hP hD
      exact X ls H locs hP hD hS hl
    | succ n ih =>
      intro y ls H locs hm hn he hP hD hS hl
      by_cases hle : y.2.1 13 0 ≤ 0
      · have he : y = (tm_fg n0 (tm_D (tm_I u 14 0 (nI 0)) 1 (FP.dadd (u.2.2 1) (FP.dmul (FP.i2d (nI k)) (u.2.2 2))))) := by rw [← he]; simp only [tm_fg]; rw [if_pos hle]
        refine lv_aload_n hx hb dX5_clock_49 rfl (lv_at hl 0 rfl) ?_
        refine tr_g_guesses hx hb hts inB_X5 hown hK hP (hts _ mb_649) dX5_clock_50 ?_
        refine lv_if_le (tgt := 97) hx hb dX5_clock_53 (by decide) (fun _ => ?_) (fun c => absurd hle c)
        rw [he] at hP hD
        exact X ls H locs hP hD hS hl
      · by_cases hc : Op.cmpValue (FP.dcmp (y.2.2 1) (FP.dadd (y.2.2 0) 4621819117588971520)) .l < 0
        · have he : y = (tm_fg n0 (tm_D (tm_I u 14 0 (nI 0)) 1 (FP.dadd (u.2.2 1) (FP.dmul (FP.i2d (nI k)) (u.2.2 2))))) := by rw [← he]; simp only [tm_fg]; rw [if_neg hle, if_pos hc]
          refine lv_aload_n hx hb dX5_clock_49 rfl (lv_at hl 0 rfl) ?_
          refine tr_g_guesses hx hb hts inB_X5 hown hK hP (hts _ mb_649) dX5_clock_50 ?_
          refine lv_if_le (tgt := 97) hx hb dX5_clock_53 (by decide) (fun c => absurd c hle) (fun _ => ?_)
          refine lv_aload_n hx hb dX5_clock_56 rfl (lv_at hl 0 rfl) ?_
          refine tr_g_clock hx hb hts inB_X5 hown hK hP (hts _ mb_655) dX5_clock_57 ?_
          refine lv_aload_n hx hb dX5_clock_60 rfl (lv_at hl 0 rfl) ?_
          refine tr_g_mark hx hb hts inB_X5 hown hK hP (hts _ mb_656) dX5_clock_61 ?_
          refine lv_ldc2d hx hb hown (hts _ mb_834) dX5_clock_64 ?_
          refine lv_dadd hx hb dX5_clock_67 ((tm_dadd hm tm_p10).v) ?_
          refine lv_dcmp hx hb dX5_clock_68 ?_
          refine lv_if_lt (tgt := 97) hx hb dX5_clock_69 (by decide) (fun _ => ?_) (fun c => absurd hc c)
          rw [he] at hP hD
          exact X ls H locs hP hD hS hl
        · refine lv_aload_n hx hb dX5_clock_49 rfl (lv_at hl 0 rfl) ?_
          refine tr_g_guesses hx hb hts inB_X5 hown hK hP (hts _ mb_649) dX5_clock_50 ?_
          refine lv_if_le (tgt := 97) hx hb dX5_clock_53 (by decide) (fun c => absurd c hle) (fun _ => ?_)
          refine lv_aload_n hx hb dX5_clock_56 rfl (lv_at hl 0 rfl) ?_
          refine tr_g_clock hx hb hts inB_X5 hown hK hP (hts _ mb_655) dX5_clock_57 ?_
          refine lv_aload_n hx hb dX5_clock_60 rfl (lv_at hl 0 rfl) ?_
          refine tr_g_mark hx hb hts inB_X5 hown hK hP (hts _ mb_656) dX5_clock_61 ?_
          refine lv_ldc2d hx hb hown (hts _ mb_834) dX5_clock_64 ?_
          refine lv_dadd hx hb dX5_clock_67 ((tm_dadd hm tm_p10).v) ?_
          refine lv_dcmp hx hb dX5_clock_68 ?_
          refine lv_if_lt (tgt := 97) hx hb dX5_clock_69 (by decide) (fun c => absurd c hc) (fun _ => ?_)
          refine lv_aload_n hx hb dX5_clock_72 rfl (lv_at hl 0 rfl) ?_
          refine lv_dup hx hb dX5_clock_73 rfl ?_
          refine tr_g_guesses hx hb hts inB_X5 hown hK hP (hts _ mb_649) dX5_clock_74 ?_
          refine lv_iconst (v := (nI 1)) hx hb dX5_clock_77 (by decide) ?_
          refine lv_isub hx hb dX5_clock_78 ?_
          refine tr_p_guesses hx hb hts inB_X5 hown hK hP hD hS (hts _ mb_649) dX5_clock_79 (fun H locs hP hD hS => ?_)
          refine lv_aload_n hx hb dX5_clock_82 rfl (lv_at hl 0 rfl) ?_
          refine lv_aload_n hx hb dX5_clock_83 rfl (lv_at hl 0 rfl) ?_
          refine tr_g_mark hx hb hts inB_X5 hown hK hP (hts _ mb_656) dX5_clock_84 ?_
          refine kq_td (y := (y.2.2 0)) (by simp [tm_L, tm_I, tm_D]) ?_
          refine lv_ldc2d hx hb hown (hts _ mb_834) dX5_clock_87 ?_
          refine lv_dadd hx hb dX5_clock_90 ((tm_dadd hm tm_p10).v) ?_
          refine tr_p_mark hx hb hts inB_X5 hown hK hP hD hS (hts _ mb_656) dX5_clock_91 (fun H locs hP hD hS => ?_)
          refine lv_goto (tgt := 49) hx hb dX5_clock_94 (by decide) ?_
          exact ih _ ls H locs (by simpa [tm_D, tm_I] using tm_dadd hm tm_p10) (by simpa [tm_D, tm_I] using tm_dec1 hle hn) (by rw [← he]; simp only [tm_fg]; rw [if_neg hle, if_neg hc]) hP hD hS hl
  refine lv_aload_n hx hb dX5_clock_0 rfl (lv_at hl 0 rfl) ?_
  refine lv_aload_n hx hb dX5_clock_1 rfl (lv_at hl 0 rfl) ?_
  refine lv_iload_n hx hb dX5_clock_2 rfl (lv_at hl 1 rfl) ?_
  refine lv_bipush (v := (nI 100)) hx hb dX5_clock_3 (by decide) ?_
  refine kq_cV (st1 := [.int (nI 0), .ref (ad 0)]) ⟨hx, hb, hml, hown, hts⟩ (r_out_in u (by omega) (by omega)) (cwV 2 hts gX5_109_X5_out rfl rfl rfl (by decide +kernel) ⟨Nat.le_of_ble_eq_true rfl, Nat.le_of_ble_eq_true rfl⟩) kq_okT hK hP hD hA hG hS (va_recv hK hP (ci := 5) (q0 := 0) rfl (tm_at (i := 0) (by omega) rfl)) rfl hl.1 rfl rfl (Nat.le_of_ble_eq_true rfl) dX5_clock_5 ⟨Nat.le_of_ble_eq_true rfl, Nat.le_of_ble_eq_true rfl⟩ (fun H locs hP hD hS => ?_)
  refine lv_if_ne (tgt := 20) hx hb dX5_clock_8 (by decide) (fun c => absurd (by decide) c) (fun _ => ?_)
  refine lv_aload_n hx hb dX5_clock_11 rfl (lv_at hl 0 rfl) ?_
  refine lv_iload_n hx hb dX5_clock_12 rfl (lv_at hl 2 rfl) ?_
  refine lv_iconst (v := (nI 2)) hx hb dX5_clock_13 (by decide) ?_
  refine kq_cV (st1 := [.int (nI 0), .ref (ad 0)]) ⟨hx, hb, hml, hown, hts⟩ (r_out_in u (by omega) (by omega)) (cwV 2 hts gX5_109_X5_out rfl rfl rfl (by decide +kernel) ⟨Nat.le_of_ble_eq_true rfl, Nat.le_of_ble_eq_true rfl⟩) kq_okT hK hP hD hA hG hS (va_recv hK hP (ci := 5) (q0 := 0) rfl (tm_at (i := 0) (by omega) rfl)) rfl hl.1 rfl rfl (Nat.le_of_ble_eq_true rfl) dX5_clock_14 ⟨Nat.le_of_ble_eq_true rfl, Nat.le_of_ble_eq_true rfl⟩ (fun H locs hP hD hS => ?_)
  refine lv_if_eq (tgt := 24) hx hb dX5_clock_17 (by decide) (fun _ => ?_) (fun c => absurd (by decide) c)
  refine lv_iconst (v := (nI 0)) hx hb dX5_clock_24 (by decide) ?_
  refine kq_cV (st1 := [.int (nI 1)]) ⟨hx, hb, hml, hown, hts⟩ (r_begin_ok u hnl) (cwV 1 hts gX5_113_X5_begin rfl rfl rfl (by decide +kernel) ⟨Nat.le_of_ble_eq_true rfl, Nat.le_of_ble_eq_true rfl⟩) kq_okT hK hP hD hA hG hS (va_recv hK hP (ci := 5) (q0 := 0) rfl (tm_at (i := 0) (by omega) rfl)) rfl hl.1 rfl rfl (Nat.le_of_ble_eq_true rfl) dX5_clock_25 ⟨Nat.le_of_ble_eq_true rfl, Nat.le_of_ble_eq_true rfl⟩ (fun H locs hP hD hS => ?_)
  refine lv_if_ne (tgt := 33) hx hb dX5_clock_28 (by decide) (fun _ => ?_) (fun c => absurd c (by decide))
  refine lv_aload_n hx hb dX5_clock_33 rfl (lv_at hl 0 rfl) ?_
  refine lv_aload_n hx hb dX5_clock_34 rfl (lv_at hl 0 rfl) ?_
  refine tr_g_clock hx hb hts inB_X5 hown hK hP (hts _ mb_655) dX5_clock_35 ?_
  refine kq_td (y := (u.2.2 1)) (by simp [tm_L, tm_I, tm_D]) ?_
  refine lv_iload_n hx hb dX5_clock_38 rfl (lv_at hl 1 rfl) ?_
  refine lv_i2d hx hb dX5_clock_39 ?_
  refine lv_aload_n hx hb dX5_clock_40 rfl (lv_at hl 0 rfl) ?_
  refine tr_g_rate hx hb hts inB_X5 hown hK hP (hts _ mb_657) dX5_clock_41 ?_
  refine kq_td (y := (u.2.2 2)) (by simp [tm_L, tm_I, tm_D]) ?_
  refine lv_dmul hx hb dX5_clock_44 ((tm_dmul (tm_i2d k (by omega)) hr2).v) ?_
  refine lv_dadd hx hb dX5_clock_45 ((tm_dadd hc1 (tm_dmul (tm_i2d k (by omega)) hr2)).v) ?_
  refine tr_p_clock hx hb hts inB_X5 hown hK hP hD hS (hts _ mb_655) dX5_clock_46 (fun H locs hP hD hS => ?_)
  exact K n0 _ ls H locs (by simpa [tm_D, tm_I] using hm) (by simpa [tm_D, tm_I] using hn) rfl hP hD hS hl
set_option maxHeartbeats 4000000 in
set_option maxRecDepth 100000 in
theorem p_clock_ok1 (u : tm_S) {k : Nat} (hk : k < 101) (hnl : u.2.1 11 0 = 0) (hr2 : tm_pf (u.2.2 2)) (hc1 : tm_pn (u.2.2 1)) (hm : tm_pn (u.2.2 0)) (n0 : Nat) (hn : (u.2.1 13 0).toNatClampNeg ≤ n0) : kr_M l dC dI ad cc yX5_clock wsX5_clock { frames := 1, cells := 0, slots := 0, locals := 22 } [.ref (ad 0), .int (nI k), .int (nI 1)] u (tm_D (tm_fg n0 (tm_D (tm_I u 14 0 (nI 0)) 1 (FP.dadd (u.2.2 1) (FP.dmul (FP.i2d (nI k)) (u.2.2 2))))) 2 (tm_pace ((tm_fg n0 (tm_D (tm_I u 14 0 (nI 0)) 1 (FP.dadd (u.2.2 1) (FP.dmul (FP.i2d (nI k)) (u.2.2 2))))).2.2 2) (FP.dmul ((tm_fg n0 (tm_D (tm_I u 14 0 (nI 0)) 1 (FP.dadd (u.2.2 1) (FP.dmul (FP.i2d (nI k)) (u.2.2 2))))).2.2 2) 4608308318706860032))) (some (.double ((tm_fg n0 (tm_D (tm_I u 14 0 (nI 0)) 1 (FP.dadd (u.2.2 1) (FP.dmul (FP.i2d (nI k)) (u.2.2 2))))).2.2 1))) := by
  refine kq_ofW (cc := cX5_clock) (maxL := 5) (ret := (some .double)) (R0 := RX5) (by decide) rfl rfl (Nat.le_of_ble_eq_true rfl) ?_
  intro p e s m below meth c A ls hx hb hr hlk hml hown hts hP hK hD hA hG hS hl
  have hl : lv_has ls 5 [(0, .ref (ad 0)), (1, .int (nI k)), (2, .int (nI 1))] := hl
  have hz2 : tm_pf ((tm_fg n0 (tm_D (tm_I u 14 0 (nI 0)) 1 (FP.dadd (u.2.2 1) (FP.dmul (FP.i2d (nI k)) (u.2.2 2))))).2.2 2) := by rw [tm_fg_D _ _ _ (by decide)]; simpa [tm_D, tm_I] using hr2
  have X : ∀ (ls : Array Slot) (H : Heap) (locs : List Loc), va_P (dC, dI) vwCl (tr_w ad cc (tm_fg n0 (tm_D (tm_I u 14 0 (nI 0)) 1 (FP.dadd (u.2.2 1) (FP.dmul (FP.i2d (nI k)) (u.2.2 2)))))) H → va_D A (tr_w ad cc (tm_fg n0 (tm_D (tm_I u 14 0 (nI 0)) 1 (FP.dadd (u.2.2 1) (FP.dmul (FP.i2d (nI k)) (u.2.2 2)))))) → va_S A s.heap H locs → lv_has ls 5 [(0, .ref (ad 0)), (1, .int (nI k)), (2, .int (nI 1))] → W p l e { frames := 1, cells := 0, slots := 0, locals := 22 } s m (([.ref (ad 0), .int (nI k), .int (nI 1)] : List Value).toArray) below meth c H locs 0 0 (MQ below (fun _ => kq_Q (dC, dI) vwCl A (tr_w ad cc (tm_D (tm_fg n0 (tm_D (tm_I u 14 0 (nI 0)) 1 (FP.dadd (u.2.2 1) (FP.dmul (FP.i2d (nI k)) (u.2.2 2))))) 2 (tm_pace ((tm_fg n0 (tm_D (tm_I u 14 0 (nI 0)) 1 (FP.dadd (u.2.2 1) (FP.dmul (FP.i2d (nI k)) (u.2.2 2))))).2.2 2) (FP.dmul ((tm_fg n0 (tm_D (tm_I u 14 0 (nI 0)) 1 (FP.dadd (u.2.2 1) (FP.dmul (FP.i2d (nI k)) (u.2.2 2))))).2.2 2) 4608308318706860032)))) (some (.double ((tm_fg n0 (tm_D (tm_I u 14 0 (nI 0)) 1 (FP.dadd (u.2.2 1) (FP.dmul (FP.i2d (nI k)) (u.2.2 2))))).2.2 1)))) (([.ref (ad 0), .int (nI k), .int (nI 1)] : List Value).toArray) s 0 0 A) (F0 m 97 ls []) := by
    intro ls H locs hP hD hS hl
    have hz : ∃ z, z = (tm_fg n0 (tm_D (tm_I u 14 0 (nI 0)) 1 (FP.dadd (u.2.2 1) (FP.dmul (FP.i2d (nI k)) (u.2.2 2))))) := ⟨_, rfl⟩
    obtain ⟨z, hz⟩ := hz
    rw [← hz] at hz2 hP hD ⊢
    by_cases h2 : 0 < Op.cmpValue (FP.dcmp (FP.dmul (z.2.2 2) 4608308318706860032) 4616189618054758400) .g
    · rw [show tm_D z 2 (tm_pace (z.2.2 2) (FP.dmul (z.2.2 2) 4608308318706860032)) = z from by unfold tm_pace; rw [if_pos h2]; split <;> rw [tm_D_id]]
      refine lv_iload_n hx hb dX5_clock_97 rfl (lv_at hl 2 rfl) ?_
      refine lv_iconst (v := (nI 1)) hx hb dX5_clock_98 (by decide) ?_
      refine lv_icmp_ne (tgt := 113) hx hb dX5_clock_99 (by decide) (fun c => absurd (by decide) c) (fun _ => ?_)
      refine lv_aload_n hx hb dX5_clock_102 rfl (lv_at hl 0 rfl) ?_
      refine tr_g_rate hx hb hts inB_X5 hown hK hP (hts _ mb_657) dX5_clock_103 ?_
      refine lv_ldc2d hx hb hown (hts _ mb_835) dX5_clock_106 ?_
      refine lv_dmul hx hb dX5_clock_109 ((tm_dmul hz2 tm_f125).v) ?_
      refine lv_goto (tgt := 133) hx hb dX5_clock_110 (by decide) ?_
      refine lv_dstore_n (lv' := [(3, .double (FP.dmul (z.2.2 2) 4608308318706860032)), (0, .ref (ad 0)), (1, .int (nI k)), (2, .int (nI 1))]) hx hb dX5_clock_133 rfl hl (by decide) rfl (fun ls hl => ?_)
      refine lv_dload_n hx hb dX5_clock_134 rfl (lv_at hl 0 rfl) ?_
      refine lv_ldc2d hx hb hown (hts _ mb_837) dX5_clock_135 ?_
      refine lv_dcmp hx hb dX5_clock_138 ?_
      refine lv_if_gt (tgt := 155) hx hb dX5_clock_139 (by decide) (fun _ => ?_) (fun c => absurd h2 c)
      refine lv_aload_n hx hb dX5_clock_155 rfl (lv_at hl 1 rfl) ?_
      refine tr_g_clock hx hb hts inB_X5 hown hK hP (hts _ mb_655) dX5_clock_156 ?_
      exact kq_dret hx hb hr hlk hP hD hS dX5_clock_159
    · by_cases h1 : Op.cmpValue (FP.dcmp (FP.dmul (z.2.2 2) 4608308318706860032) 4598175219545276416) .l < 0
      · rw [show tm_D z 2 (tm_pace (z.2.2 2) (FP.dmul (z.2.2 2) 4608308318706860032)) = z from by unfold tm_pace; rw [if_pos h1, tm_D_id]]
        refine lv_iload_n hx hb dX5_clock_97 rfl (lv_at hl 2 rfl) ?_
        refine lv_iconst (v := (nI 1)) hx hb dX5_clock_98 (by decide) ?_
        refine lv_icmp_ne (tgt := 113) hx hb dX5_clock_99 (by decide) (fun c => absurd (by decide) c) (fun _ => ?_)
        refine lv_aload_n hx hb dX5_clock_102 rfl (lv_at hl 0 rfl) ?_
        refine tr_g_rate hx hb hts inB_X5 hown hK hP (hts _ mb_657) dX5_clock_103 ?_
        refine lv_ldc2d hx hb hown (hts _ mb_835) dX5_clock_106 ?_
        refine lv_dmul hx hb dX5_clock_109 ((tm_dmul hz2 tm_f125).v) ?_
        refine lv_goto (tgt := 133) hx hb dX5_clock_110 (by decide) ?_
        refine lv_dstore_n (lv' := [(3, .double (FP.dmul (z.2.2 2) 4608308318706860032)), (0, .ref (ad 0)), (1, .int (nI k)), (2, .int (nI 1))]) hx hb dX5_clock_133 rfl hl (by decide) rfl (fun ls hl => ?_)
        refine lv_dload_n hx hb dX5_clock_134 rfl (lv_at hl 0 rfl) ?_
        refine lv_ldc2d hx hb hown (hts _ mb_837) dX5_clock_135 ?_
        refine lv_dcmp hx hb dX5_clock_138 ?_
        refine lv_if_gt (tgt := 155) hx hb dX5_clock_139 (by decide) (fun c => absurd c h2) (fun _ => ?_)
        refine lv_dload_n hx hb dX5_clock_142 rfl (lv_at hl 0 rfl) ?_
        refine lv_ldc2d hx hb hown (hts _ mb_838) dX5_clock_143 ?_
        refine lv_dcmp hx hb dX5_clock_146 ?_
        refine lv_if_lt (tgt := 155) hx hb dX5_clock_147 (by decide) (fun _ => ?_) (fun c => absurd h1 c)
        refine lv_aload_n hx hb dX5_clock_155 rfl (lv_at hl 1 rfl) ?_
        refine tr_g_clock hx hb hts inB_X5 hown hK hP (hts _ mb_655) dX5_clock_156 ?_
        exact kq_dret hx hb hr hlk hP hD hS dX5_clock_159
      · rw [show tm_pace (z.2.2 2) (FP.dmul (z.2.2 2) 4608308318706860032) = (FP.dmul (z.2.2 2) 4608308318706860032) from by unfold tm_pace; rw [if_neg h1, if_neg h2]]
        refine lv_iload_n hx hb dX5_clock_97 rfl (lv_at hl 2 rfl) ?_
        refine lv_iconst (v := (nI 1)) hx hb dX5_clock_98 (by decide) ?_
        refine lv_icmp_ne (tgt := 113) hx hb dX5_clock_99 (by decide) (fun c => absurd (by decide) c) (fun _ => ?_)
        refine lv_aload_n hx hb dX5_clock_102 rfl (lv_at hl 0 rfl) ?_
        refine tr_g_rate hx hb hts inB_X5 hown hK hP (hts _ mb_657) dX5_clock_103 ?_
        refine lv_ldc2d hx hb hown (hts _ mb_835) dX5_clock_106 ?_
        refine lv_dmul hx hb dX5_clock_109 ((tm_dmul hz2 tm_f125).v) ?_
        refine lv_goto (tgt := 133) hx hb dX5_clock_110 (by decide) ?_
        refine lv_dstore_n (lv' := [(3, .double (FP.dmul (z.2.2 2) 4608308318706860032)), (0, .ref (ad 0)), (1, .int (nI k)), (2, .int (nI 1))]) hx hb dX5_clock_133 rfl hl (by decide) rfl (fun ls hl => ?_)
        refine lv_dload_n hx hb dX5_clock_134 rfl (lv_at hl 0 rfl) ?_
        refine lv_ldc2d hx hb hown (hts _ mb_837) dX5_clock_135 ?_
        refine lv_dcmp hx hb dX5_clock_138 ?_
        refine lv_if_gt (tgt := 155) hx hb dX5_clock_139 (by decide) (fun c => absurd c h2) (fun _ => ?_)
        refine lv_dload_n hx hb dX5_clock_142 rfl (lv_at hl 0 rfl) ?_
        refine lv_ldc2d hx hb hown (hts _ mb_838) dX5_clock_143 ?_
        refine lv_dcmp hx hb dX5_clock_146 ?_
        refine lv_if_lt (tgt := 155) hx hb dX5_clock_147 (by decide) (fun c => absurd c h1) (fun _ => ?_)
        refine lv_aload_n hx hb dX5_clock_150 rfl (lv_at hl 1 rfl) ?_
        refine lv_dload_n hx hb dX5_clock_151 rfl (lv_at hl 0 rfl) ?_
        refine tr_p_rate hx hb hts inB_X5 hown hK hP hD hS (hts _ mb_657) dX5_clock_152 (fun H locs hP hD hS => ?_)
        refine lv_aload_n hx hb dX5_clock_155 rfl (lv_at hl 1 rfl) ?_
        refine tr_g_clock hx hb hts inB_X5 hown hK hP (hts _ mb_655) dX5_clock_156 ?_
        refine kq_td (y := (z.2.2 1)) (by simp [tm_L, tm_I, tm_D]) ?_
        exact kq_dret hx hb hr hlk hP hD hS dX5_clock_159
  have K : ∀ (n : Nat) (y : tm_S) (ls : Array Slot) (H : Heap) (locs : List Loc), tm_pn (y.2.2 0) → (y.2.1 13 0).toNatClampNeg ≤ n → tm_fg n y = (tm_fg n0 (tm_D (tm_I u 14 0 (nI 0)) 1 (FP.dadd (u.2.2 1) (FP.dmul (FP.i2d (nI k)) (u.2.2 2))))) → va_P (dC, dI) vwCl (tr_w ad cc y) H → va_D A (tr_w ad cc y) → va_S A s.heap H locs → lv_has ls 5 [(0, .ref (ad 0)), (1, .int (nI k)), (2, .int (nI 1))] → W p l e { frames := 1, cells := 0, slots := 0, locals := 22 } s m (([.ref (ad 0), .int (nI k), .int (nI 1)] : List Value).toArray) below meth c H locs 0 0 (MQ below (fun _ => kq_Q (dC, dI) vwCl A (tr_w ad cc (tm_D (tm_fg n0 (tm_D (tm_I u 14 0 (nI 0)) 1 (FP.dadd (u.2.2 1) (FP.dmul (FP.i2d (nI k)) (u.2.2 2))))) 2 (tm_pace ((tm_fg n0 (tm_D (tm_I u 14 0 (nI 0)) 1 (FP.dadd (u.2.2 1) (FP.dmul (FP.i2d (nI k)) (u.2.2 2))))).2.2 2) (FP.dmul ((tm_fg n0 (tm_D (tm_I u 14 0 (nI 0)) 1 (FP.dadd (u.2.2 1) (FP.dmul (FP.i2d (nI k)) (u.2.2 2))))).2.2 2) 4608308318706860032)))) (some (.double ((tm_fg n0 (tm_D (tm_I u 14 0 (nI 0)) 1 (FP.dadd (u.2.2 1) (FP.dmul (FP.i2d (nI k)) (u.2.2 2))))).2.2 1)))) (([.ref (ad 0), .int (nI k), .int (nI 1)] : List Value).toArray) s 0 0 A) (F0 m 49 ls []) := by
    intro n
    induction n with
    | zero =>
      intro y ls H locs hm hn he hP hD hS hl
      have hle : y.2.1 13 0 ≤ 0 := tm_le0 (by omega)
      have he : y = (tm_fg n0 (tm_D (tm_I u 14 0 (nI 0)) 1 (FP.dadd (u.2.2 1) (FP.dmul (FP.i2d (nI k)) (u.2.2 2))))) := he
      refine lv_aload_n hx hb dX5_clock_49 rfl (lv_at hl 0 rfl) ?_
      refine tr_g_guesses hx hb hts inB_X5 hown hK hP (hts _ mb_649) dX5_clock_50 ?_
      refine lv_if_le (tgt := 97) hx hb dX5_clock_53 (by decide) (fun _ => ?_) (fun c => absurd hle c)
      rw [he] at hP hD
      exact X ls H locs hP hD hS hl
    | succ n ih =>
      intro y ls H locs hm hn he hP hD hS hl
      by_cases hle : y.2.1 13 0 ≤ 0
      · have he : y = (tm_fg n0 (tm_D (tm_I u 14 0 (nI 0)) 1 (FP.dadd (u.2.2 1) (FP.dmul (FP.i2d (nI k)) (u.2.2 2))))) := by rw [← he]; simp only [tm_fg]; rw [if_pos hle]
        refine lv_aload_n hx hb dX5_clock_49 rfl (lv_at hl 0 rfl) ?_
        refine tr_g_guesses hx hb hts inB_X5 hown hK hP (hts _ mb_649) dX5_clock_50 ?_
        refine lv_if_le (tgt := 97) hx hb dX5_clock_53 (by decide) (fun _ => ?_) (fun c => absurd hle c)
        rw [he] at hP hD
        exact X ls H locs hP hD hS hl
      · by_cases hc : Op.cmpValue (FP.dcmp (y.2.2 1) (FP.dadd (y.2.2 0) 4621819117588971520)) .l < 0
        · have he : y = (tm_fg n0 (tm_D (tm_I u 14 0 (nI 0)) 1 (FP.dadd (u.2.2 1) (FP.dmul (FP.i2d (nI k)) (u.2.2 2))))) := by rw [← he]; simp only [tm_fg]; rw [if_neg hle, if_pos hc]
          refine lv_aload_n hx hb dX5_clock_49 rfl (lv_at hl 0 rfl) ?_
          refine tr_g_guesses hx hb hts inB_X5 hown hK hP (hts _ mb_649) dX5_clock_50 ?_
          refine lv_if_le (tgt := 97) hx hb dX5_clock_53 (by decide) (fun c => absurd c hle) (fun _ => ?_)
          refine lv_aload_n hx hb dX5_clock_56 rfl (lv_at hl 0 rfl) ?_
          refine tr_g_clock hx hb hts inB_X5 hown hK hP (hts _ mb_655) dX5_clock_57 ?_
          refine lv_aload_n hx hb dX5_clock_60 rfl (lv_at hl 0 rfl) ?_
          refine tr_g_mark hx hb hts inB_X5 hown hK hP (hts _ mb_656) dX5_clock_61 ?_
          refine lv_ldc2d hx hb hown (hts _ mb_834) dX5_clock_64 ?_
          refine lv_dadd hx hb dX5_clock_67 ((tm_dadd hm tm_p10).v) ?_
          refine lv_dcmp hx hb dX5_clock_68 ?_
          refine lv_if_lt (tgt := 97) hx hb dX5_clock_69 (by decide) (fun _ => ?_) (fun c => absurd hc c)
          rw [he] at hP hD
          exact X ls H locs hP hD hS hl
        · refine lv_aload_n hx hb dX5_clock_49 rfl (lv_at hl 0 rfl) ?_
          refine tr_g_guesses hx hb hts inB_X5 hown hK hP (hts _ mb_649) dX5_clock_50 ?_
          refine lv_if_le (tgt := 97) hx hb dX5_clock_53 (by decide) (fun c => absurd c hle) (fun _ => ?_)
          refine lv_aload_n hx hb dX5_clock_56 rfl (lv_at hl 0 rfl) ?_
          refine tr_g_clock hx hb hts inB_X5 hown hK hP (hts _ mb_655) dX5_clock_57 ?_
          refine lv_aload_n hx hb dX5_clock_60 rfl (lv_at hl 0 rfl) ?_
          refine tr_g_mark hx hb hts inB_X5 hown hK hP (hts _ mb_656) dX5_clock_61 ?_
          refine lv_ldc2d hx hb hown (hts _ mb_834) dX5_clock_64 ?_
          refine lv_dadd hx hb dX5_clock_67 ((tm_dadd hm tm_p10).v) ?_
          refine lv_dcmp hx hb dX5_clock_68 ?_
          refine lv_if_lt (tgt := 97) hx hb dX5_clock_69 (by decide) (fun c => absurd c hc) (fun _ => ?_)
          refine lv_aload_n hx hb dX5_clock_72 rfl (lv_at hl 0 rfl) ?_
          refine lv_dup hx hb dX5_clock_73 rfl ?_
          refine tr_g_guesses hx hb hts inB_X5 hown hK hP (hts _ mb_649) dX5_clock_74 ?_
          refine lv_iconst (v := (nI 1)) hx hb dX5_clock_77 (by decide) ?_
          refine lv_isub hx hb dX5_clock_78 ?_
          refine tr_p_guesses hx hb hts inB_X5 hown hK hP hD hS (hts _ mb_649) dX5_clock_79 (fun H locs hP hD hS => ?_)
          refine lv_aload_n hx hb dX5_clock_82 rfl (lv_at hl 0 rfl) ?_
          refine lv_aload_n hx hb dX5_clock_83 rfl (lv_at hl 0 rfl) ?_
          refine tr_g_mark hx hb hts inB_X5 hown hK hP (hts _ mb_656) dX5_clock_84 ?_
          refine kq_td (y := (y.2.2 0)) (by simp [tm_L, tm_I, tm_D]) ?_
          refine lv_ldc2d hx hb hown (hts _ mb_834) dX5_clock_87 ?_
          refine lv_dadd hx hb dX5_clock_90 ((tm_dadd hm tm_p10).v) ?_
          refine tr_p_mark hx hb hts inB_X5 hown hK hP hD hS (hts _ mb_656) dX5_clock_91 (fun H locs hP hD hS => ?_)
          refine lv_goto (tgt := 49) hx hb dX5_clock_94 (by decide) ?_
          exact ih _ ls H locs (by simpa [tm_D, tm_I] using tm_dadd hm tm_p10) (by simpa [tm_D, tm_I] using tm_dec1 hle hn) (by rw [← he]; simp only [tm_fg]; rw [if_neg hle, if_neg hc]) hP hD hS hl
  refine lv_aload_n hx hb dX5_clock_0 rfl (lv_at hl 0 rfl) ?_
  refine lv_aload_n hx hb dX5_clock_1 rfl (lv_at hl 0 rfl) ?_
  refine lv_iload_n hx hb dX5_clock_2 rfl (lv_at hl 1 rfl) ?_
  refine lv_bipush (v := (nI 100)) hx hb dX5_clock_3 (by decide) ?_
  refine kq_cV (st1 := [.int (nI 0), .ref (ad 0)]) ⟨hx, hb, hml, hown, hts⟩ (r_out_in u (by omega) (by omega)) (cwV 2 hts gX5_109_X5_out rfl rfl rfl (by decide +kernel) ⟨Nat.le_of_ble_eq_true rfl, Nat.le_of_ble_eq_true rfl⟩) kq_okT hK hP hD hA hG hS (va_recv hK hP (ci := 5) (q0 := 0) rfl (tm_at (i := 0) (by omega) rfl)) rfl hl.1 rfl rfl (Nat.le_of_ble_eq_true rfl) dX5_clock_5 ⟨Nat.le_of_ble_eq_true rfl, Nat.le_of_ble_eq_true rfl⟩ (fun H locs hP hD hS => ?_)
  refine lv_if_ne (tgt := 20) hx hb dX5_clock_8 (by decide) (fun c => absurd (by decide) c) (fun _ => ?_)
  refine lv_aload_n hx hb dX5_clock_11 rfl (lv_at hl 0 rfl) ?_
  refine lv_iload_n hx hb dX5_clock_12 rfl (lv_at hl 2 rfl) ?_
  refine lv_iconst (v := (nI 2)) hx hb dX5_clock_13 (by decide) ?_
  refine kq_cV (st1 := [.int (nI 0), .ref (ad 0)]) ⟨hx, hb, hml, hown, hts⟩ (r_out_in u (by omega) (by omega)) (cwV 2 hts gX5_109_X5_out rfl rfl rfl (by decide +kernel) ⟨Nat.le_of_ble_eq_true rfl, Nat.le_of_ble_eq_true rfl⟩) kq_okT hK hP hD hA hG hS (va_recv hK hP (ci := 5) (q0 := 0) rfl (tm_at (i := 0) (by omega) rfl)) rfl hl.1 rfl rfl (Nat.le_of_ble_eq_true rfl) dX5_clock_14 ⟨Nat.le_of_ble_eq_true rfl, Nat.le_of_ble_eq_true rfl⟩ (fun H locs hP hD hS => ?_)
  refine lv_if_eq (tgt := 24) hx hb dX5_clock_17 (by decide) (fun _ => ?_) (fun c => absurd (by decide) c)
  refine lv_iconst (v := (nI 0)) hx hb dX5_clock_24 (by decide) ?_
  refine kq_cV (st1 := [.int (nI 1)]) ⟨hx, hb, hml, hown, hts⟩ (r_begin_ok u hnl) (cwV 1 hts gX5_113_X5_begin rfl rfl rfl (by decide +kernel) ⟨Nat.le_of_ble_eq_true rfl, Nat.le_of_ble_eq_true rfl⟩) kq_okT hK hP hD hA hG hS (va_recv hK hP (ci := 5) (q0 := 0) rfl (tm_at (i := 0) (by omega) rfl)) rfl hl.1 rfl rfl (Nat.le_of_ble_eq_true rfl) dX5_clock_25 ⟨Nat.le_of_ble_eq_true rfl, Nat.le_of_ble_eq_true rfl⟩ (fun H locs hP hD hS => ?_)
  refine lv_if_ne (tgt := 33) hx hb dX5_clock_28 (by decide) (fun _ => ?_) (fun c => absurd c (by decide))
  refine lv_aload_n hx hb dX5_clock_33 rfl (lv_at hl 0 rfl) ?_
  refine lv_aload_n hx hb dX5_clock_34 rfl (lv_at hl 0 rfl) ?_
  refine tr_g_clock hx hb hts inB_X5 hown hK hP (hts _ mb_655) dX5_clock_35 ?_
  refine kq_td (y := (u.2.2 1)) (by simp [tm_L, tm_I, tm_D]) ?_
  refine lv_iload_n hx hb dX5_clock_38 rfl (lv_at hl 1 rfl) ?_
  refine lv_i2d hx hb dX5_clock_39 ?_
  refine lv_aload_n hx hb dX5_clock_40 rfl (lv_at hl 0 rfl) ?_
  refine tr_g_rate hx hb hts inB_X5 hown hK hP (hts _ mb_657) dX5_clock_41 ?_
  refine kq_td (y := (u.2.2 2)) (by simp [tm_L, tm_I, tm_D]) ?_
  refine lv_dmul hx hb dX5_clock_44 ((tm_dmul (tm_i2d k (by omega)) hr2).v) ?_
  refine lv_dadd hx hb dX5_clock_45 ((tm_dadd hc1 (tm_dmul (tm_i2d k (by omega)) hr2)).v) ?_
  refine tr_p_clock hx hb hts inB_X5 hown hK hP hD hS (hts _ mb_655) dX5_clock_46 (fun H locs hP hD hS => ?_)
  exact K n0 _ ls H locs (by simpa [tm_D, tm_I] using hm) (by simpa [tm_D, tm_I] using hn) rfl hP hD hS hl
set_option maxHeartbeats 4000000 in
set_option maxRecDepth 100000 in
theorem p_clock_ok2 (u : tm_S) {k : Nat} (hk : k < 101) (hnl : u.2.1 11 0 = 0) (hr2 : tm_pf (u.2.2 2)) (hc1 : tm_pn (u.2.2 1)) (hm : tm_pn (u.2.2 0)) (n0 : Nat) (hn : (u.2.1 13 0).toNatClampNeg ≤ n0) : kr_M l dC dI ad cc yX5_clock wsX5_clock { frames := 1, cells := 0, slots := 0, locals := 22 } [.ref (ad 0), .int (nI k), .int (nI 2)] u (tm_D (tm_fg n0 (tm_D (tm_I u 14 0 (nI 0)) 1 (FP.dadd (u.2.2 1) (FP.dmul (FP.i2d (nI k)) (u.2.2 2))))) 2 (tm_pace ((tm_fg n0 (tm_D (tm_I u 14 0 (nI 0)) 1 (FP.dadd (u.2.2 1) (FP.dmul (FP.i2d (nI k)) (u.2.2 2))))).2.2 2) (FP.dmul ((tm_fg n0 (tm_D (tm_I u 14 0 (nI 0)) 1 (FP.dadd (u.2.2 1) (FP.dmul (FP.i2d (nI k)) (u.2.2 2))))).2.2 2) 4604930618986332160))) (some (.double ((tm_fg n0 (tm_D (tm_I u 14 0 (nI 0)) 1 (FP.dadd (u.2.2 1) (FP.dmul (FP.i2d (nI k)) (u.2.2 2))))).2.2 1))) := by
  refine kq_ofW (cc := cX5_clock) (maxL := 5) (ret := (some .double)) (R0 := RX5) (by decide) rfl rfl (Nat.le_of_ble_eq_true rfl) ?_
  intro p e s m below meth c A ls hx hb hr hlk hml hown hts hP hK hD hA hG hS hl
  have hl : lv_has ls 5 [(0, .ref (ad 0)), (1, .int (nI k)), (2, .int (nI 2))] := hl
  have hz2 : tm_pf ((tm_fg n0 (tm_D (tm_I u 14 0 (nI 0)) 1 (FP.dadd (u.2.2 1) (FP.dmul (FP.i2d (nI k)) (u.2.2 2))))).2.2 2) := by rw [tm_fg_D _ _ _ (by decide)]; simpa [tm_D, tm_I] using hr2
  have X : ∀ (ls : Array Slot) (H : Heap) (locs : List Loc), va_P (dC, dI) vwCl (tr_w ad cc (tm_fg n0 (tm_D (tm_I u 14 0 (nI 0)) 1 (FP.dadd (u.2.2 1) (FP.dmul (FP.i2d (nI k)) (u.2.2 2)))))) H → va_D A (tr_w ad cc (tm_fg n0 (tm_D (tm_I u 14 0 (nI 0)) 1 (FP.dadd (u.2.2 1) (FP.dmul (FP.i2d (nI k)) (u.2.2 2)))))) → va_S A s.heap H locs → lv_has ls 5 [(0, .ref (ad 0)), (1, .int (nI k)), (2, .int (nI 2))] → W p l e { frames := 1, cells := 0, slots := 0, locals := 22 } s m (([.ref (ad 0), .int (nI k), .int (nI 2)] : List Value).toArray) below meth c H locs 0 0 (MQ below (fun _ => kq_Q (dC, dI) vwCl A (tr_w ad cc (tm_D (tm_fg n0 (tm_D (tm_I u 14 0 (nI 0)) 1 (FP.dadd (u.2.2 1) (FP.dmul (FP.i2d (nI k)) (u.2.2 2))))) 2 (tm_pace ((tm_fg n0 (tm_D (tm_I u 14 0 (nI 0)) 1 (FP.dadd (u.2.2 1) (FP.dmul (FP.i2d (nI k)) (u.2.2 2))))).2.2 2) (FP.dmul ((tm_fg n0 (tm_D (tm_I u 14 0 (nI 0)) 1 (FP.dadd (u.2.2 1) (FP.dmul (FP.i2d (nI k)) (u.2.2 2))))).2.2 2) 4604930618986332160)))) (some (.double ((tm_fg n0 (tm_D (tm_I u 14 0 (nI 0)) 1 (FP.dadd (u.2.2 1) (FP.dmul (FP.i2d (nI k)) (u.2.2 2))))).2.2 1)))) (([.ref (ad 0), .int (nI k), .int (nI 2)] : List Value).toArray) s 0 0 A) (F0 m 97 ls []) := by
    intro ls H locs hP hD hS hl
    have hz : ∃ z, z = (tm_fg n0 (tm_D (tm_I u 14 0 (nI 0)) 1 (FP.dadd (u.2.2 1) (FP.dmul (FP.i2d (nI k)) (u.2.2 2))))) := ⟨_, rfl⟩
    obtain ⟨z, hz⟩ := hz
    rw [← hz] at hz2 hP hD ⊢
    by_cases h2 : 0 < Op.cmpValue (FP.dcmp (FP.dmul (z.2.2 2) 4604930618986332160) 4616189618054758400) .g
    · rw [show tm_D z 2 (tm_pace (z.2.2 2) (FP.dmul (z.2.2 2) 4604930618986332160)) = z from by unfold tm_pace; rw [if_pos h2]; split <;> rw [tm_D_id]]
      refine lv_iload_n hx hb dX5_clock_97 rfl (lv_at hl 2 rfl) ?_
      refine lv_iconst (v := (nI 1)) hx hb dX5_clock_98 (by decide) ?_
      refine lv_icmp_ne (tgt := 113) hx hb dX5_clock_99 (by decide) (fun _ => ?_) (fun c => absurd c (by decide))
      refine lv_iload_n hx hb dX5_clock_113 rfl (lv_at hl 2 rfl) ?_
      refine lv_iconst (v := (nI 2)) hx hb dX5_clock_114 (by decide) ?_
      refine lv_icmp_ne (tgt := 129) hx hb dX5_clock_115 (by decide) (fun c => absurd (by decide) c) (fun _ => ?_)
      refine lv_aload_n hx hb dX5_clock_118 rfl (lv_at hl 0 rfl) ?_
      refine tr_g_rate hx hb hts inB_X5 hown hK hP (hts _ mb_657) dX5_clock_119 ?_
      refine lv_ldc2d hx hb hown (hts _ mb_836) dX5_clock_122 ?_
      refine lv_dmul hx hb dX5_clock_125 ((tm_dmul hz2 tm_f075).v) ?_
      refine lv_goto (tgt := 133) hx hb dX5_clock_126 (by decide) ?_
      refine lv_dstore_n (lv' := [(3, .double (FP.dmul (z.2.2 2) 4604930618986332160)), (0, .ref (ad 0)), (1, .int (nI k)), (2, .int (nI 2))]) hx hb dX5_clock_133 rfl hl (by decide) rfl (fun ls hl => ?_)
      refine lv_dload_n hx hb dX5_clock_134 rfl (lv_at hl 0 rfl) ?_
      refine lv_ldc2d hx hb hown (hts _ mb_837) dX5_clock_135 ?_
      refine lv_dcmp hx hb dX5_clock_138 ?_
      refine lv_if_gt (tgt := 155) hx hb dX5_clock_139 (by decide) (fun _ => ?_) (fun c => absurd h2 c)
      refine lv_aload_n hx hb dX5_clock_155 rfl (lv_at hl 1 rfl) ?_
      refine tr_g_clock hx hb hts inB_X5 hown hK hP (hts _ mb_655) dX5_clock_156 ?_
      exact kq_dret hx hb hr hlk hP hD hS dX5_clock_159
    · by_cases h1 : Op.cmpValue (FP.dcmp (FP.dmul (z.2.2 2) 4604930618986332160) 4598175219545276416) .l < 0
      · rw [show tm_D z 2 (tm_pace (z.2.2 2) (FP.dmul (z.2.2 2) 4604930618986332160)) = z from by unfold tm_pace; rw [if_pos h1, tm_D_id]]
        refine lv_iload_n hx hb dX5_clock_97 rfl (lv_at hl 2 rfl) ?_
        refine lv_iconst (v := (nI 1)) hx hb dX5_clock_98 (by decide) ?_
        refine lv_icmp_ne (tgt := 113) hx hb dX5_clock_99 (by decide) (fun _ => ?_) (fun c => absurd c (by decide))
        refine lv_iload_n hx hb dX5_clock_113 rfl (lv_at hl 2 rfl) ?_
        refine lv_iconst (v := (nI 2)) hx hb dX5_clock_114 (by decide) ?_
        refine lv_icmp_ne (tgt := 129) hx hb dX5_clock_115 (by decide) (fun c => absurd (by decide) c) (fun _ => ?_)
        refine lv_aload_n hx hb dX5_clock_118 rfl (lv_at hl 0 rfl) ?_
        refine tr_g_rate hx hb hts inB_X5 hown hK hP (hts _ mb_657) dX5_clock_119 ?_
        refine lv_ldc2d hx hb hown (hts _ mb_836) dX5_clock_122 ?_
        refine lv_dmul hx hb dX5_clock_125 ((tm_dmul hz2 tm_f075).v) ?_
        refine lv_goto (tgt := 133) hx hb dX5_clock_126 (by decide) ?_
        refine lv_dstore_n (lv' := [(3, .double (FP.dmul (z.2.2 2) 4604930618986332160)), (0, .ref (ad 0)), (1, .int (nI k)), (2, .int (nI 2))]) hx hb dX5_clock_133 rfl hl (by decide) rfl (fun ls hl => ?_)
        refine lv_dload_n hx hb dX5_clock_134 rfl (lv_at hl 0 rfl) ?_
        refine lv_ldc2d hx hb hown (hts _ mb_837) dX5_clock_135 ?_
        refine lv_dcmp hx hb dX5_clock_138 ?_
        refine lv_if_gt (tgt := 155) hx hb dX5_clock_139 (by decide) (fun c => absurd c h2) (fun _ => ?_)
        refine lv_dload_n hx hb dX5_clock_142 rfl (lv_at hl 0 rfl) ?_
        refine lv_ldc2d hx hb hown (hts _ mb_838) dX5_clock_143 ?_
        refine lv_dcmp hx hb dX5_clock_146 ?_
        refine lv_if_lt (tgt := 155) hx hb dX5_clock_147 (by decide) (fun _ => ?_) (fun c => absurd h1 c)
        refine lv_aload_n hx hb dX5_clock_155 rfl (lv_at hl 1 rfl) ?_
        refine tr_g_clock hx hb hts inB_X5 hown hK hP (hts _ mb_655) dX5_clock_156 ?_
        exact kq_dret hx hb hr hlk hP hD hS dX5_clock_159
      · rw [show tm_pace (z.2.2 2) (FP.dmul (z.2.2 2) 4604930618986332160) = (FP.dmul (z.2.2 2) 4604930618986332160) from by unfold tm_pace; rw [if_neg h1, if_neg h2]]
        refine lv_iload_n hx hb dX5_clock_97 rfl (lv_at hl 2 rfl) ?_
        refine lv_iconst (v := (nI 1)) hx hb dX5_clock_98 (by decide) ?_
        refine lv_icmp_ne (tgt := 113) hx hb dX5_clock_99 (by decide) (fun _ => ?_) (fun c => absurd c (by decide))
        refine lv_iload_n hx hb dX5_clock_113 rfl (lv_at hl 2 rfl) ?_
        refine lv_iconst (v := (nI 2)) hx hb dX5_clock_114 (by decide) ?_
        refine lv_icmp_ne (tgt := 129) hx hb dX5_clock_115 (by decide) (fun c => absurd (by decide) c) (fun _ => ?_)
        refine lv_aload_n hx hb dX5_clock_118 rfl (lv_at hl 0 rfl) ?_
        refine tr_g_rate hx hb hts inB_X5 hown hK hP (hts _ mb_657) dX5_clock_119 ?_
        refine lv_ldc2d hx hb hown (hts _ mb_836) dX5_clock_122 ?_
        refine lv_dmul hx hb dX5_clock_125 ((tm_dmul hz2 tm_f075).v) ?_
        refine lv_goto (tgt := 133) hx hb dX5_clock_126 (by decide) ?_
        refine lv_dstore_n (lv' := [(3, .double (FP.dmul (z.2.2 2) 4604930618986332160)), (0, .ref (ad 0)), (1, .int (nI k)), (2, .int (nI 2))]) hx hb dX5_clock_133 rfl hl (by decide) rfl (fun ls hl => ?_)
        refine lv_dload_n hx hb dX5_clock_134 rfl (lv_at hl 0 rfl) ?_
        refine lv_ldc2d hx hb hown (hts _ mb_837) dX5_clock_135 ?_
        refine lv_dcmp hx hb dX5_clock_138 ?_
        refine lv_if_gt (tgt := 155) hx hb dX5_clock_139 (by decide) (fun c => absurd c h2) (fun _ => ?_)
        refine lv_dload_n hx hb dX5_clock_142 rfl (lv_at hl 0 rfl) ?_
        refine lv_ldc2d hx hb hown (hts _ mb_838) dX5_clock_143 ?_
        refine lv_dcmp hx hb dX5_clock_146 ?_
        refine lv_if_lt (tgt := 155) hx hb dX5_clock_147 (by decide) (fun c => absurd c h1) (fun _ => ?_)
        refine lv_aload_n hx hb dX5_clock_150 rfl (lv_at hl 1 rfl) ?_
        refine lv_dload_n hx hb dX5_clock_151 rfl (lv_at hl 0 rfl) ?_
        refine tr_p_rate hx hb hts inB_X5 hown hK hP hD hS (hts _ mb_657) dX5_clock_152 (fun H locs hP hD hS => ?_)
        refine lv_aload_n hx hb dX5_clock_155 rfl (lv_at hl 1 rfl) ?_
        refine tr_g_clock hx hb hts inB_X5 hown hK hP (hts _ mb_655) dX5_clock_156 ?_
        refine kq_td (y := (z.2.2 1)) (by simp [tm_L, tm_I, tm_D]) ?_
        exact kq_dret hx hb hr hlk hP hD hS dX5_clock_159
  have K : ∀ (n : Nat) (y : tm_S) (ls : Array Slot) (H : Heap) (locs : List Loc), tm_pn (y.2.2 0) → (y.2.1 13 0).toNatClampNeg ≤ n → tm_fg n y = (tm_fg n0 (tm_D (tm_I u 14 0 (nI 0)) 1 (FP.dadd (u.2.2 1) (FP.dmul (FP.i2d (nI k)) (u.2.2 2))))) → va_P (dC, dI) vwCl (tr_w ad cc y) H → va_D A (tr_w ad cc y) → va_S A s.heap H locs → lv_has ls 5 [(0, .ref (ad 0)), (1, .int (nI k)), (2, .int (nI 2))] → W p l e { frames := 1, cells := 0, slots := 0, locals := 22 } s m (([.ref (ad 0), .int (nI k), .int (nI 2)] : List Value).toArray) below meth c H locs 0 0 (MQ below (fun _ => kq_Q (dC, dI) vwCl A (tr_w ad cc (tm_D (tm_fg n0 (tm_D (tm_I u 14 0 (nI 0)) 1 (FP.dadd (u.2.2 1) (FP.dmul (FP.i2d (nI k)) (u.2.2 2))))) 2 (tm_pace ((tm_fg n0 (tm_D (tm_I u 14 0 (nI 0)) 1 (FP.dadd (u.2.2 1) (FP.dmul (FP.i2d (nI k)) (u.2.2 2))))).2.2 2) (FP.dmul ((tm_fg n0 (tm_D (tm_I u 14 0 (nI 0)) 1 (FP.dadd (u.2.2 1) (FP.dmul (FP.i2d (nI k)) (u.2.2 2))))).2.2 2) 4604930618986332160)))) (some (.double ((tm_fg n0 (tm_D (tm_I u 14 0 (nI 0)) 1 (FP.dadd (u.2.2 1) (FP.dmul (FP.i2d (nI k)) (u.2.2 2))))).2.2 1)))) (([.ref (ad 0), .int (nI k), .int (nI 2)] : List Value).toArray) s 0 0 A) (F0 m 49 ls []) := by
    intro n
    induction n with
    | zero =>
      intro y ls H locs hm hn he hP hD hS hl
      have hle : y.2.1 13 0 ≤ 0 := tm_le0 (by omega)
      have he : y = (tm_fg n0 (tm_D (tm_I u 14 0 (nI 0)) 1 (FP.dadd (u.2.2 1) (FP.dmul (FP.i2d (nI k)) (u.2.2 2))))) := he
      refine lv_aload_n hx hb dX5_clock_49 rfl (lv_at hl 0 rfl) ?_
      refine tr_g_guesses hx hb hts inB_X5 hown hK hP (hts _ mb_649) dX5_clock_50 ?_
      refine lv_if_le (tgt := 97) hx hb dX5_clock_53 (by decide) (fun _ => ?_) (fun c => absurd hle c)
      rw [he] at hP hD
      exact X ls H locs hP hD hS hl
    | succ n ih =>
      intro y ls H locs hm hn he hP hD hS hl
      by_cases hle : y.2.1 13 0 ≤ 0
      · have he : y = (tm_fg n0 (tm_D (tm_I u 14 0 (nI 0)) 1 (FP.dadd (u.2.2 1) (FP.dmul (FP.i2d (nI k)) (u.2.2 2))))) := by rw [← he]; simp only [tm_fg]; rw [if_pos hle]
        refine lv_aload_n hx hb dX5_clock_49 rfl (lv_at hl 0 rfl) ?_
        refine tr_g_guesses hx hb hts inB_X5 hown hK hP (hts _ mb_649) dX5_clock_50 ?_
        refine lv_if_le (tgt := 97) hx hb dX5_clock_53 (by decide) (fun _ => ?_) (fun c => absurd hle c)
        rw [he] at hP hD
        exact X ls H locs hP hD hS hl
      · by_cases hc : Op.cmpValue (FP.dcmp (y.2.2 1) (FP.dadd (y.2.2 0) 4621819117588971520)) .l < 0
        · have he : y = (tm_fg n0 (tm_D (tm_I u 14 0 (nI 0)) 1 (FP.dadd (u.2.2 1) (FP.dmul (FP.i2d (nI k)) (u.2.2 2))))) := by rw [← he]; simp only [tm_fg]; rw [if_neg hle, if_pos hc]
          refine lv_aload_n hx hb dX5_clock_49 rfl (lv_at hl 0 rfl) ?_
          refine tr_g_guesses hx hb hts inB_X5 hown hK hP (hts _ mb_649) dX5_clock_50 ?_
          refine lv_if_le (tgt := 97) hx hb dX5_clock_53 (by decide) (fun c => absurd c hle) (fun _ => ?_)
          refine lv_aload_n hx hb dX5_clock_56 rfl (lv_at hl 0 rfl) ?_
          refine tr_g_clock hx hb hts inB_X5 hown hK hP (hts _ mb_655) dX5_clock_57 ?_
          refine lv_aload_n hx hb dX5_clock_60 rfl (lv_at hl 0 rfl) ?_
          refine tr_g_mark hx hb hts inB_X5 hown hK hP (hts _ mb_656) dX5_clock_61 ?_
          refine lv_ldc2d hx hb hown (hts _ mb_834) dX5_clock_64 ?_
          refine lv_dadd hx hb dX5_clock_67 ((tm_dadd hm tm_p10).v) ?_
          refine lv_dcmp hx hb dX5_clock_68 ?_
          refine lv_if_lt (tgt := 97) hx hb dX5_clock_69 (by decide) (fun _ => ?_) (fun c => absurd hc c)
          rw [he] at hP hD
          exact X ls H locs hP hD hS hl
        · refine lv_aload_n hx hb dX5_clock_49 rfl (lv_at hl 0 rfl) ?_
          refine tr_g_guesses hx hb hts inB_X5 hown hK hP (hts _ mb_649) dX5_clock_50 ?_
          refine lv_if_le (tgt := 97) hx hb dX5_clock_53 (by decide) (fun c => absurd c hle) (fun _ => ?_)
          refine lv_aload_n hx hb dX5_clock_56 rfl (lv_at hl 0 rfl) ?_
          refine tr_g_clock hx hb hts inB_X5 hown hK hP (hts _ mb_655) dX5_clock_57 ?_
          refine lv_aload_n hx hb dX5_clock_60 rfl (lv_at hl 0 rfl) ?_
          refine tr_g_mark hx hb hts inB_X5 hown hK hP (hts _ mb_656) dX5_clock_61 ?_
          refine lv_ldc2d hx hb hown (hts _ mb_834) dX5_clock_64 ?_
          refine lv_dadd hx hb dX5_clock_67 ((tm_dadd hm tm_p10).v) ?_
          refine lv_dcmp hx hb dX5_clock_68 ?_
          refine lv_if_lt (tgt := 97) hx hb dX5_clock_69 (by decide) (fun c => absurd c hc) (fun _ => ?_)
          refine lv_aload_n hx hb dX5_clock_72 rfl (lv_at hl 0 rfl) ?_
          refine lv_dup hx hb dX5_clock_73 rfl ?_
          refine tr_g_guesses hx hb hts inB_X5 hown hK hP (hts _ mb_649) dX5_clock_74 ?_
          refine lv_iconst (v := (nI 1)) hx hb dX5_clock_77 (by decide) ?_
          refine lv_isub hx hb dX5_clock_78 ?_
          refine tr_p_guesses hx hb hts inB_X5 hown hK hP hD hS (hts _ mb_649) dX5_clock_79 (fun H locs hP hD hS => ?_)
          refine lv_aload_n hx hb dX5_clock_82 rfl (lv_at hl 0 rfl) ?_
          refine lv_aload_n hx hb dX5_clock_83 rfl (lv_at hl 0 rfl) ?_
          refine tr_g_mark hx hb hts inB_X5 hown hK hP (hts _ mb_656) dX5_clock_84 ?_
          refine kq_td (y := (y.2.2 0)) (by simp [tm_L, tm_I, tm_D]) ?_
          refine lv_ldc2d hx hb hown (hts _ mb_834) dX5_clock_87 ?_
          refine lv_dadd hx hb dX5_clock_90 ((tm_dadd hm tm_p10).v) ?_
          refine tr_p_mark hx hb hts inB_X5 hown hK hP hD hS (hts _ mb_656) dX5_clock_91 (fun H locs hP hD hS => ?_)
          refine lv_goto (tgt := 49) hx hb dX5_clock_94 (by decide) ?_
          exact ih _ ls H locs (by simpa [tm_D, tm_I] using tm_dadd hm tm_p10) (by simpa [tm_D, tm_I] using tm_dec1 hle hn) (by rw [← he]; simp only [tm_fg]; rw [if_neg hle, if_neg hc]) hP hD hS hl
  refine lv_aload_n hx hb dX5_clock_0 rfl (lv_at hl 0 rfl) ?_
  refine lv_aload_n hx hb dX5_clock_1 rfl (lv_at hl 0 rfl) ?_
  refine lv_iload_n hx hb dX5_clock_2 rfl (lv_at hl 1 rfl) ?_
  refine lv_bipush (v := (nI 100)) hx hb dX5_clock_3 (by decide) ?_
  refine kq_cV (st1 := [.int (nI 0), .ref (ad 0)]) ⟨hx, hb, hml, hown, hts⟩ (r_out_in u (by omega) (by omega)) (cwV 2 hts gX5_109_X5_out rfl rfl rfl (by decide +kernel) ⟨Nat.le_of_ble_eq_true rfl, Nat.le_of_ble_eq_true rfl⟩) kq_okT hK hP hD hA hG hS (va_recv hK hP (ci := 5) (q0 := 0) rfl (tm_at (i := 0) (by omega) rfl)) rfl hl.1 rfl rfl (Nat.le_of_ble_eq_true rfl) dX5_clock_5 ⟨Nat.le_of_ble_eq_true rfl, Nat.le_of_ble_eq_true rfl⟩ (fun H locs hP hD hS => ?_)
  refine lv_if_ne (tgt := 20) hx hb dX5_clock_8 (by decide) (fun c => absurd (by decide) c) (fun _ => ?_)
  refine lv_aload_n hx hb dX5_clock_11 rfl (lv_at hl 0 rfl) ?_
  refine lv_iload_n hx hb dX5_clock_12 rfl (lv_at hl 2 rfl) ?_
  refine lv_iconst (v := (nI 2)) hx hb dX5_clock_13 (by decide) ?_
  refine kq_cV (st1 := [.int (nI 0), .ref (ad 0)]) ⟨hx, hb, hml, hown, hts⟩ (r_out_in u (by omega) (by omega)) (cwV 2 hts gX5_109_X5_out rfl rfl rfl (by decide +kernel) ⟨Nat.le_of_ble_eq_true rfl, Nat.le_of_ble_eq_true rfl⟩) kq_okT hK hP hD hA hG hS (va_recv hK hP (ci := 5) (q0 := 0) rfl (tm_at (i := 0) (by omega) rfl)) rfl hl.1 rfl rfl (Nat.le_of_ble_eq_true rfl) dX5_clock_14 ⟨Nat.le_of_ble_eq_true rfl, Nat.le_of_ble_eq_true rfl⟩ (fun H locs hP hD hS => ?_)
  refine lv_if_eq (tgt := 24) hx hb dX5_clock_17 (by decide) (fun _ => ?_) (fun c => absurd (by decide) c)
  refine lv_iconst (v := (nI 0)) hx hb dX5_clock_24 (by decide) ?_
  refine kq_cV (st1 := [.int (nI 1)]) ⟨hx, hb, hml, hown, hts⟩ (r_begin_ok u hnl) (cwV 1 hts gX5_113_X5_begin rfl rfl rfl (by decide +kernel) ⟨Nat.le_of_ble_eq_true rfl, Nat.le_of_ble_eq_true rfl⟩) kq_okT hK hP hD hA hG hS (va_recv hK hP (ci := 5) (q0 := 0) rfl (tm_at (i := 0) (by omega) rfl)) rfl hl.1 rfl rfl (Nat.le_of_ble_eq_true rfl) dX5_clock_25 ⟨Nat.le_of_ble_eq_true rfl, Nat.le_of_ble_eq_true rfl⟩ (fun H locs hP hD hS => ?_)
  refine lv_if_ne (tgt := 33) hx hb dX5_clock_28 (by decide) (fun _ => ?_) (fun c => absurd c (by decide))
  refine lv_aload_n hx hb dX5_clock_33 rfl (lv_at hl 0 rfl) ?_
  refine lv_aload_n hx hb dX5_clock_34 rfl (lv_at hl 0 rfl) ?_
  refine tr_g_clock hx hb hts inB_X5 hown hK hP (hts _ mb_655) dX5_clock_35 ?_
  refine kq_td (y := (u.2.2 1)) (by simp [tm_L, tm_I, tm_D]) ?_
  refine lv_iload_n hx hb dX5_clock_38 rfl (lv_at hl 1 rfl) ?_
  refine lv_i2d hx hb dX5_clock_39 ?_
  refine lv_aload_n hx hb dX5_clock_40 rfl (lv_at hl 0 rfl) ?_
  refine tr_g_rate hx hb hts inB_X5 hown hK hP (hts _ mb_657) dX5_clock_41 ?_
  refine kq_td (y := (u.2.2 2)) (by simp [tm_L, tm_I, tm_D]) ?_
  refine lv_dmul hx hb dX5_clock_44 ((tm_dmul (tm_i2d k (by omega)) hr2).v) ?_
  refine lv_dadd hx hb dX5_clock_45 ((tm_dadd hc1 (tm_dmul (tm_i2d k (by omega)) hr2)).v) ?_
  refine tr_p_clock hx hb hts inB_X5 hown hK hP hD hS (hts _ mb_655) dX5_clock_46 (fun H locs hP hD hS => ?_)
  exact K n0 _ ls H locs (by simpa [tm_D, tm_I] using hm) (by simpa [tm_D, tm_I] using hn) rfl hP hD hS hl
set_option maxHeartbeats 4000000 in
set_option maxRecDepth 100000 in
theorem p_count_0 (u : tm_S) : kr_M l dC dI ad cc yX5_count wsX5_count { frames := 0, cells := 0, slots := 0, locals := 0 } [.ref (ad 0), .int (nI 0)] u (tm_I u 14 0 (nI 0)) (some (.int (tm_cnt u 0 4))) := by
  refine kq_ofW (cc := cX5_count) (maxL := 4) (ret := (some .int)) (R0 := RX5) (by decide) rfl rfl (Nat.le_of_ble_eq_true rfl) ?_
  intro p e s m below meth c A ls hx hb hr hlk hml hown hts hP hK hD hA hG hS hl
  have hl : lv_has ls 4 [(0, .ref (ad 0)), (1, .int (nI 0))] := hl
  have K : ∀ (n i : Nat) (x : Int32) (ls : Array Slot) (H : Heap) (locs : List Loc), i + n = 4 → x = tm_cnt u 0 i → va_P (dC, dI) vwCl (tr_w ad cc (tm_I u 14 0 (nI 0))) H → va_D A (tr_w ad cc (tm_I u 14 0 (nI 0))) → va_S A s.heap H locs → lv_has ls 4 [(3, .int (nI i)), (2, .int x), (0, .ref (ad 0)), (1, .int (nI 0))] → W p l e { frames := 0, cells := 0, slots := 0, locals := 0 } s m (([.ref (ad 0), .int (nI 0)] : List Value).toArray) below meth c H locs 0 0 (MQ below (fun _ => kq_Q (dC, dI) vwCl A (tr_w ad cc (tm_I u 14 0 (nI 0))) (some (.int (tm_cnt u 0 4)))) (([.ref (ad 0), .int (nI 0)] : List Value).toArray) s 0 0 A) (F0 m 9 ls []) := by
    intro n
    induction n with
    | zero =>
      intro i x ls H locs hi hx0 hP hD hS hl
      have hi : i = 4 := by omega
      subst hi
      subst hx0
      refine lv_iload_n hx hb dX5_count_9 rfl (lv_at hl 0 rfl) ?_
      refine lv_bipush (v := (nI 8)) hx hb dX5_count_10 (by decide) ?_
      refine lv_icmp_ge (tgt := 76) hx hb dX5_count_12 (by decide) (fun c => absurd c (by decide)) (fun _ => ?_)
      refine lv_iload_n hx hb dX5_count_15 rfl (lv_at hl 3 rfl) ?_
      refine lv_if_ne (tgt := 33) hx hb dX5_count_16 (by decide) (fun c => absurd (by decide) c) (fun _ => ?_)
      refine lv_iload_n hx hb dX5_count_19 rfl (lv_at hl 0 rfl) ?_
      refine lv_iconst (v := (nI 4)) hx hb dX5_count_20 (by decide) ?_
      refine lv_icmp_ge (tgt := 33) hx hb dX5_count_21 (by decide) (fun _ => ?_) (fun c => absurd (by decide) c)
      refine lv_iload_n hx hb dX5_count_33 rfl (lv_at hl 3 rfl) ?_
      refine lv_iconst (v := (nI 5)) hx hb dX5_count_34 (by decide) ?_
      refine lv_icmp_ne (tgt := 52) hx hb dX5_count_35 (by decide) (fun _ => ?_) (fun c => absurd c (by decide))
      refine lv_iload_n hx hb dX5_count_52 rfl (lv_at hl 3 rfl) ?_
      refine lv_bipush (v := (nI 6)) hx hb dX5_count_53 (by decide) ?_
      refine lv_icmp_ne (tgt := 70) hx hb dX5_count_55 (by decide) (fun _ => ?_) (fun c => absurd c (by decide))
      refine lv_iinc (v := (nI 5)) (lv' := [(3, .int (nI 5)), (2, .int (tm_cnt u 0 4)), (0, .ref (ad 0)), (1, .int (nI 0))]) hx hb dX5_count_70 hl (k := 0) rfl (by decide) (by decide) rfl (fun ls hl => ?_)
      refine lv_goto (tgt := 9) hx hb dX5_count_73 (by decide) ?_
      refine lv_iload_n hx hb dX5_count_9 rfl (lv_at hl 0 rfl) ?_
      refine lv_bipush (v := (nI 8)) hx hb dX5_count_10 (by decide) ?_
      refine lv_icmp_ge (tgt := 76) hx hb dX5_count_12 (by decide) (fun c => absurd c (by decide)) (fun _ => ?_)
      refine lv_iload_n hx hb dX5_count_15 rfl (lv_at hl 3 rfl) ?_
      refine lv_if_ne (tgt := 33) hx hb dX5_count_16 (by decide) (fun c => absurd (by decide) c) (fun _ => ?_)
      refine lv_iload_n hx hb dX5_count_19 rfl (lv_at hl 0 rfl) ?_
      refine lv_iconst (v := (nI 4)) hx hb dX5_count_20 (by decide) ?_
      refine lv_icmp_ge (tgt := 33) hx hb dX5_count_21 (by decide) (fun _ => ?_) (fun c => absurd (by decide) c)
      refine lv_iload_n hx hb dX5_count_33 rfl (lv_at hl 3 rfl) ?_
      refine lv_iconst (v := (nI 5)) hx hb dX5_count_34 (by decide) ?_
      refine lv_icmp_ne (tgt := 52) hx hb dX5_count_35 (by decide) (fun _ => ?_) (fun c => absurd c (by decide))
      refine lv_iload_n hx hb dX5_count_52 rfl (lv_at hl 3 rfl) ?_
      refine lv_bipush (v := (nI 6)) hx hb dX5_count_53 (by decide) ?_
      refine lv_icmp_ne (tgt := 70) hx hb dX5_count_55 (by decide) (fun _ => ?_) (fun c => absurd c (by decide))
      refine lv_iinc (v := (nI 6)) (lv' := [(3, .int (nI 6)), (2, .int (tm_cnt u 0 4)), (0, .ref (ad 0)), (1, .int (nI 0))]) hx hb dX5_count_70 hl (k := 0) rfl (by decide) (by decide) rfl (fun ls hl => ?_)
      refine lv_goto (tgt := 9) hx hb dX5_count_73 (by decide) ?_
      refine lv_iload_n hx hb dX5_count_9 rfl (lv_at hl 0 rfl) ?_
      refine lv_bipush (v := (nI 8)) hx hb dX5_count_10 (by decide) ?_
      refine lv_icmp_ge (tgt := 76) hx hb dX5_count_12 (by decide) (fun c => absurd c (by decide)) (fun _ => ?_)
      refine lv_iload_n hx hb dX5_count_15 rfl (lv_at hl 3 rfl) ?_
      refine lv_if_ne (tgt := 33) hx hb dX5_count_16 (by decide) (fun c => absurd (by decide) c) (fun _ => ?_)
      refine lv_iload_n hx hb dX5_count_19 rfl (lv_at hl 0 rfl) ?_
      refine lv_iconst (v := (nI 4)) hx hb dX5_count_20 (by decide) ?_
      refine lv_icmp_ge (tgt := 33) hx hb dX5_count_21 (by decide) (fun _ => ?_) (fun c => absurd (by decide) c)
      refine lv_iload_n hx hb dX5_count_33 rfl (lv_at hl 3 rfl) ?_
      refine lv_iconst (v := (nI 5)) hx hb dX5_count_34 (by decide) ?_
      refine lv_icmp_ne (tgt := 52) hx hb dX5_count_35 (by decide) (fun _ => ?_) (fun c => absurd c (by decide))
      refine lv_iload_n hx hb dX5_count_52 rfl (lv_at hl 3 rfl) ?_
      refine lv_bipush (v := (nI 6)) hx hb dX5_count_53 (by decide) ?_
      refine lv_icmp_ne (tgt := 70) hx hb dX5_count_55 (by decide) (fun _ => ?_) (fun c => absurd c (by decide))
      refine lv_iinc (v := (nI 7)) (lv' := [(3, .int (nI 7)), (2, .int (tm_cnt u 0 4)), (0, .ref (ad 0)), (1, .int (nI 0))]) hx hb dX5_count_70 hl (k := 0) rfl (by decide) (by decide) rfl (fun ls hl => ?_)
      refine lv_goto (tgt := 9) hx hb dX5_count_73 (by decide) ?_
      refine lv_iload_n hx hb dX5_count_9 rfl (lv_at hl 0 rfl) ?_
      refine lv_bipush (v := (nI 8)) hx hb dX5_count_10 (by decide) ?_
      refine lv_icmp_ge (tgt := 76) hx hb dX5_count_12 (by decide) (fun c => absurd c (by decide)) (fun _ => ?_)
      refine lv_iload_n hx hb dX5_count_15 rfl (lv_at hl 3 rfl) ?_
      refine lv_if_ne (tgt := 33) hx hb dX5_count_16 (by decide) (fun c => absurd (by decide) c) (fun _ => ?_)
      refine lv_iload_n hx hb dX5_count_19 rfl (lv_at hl 0 rfl) ?_
      refine lv_iconst (v := (nI 4)) hx hb dX5_count_20 (by decide) ?_
      refine lv_icmp_ge (tgt := 33) hx hb dX5_count_21 (by decide) (fun _ => ?_) (fun c => absurd (by decide) c)
      refine lv_iload_n hx hb dX5_count_33 rfl (lv_at hl 3 rfl) ?_
      refine lv_iconst (v := (nI 5)) hx hb dX5_count_34 (by decide) ?_
      refine lv_icmp_ne (tgt := 52) hx hb dX5_count_35 (by decide) (fun _ => ?_) (fun c => absurd c (by decide))
      refine lv_iload_n hx hb dX5_count_52 rfl (lv_at hl 3 rfl) ?_
      refine lv_bipush (v := (nI 6)) hx hb dX5_count_53 (by decide) ?_
      refine lv_icmp_ne (tgt := 70) hx hb dX5_count_55 (by decide) (fun _ => ?_) (fun c => absurd c (by decide))
      refine lv_iinc (v := (nI 8)) (lv' := [(3, .int (nI 8)), (2, .int (tm_cnt u 0 4)), (0, .ref (ad 0)), (1, .int (nI 0))]) hx hb dX5_count_70 hl (k := 0) rfl (by decide) (by decide) rfl (fun ls hl => ?_)
      refine lv_goto (tgt := 9) hx hb dX5_count_73 (by decide) ?_
      refine lv_iload_n hx hb dX5_count_9 rfl (lv_at hl 0 rfl) ?_
      refine lv_bipush (v := (nI 8)) hx hb dX5_count_10 (by decide) ?_
      refine lv_icmp_ge (tgt := 76) hx hb dX5_count_12 (by decide) (fun _ => ?_) (fun c => absurd (by decide) c)
      refine lv_iload_n hx hb dX5_count_76 rfl (lv_at hl 3 rfl) ?_
      refine lv_tableIn (tgt := 124) hx hb dX5_count_77 (by decide) (by decide) rfl (by decide) ?_
      refine lv_iload_n hx hb dX5_count_124 rfl (lv_at hl 1 rfl) ?_
      exact kq_iret hx hb hr hlk hP hD hS dX5_count_125
    | succ n ih =>
      intro i x ls H locs hi hx0 hP hD hS hl
      refine lv_iload_n hx hb dX5_count_9 rfl (lv_at hl 0 rfl) ?_
      refine lv_bipush (v := (nI 8)) hx hb dX5_count_10 (by decide) ?_
      refine lv_icmp_ge (tgt := 76) hx hb dX5_count_12 (by decide) (fun c => absurd c (nI_ge (show i < 8 by omega) (by omega))) (fun _ => ?_)
      refine lv_iload_n hx hb dX5_count_15 rfl (lv_at hl 3 rfl) ?_
      refine lv_if_ne (tgt := 33) hx hb dX5_count_16 (by decide) (fun c => absurd (by decide) c) (fun _ => ?_)
      refine lv_iload_n hx hb dX5_count_19 rfl (lv_at hl 0 rfl) ?_
      refine lv_iconst (v := (nI 4)) hx hb dX5_count_20 (by decide) ?_
      refine lv_icmp_ge (tgt := 33) hx hb dX5_count_21 (by decide) (fun c => absurd c (nI_ge (show i < 4 by omega) (by omega))) (fun _ => ?_)
      refine lv_aload_n hx hb dX5_count_24 rfl (lv_at hl 2 rfl) ?_
      refine tr_g_used hx hb hts inB_X5 hown hK hP (hts _ mb_641) dX5_count_25 ?_
      refine lv_iload_n hx hb dX5_count_28 rfl (lv_at hl 0 rfl) ?_
      refine tr_l_used hx hb hK hP (by omega) dX5_count_29 ?_
      refine kq_ti (y := (u.2.1 0 i)) (by simp [tm_L, tm_I, tm_D]) ?_
      by_cases hc : u.2.1 0 i = 0
      · refine lv_if_ne (tgt := 67) hx hb dX5_count_30 (by decide) (fun c => absurd hc c) (fun _ => ?_)
        refine lv_iload_n hx hb dX5_count_33 rfl (lv_at hl 3 rfl) ?_
        refine lv_iconst (v := (nI 5)) hx hb dX5_count_34 (by decide) ?_
        refine lv_icmp_ne (tgt := 52) hx hb dX5_count_35 (by decide) (fun _ => ?_) (fun c => absurd c (by decide))
        refine lv_iload_n hx hb dX5_count_52 rfl (lv_at hl 3 rfl) ?_
        refine lv_bipush (v := (nI 6)) hx hb dX5_count_53 (by decide) ?_
        refine lv_icmp_ne (tgt := 70) hx hb dX5_count_55 (by decide) (fun _ => ?_) (fun c => absurd c (by decide))
        refine lv_iinc (v := ((nI i) + 1)) (lv' := [(3, .int ((nI i) + 1)), (2, .int x), (0, .ref (ad 0)), (1, .int (nI 0))]) hx hb dX5_count_70 hl (k := 0) rfl (rfl) (by decide) rfl (fun ls hl => ?_)
        refine lv_goto (tgt := 9) hx hb dX5_count_73 (by decide) ?_
        exact ih (i + 1) x ls H locs (by omega) (by rw [hx0]; simp only [tm_cnt]; rw [if_pos hc]) hP hD hS (by rw [← nI_1]; exact lv_sub hl [0, 1, 2, 3] rfl)
      · refine lv_if_ne (tgt := 67) hx hb dX5_count_30 (by decide) (fun _ => ?_) (fun c => absurd c hc)
        refine lv_iinc (v := (x + 1)) (lv' := [(2, .int (x + 1)), (3, .int (nI i)), (0, .ref (ad 0)), (1, .int (nI 0))]) hx hb dX5_count_67 hl (k := 1) rfl (rfl) (by decide) rfl (fun ls hl => ?_)
        refine lv_iinc (v := ((nI i) + 1)) (lv' := [(3, .int ((nI i) + 1)), (2, .int (x + 1)), (0, .ref (ad 0)), (1, .int (nI 0))]) hx hb dX5_count_70 hl (k := 1) rfl (rfl) (by decide) rfl (fun ls hl => ?_)
        refine lv_goto (tgt := 9) hx hb dX5_count_73 (by decide) ?_
        exact ih (i + 1) (x + 1) ls H locs (by omega) (by rw [hx0]; simp only [tm_cnt]; rw [if_neg hc]) hP hD hS (by rw [← nI_1]; exact lv_sub hl [0, 1, 2, 3] rfl)
  refine lv_aload_n hx hb dX5_count_0 rfl (lv_at hl 0 rfl) ?_
  refine lv_iconst (v := (nI 0)) hx hb dX5_count_1 (by decide) ?_
  refine tr_p_thrown hx hb hts inB_X5 hown hK hP hD hS (hts _ mb_652) dX5_count_2 (fun H locs hP hD hS => ?_)
  refine lv_iconst (v := (nI 0)) hx hb dX5_count_5 (by decide) ?_
  refine lv_istore_n (lv' := [(2, .int (nI 0)), (0, .ref (ad 0)), (1, .int (nI 0))]) hx hb dX5_count_6 rfl hl (by decide) rfl (fun ls hl => ?_)
  refine lv_iconst (v := (nI 0)) hx hb dX5_count_7 (by decide) ?_
  refine lv_istore_n (lv' := [(3, .int (nI 0)), (2, .int (nI 0)), (0, .ref (ad 0)), (1, .int (nI 0))]) hx hb dX5_count_8 rfl hl (by decide) rfl (fun ls hl => ?_)
  exact K 4 0 _ ls H locs (by omega) rfl hP hD hS (lv_sub hl [0, 1, 2, 3] rfl)
set_option maxHeartbeats 4000000 in
set_option maxRecDepth 100000 in
theorem p_count_5 (u : tm_S) : kr_M l dC dI ad cc yX5_count wsX5_count { frames := 0, cells := 0, slots := 0, locals := 0 } [.ref (ad 0), .int (nI 5)] u (tm_I u 14 0 (nI 0)) (some (.int (tm_cnt u 6 4))) := by
  refine kq_ofW (cc := cX5_count) (maxL := 4) (ret := (some .int)) (R0 := RX5) (by decide) rfl rfl (Nat.le_of_ble_eq_true rfl) ?_
  intro p e s m below meth c A ls hx hb hr hlk hml hown hts hP hK hD hA hG hS hl
  have hl : lv_has ls 4 [(0, .ref (ad 0)), (1, .int (nI 5))] := hl
  have K : ∀ (n i : Nat) (x : Int32) (ls : Array Slot) (H : Heap) (locs : List Loc), i + n = 4 → x = tm_cnt u 6 i → va_P (dC, dI) vwCl (tr_w ad cc (tm_I u 14 0 (nI 0))) H → va_D A (tr_w ad cc (tm_I u 14 0 (nI 0))) → va_S A s.heap H locs → lv_has ls 4 [(3, .int (nI i)), (2, .int x), (0, .ref (ad 0)), (1, .int (nI 5))] → W p l e { frames := 0, cells := 0, slots := 0, locals := 0 } s m (([.ref (ad 0), .int (nI 5)] : List Value).toArray) below meth c H locs 0 0 (MQ below (fun _ => kq_Q (dC, dI) vwCl A (tr_w ad cc (tm_I u 14 0 (nI 0))) (some (.int (tm_cnt u 6 4)))) (([.ref (ad 0), .int (nI 5)] : List Value).toArray) s 0 0 A) (F0 m 9 ls []) := by
    intro n
    induction n with
    | zero =>
      intro i x ls H locs hi hx0 hP hD hS hl
      have hi : i = 4 := by omega
      subst hi
      subst hx0
      refine lv_iload_n hx hb dX5_count_9 rfl (lv_at hl 0 rfl) ?_
      refine lv_bipush (v := (nI 8)) hx hb dX5_count_10 (by decide) ?_
      refine lv_icmp_ge (tgt := 76) hx hb dX5_count_12 (by decide) (fun c => absurd c (by decide)) (fun _ => ?_)
      refine lv_iload_n hx hb dX5_count_15 rfl (lv_at hl 3 rfl) ?_
      refine lv_if_ne (tgt := 33) hx hb dX5_count_16 (by decide) (fun _ => ?_) (fun c => absurd c (by decide))
      refine lv_iload_n hx hb dX5_count_33 rfl (lv_at hl 3 rfl) ?_
      refine lv_iconst (v := (nI 5)) hx hb dX5_count_34 (by decide) ?_
      refine lv_icmp_ne (tgt := 52) hx hb dX5_count_35 (by decide) (fun c => absurd (by decide) c) (fun _ => ?_)
      refine lv_iload_n hx hb dX5_count_38 rfl (lv_at hl 0 rfl) ?_
      refine lv_iconst (v := (nI 4)) hx hb dX5_count_39 (by decide) ?_
      refine lv_icmp_ge (tgt := 52) hx hb dX5_count_40 (by decide) (fun _ => ?_) (fun c => absurd (by decide) c)
      refine lv_iload_n hx hb dX5_count_52 rfl (lv_at hl 3 rfl) ?_
      refine lv_bipush (v := (nI 6)) hx hb dX5_count_53 (by decide) ?_
      refine lv_icmp_ne (tgt := 70) hx hb dX5_count_55 (by decide) (fun _ => ?_) (fun c => absurd c (by decide))
      refine lv_iinc (v := (nI 5)) (lv' := [(3, .int (nI 5)), (2, .int (tm_cnt u 6 4)), (0, .ref (ad 0)), (1, .int (nI 5))]) hx hb dX5_count_70 hl (k := 0) rfl (by decide) (by decide) rfl (fun ls hl => ?_)
      refine lv_goto (tgt := 9) hx hb dX5_count_73 (by decide) ?_
      refine lv_iload_n hx hb dX5_count_9 rfl (lv_at hl 0 rfl) ?_
      refine lv_bipush (v := (nI 8)) hx hb dX5_count_10 (by decide) ?_
      refine lv_icmp_ge (tgt := 76) hx hb dX5_count_12 (by decide) (fun c => absurd c (by decide)) (fun _ => ?_)
      refine lv_iload_n hx hb dX5_count_15 rfl (lv_at hl 3 rfl) ?_
      refine lv_if_ne (tgt := 33) hx hb dX5_count_16 (by decide) (fun _ => ?_) (fun c => absurd c (by decide))
      refine lv_iload_n hx hb dX5_count_33 rfl (lv_at hl 3 rfl) ?_
      refine lv_iconst (v := (nI 5)) hx hb dX5_count_34 (by decide) ?_
      refine lv_icmp_ne (tgt := 52) hx hb dX5_count_35 (by decide) (fun c => absurd (by decide) c) (fun _ => ?_)
      refine lv_iload_n hx hb dX5_count_38 rfl (lv_at hl 0 rfl) ?_
      refine lv_iconst (v := (nI 4)) hx hb dX5_count_39 (by decide) ?_
      refine lv_icmp_ge (tgt := 52) hx hb dX5_count_40 (by decide) (fun _ => ?_) (fun c => absurd (by decide) c)
      refine lv_iload_n hx hb dX5_count_52 rfl (lv_at hl 3 rfl) ?_
      refine lv_bipush (v := (nI 6)) hx hb dX5_count_53 (by decide) ?_
      refine lv_icmp_ne (tgt := 70) hx hb dX5_count_55 (by decide) (fun _ => ?_) (fun c => absurd c (by decide))
      refine lv_iinc (v := (nI 6)) (lv' := [(3, .int (nI 6)), (2, .int (tm_cnt u 6 4)), (0, .ref (ad 0)), (1, .int (nI 5))]) hx hb dX5_count_70 hl (k := 0) rfl (by decide) (by decide) rfl (fun ls hl => ?_)
      refine lv_goto (tgt := 9) hx hb dX5_count_73 (by decide) ?_
      refine lv_iload_n hx hb dX5_count_9 rfl (lv_at hl 0 rfl) ?_
      refine lv_bipush (v := (nI 8)) hx hb dX5_count_10 (by decide) ?_
      refine lv_icmp_ge (tgt := 76) hx hb dX5_count_12 (by decide) (fun c => absurd c (by decide)) (fun _ => ?_)
      refine lv_iload_n hx hb dX5_count_15 rfl (lv_at hl 3 rfl) ?_
      refine lv_if_ne (tgt := 33) hx hb dX5_count_16 (by decide) (fun _ => ?_) (fun c => absurd c (by decide))
      refine lv_iload_n hx hb dX5_count_33 rfl (lv_at hl 3 rfl) ?_
      refine lv_iconst (v := (nI 5)) hx hb dX5_count_34 (by decide) ?_
      refine lv_icmp_ne (tgt := 52) hx hb dX5_count_35 (by decide) (fun c => absurd (by decide) c) (fun _ => ?_)
      refine lv_iload_n hx hb dX5_count_38 rfl (lv_at hl 0 rfl) ?_
      refine lv_iconst (v := (nI 4)) hx hb dX5_count_39 (by decide) ?_
      refine lv_icmp_ge (tgt := 52) hx hb dX5_count_40 (by decide) (fun _ => ?_) (fun c => absurd (by decide) c)
      refine lv_iload_n hx hb dX5_count_52 rfl (lv_at hl 3 rfl) ?_
      refine lv_bipush (v := (nI 6)) hx hb dX5_count_53 (by decide) ?_
      refine lv_icmp_ne (tgt := 70) hx hb dX5_count_55 (by decide) (fun _ => ?_) (fun c => absurd c (by decide))
      refine lv_iinc (v := (nI 7)) (lv' := [(3, .int (nI 7)), (2, .int (tm_cnt u 6 4)), (0, .ref (ad 0)), (1, .int (nI 5))]) hx hb dX5_count_70 hl (k := 0) rfl (by decide) (by decide) rfl (fun ls hl => ?_)
      refine lv_goto (tgt := 9) hx hb dX5_count_73 (by decide) ?_
      refine lv_iload_n hx hb dX5_count_9 rfl (lv_at hl 0 rfl) ?_
      refine lv_bipush (v := (nI 8)) hx hb dX5_count_10 (by decide) ?_
      refine lv_icmp_ge (tgt := 76) hx hb dX5_count_12 (by decide) (fun c => absurd c (by decide)) (fun _ => ?_)
      refine lv_iload_n hx hb dX5_count_15 rfl (lv_at hl 3 rfl) ?_
      refine lv_if_ne (tgt := 33) hx hb dX5_count_16 (by decide) (fun _ => ?_) (fun c => absurd c (by decide))
      refine lv_iload_n hx hb dX5_count_33 rfl (lv_at hl 3 rfl) ?_
      refine lv_iconst (v := (nI 5)) hx hb dX5_count_34 (by decide) ?_
      refine lv_icmp_ne (tgt := 52) hx hb dX5_count_35 (by decide) (fun c => absurd (by decide) c) (fun _ => ?_)
      refine lv_iload_n hx hb dX5_count_38 rfl (lv_at hl 0 rfl) ?_
      refine lv_iconst (v := (nI 4)) hx hb dX5_count_39 (by decide) ?_
      refine lv_icmp_ge (tgt := 52) hx hb dX5_count_40 (by decide) (fun _ => ?_) (fun c => absurd (by decide) c)
      refine lv_iload_n hx hb dX5_count_52 rfl (lv_at hl 3 rfl) ?_
      refine lv_bipush (v := (nI 6)) hx hb dX5_count_53 (by decide) ?_
      refine lv_icmp_ne (tgt := 70) hx hb dX5_count_55 (by decide) (fun _ => ?_) (fun c => absurd c (by decide))
      refine lv_iinc (v := (nI 8)) (lv' := [(3, .int (nI 8)), (2, .int (tm_cnt u 6 4)), (0, .ref (ad 0)), (1, .int (nI 5))]) hx hb dX5_count_70 hl (k := 0) rfl (by decide) (by decide) rfl (fun ls hl => ?_)
      refine lv_goto (tgt := 9) hx hb dX5_count_73 (by decide) ?_
      refine lv_iload_n hx hb dX5_count_9 rfl (lv_at hl 0 rfl) ?_
      refine lv_bipush (v := (nI 8)) hx hb dX5_count_10 (by decide) ?_
      refine lv_icmp_ge (tgt := 76) hx hb dX5_count_12 (by decide) (fun _ => ?_) (fun c => absurd (by decide) c)
      refine lv_iload_n hx hb dX5_count_76 rfl (lv_at hl 3 rfl) ?_
      refine lv_tableIn (tgt := 124) hx hb dX5_count_77 (by decide) (by decide) rfl (by decide) ?_
      refine lv_iload_n hx hb dX5_count_124 rfl (lv_at hl 1 rfl) ?_
      exact kq_iret hx hb hr hlk hP hD hS dX5_count_125
    | succ n ih =>
      intro i x ls H locs hi hx0 hP hD hS hl
      refine lv_iload_n hx hb dX5_count_9 rfl (lv_at hl 0 rfl) ?_
      refine lv_bipush (v := (nI 8)) hx hb dX5_count_10 (by decide) ?_
      refine lv_icmp_ge (tgt := 76) hx hb dX5_count_12 (by decide) (fun c => absurd c (nI_ge (show i < 8 by omega) (by omega))) (fun _ => ?_)
      refine lv_iload_n hx hb dX5_count_15 rfl (lv_at hl 3 rfl) ?_
      refine lv_if_ne (tgt := 33) hx hb dX5_count_16 (by decide) (fun _ => ?_) (fun c => absurd c (by decide))
      refine lv_iload_n hx hb dX5_count_33 rfl (lv_at hl 3 rfl) ?_
      refine lv_iconst (v := (nI 5)) hx hb dX5_count_34 (by decide) ?_
      refine lv_icmp_ne (tgt := 52) hx hb dX5_count_35 (by decide) (fun c => absurd (by decide) c) (fun _ => ?_)
      refine lv_iload_n hx hb dX5_count_38 rfl (lv_at hl 0 rfl) ?_
      refine lv_iconst (v := (nI 4)) hx hb dX5_count_39 (by decide) ?_
      refine lv_icmp_ge (tgt := 52) hx hb dX5_count_40 (by decide) (fun c => absurd c (nI_ge (show i < 4 by omega) (by omega))) (fun _ => ?_)
      refine lv_aload_n hx hb dX5_count_43 rfl (lv_at hl 2 rfl) ?_
      refine tr_g_defined hx hb hts inB_X5 hown hK hP (hts _ mb_645) dX5_count_44 ?_
      refine lv_iload_n hx hb dX5_count_47 rfl (lv_at hl 0 rfl) ?_
      refine tr_l_defined hx hb hK hP (by omega) dX5_count_48 ?_
      refine kq_ti (y := (u.2.1 6 i)) (by simp [tm_L, tm_I, tm_D]) ?_
      by_cases hc : u.2.1 6 i = 0
      · refine lv_if_ne (tgt := 67) hx hb dX5_count_49 (by decide) (fun c => absurd hc c) (fun _ => ?_)
        refine lv_iload_n hx hb dX5_count_52 rfl (lv_at hl 3 rfl) ?_
        refine lv_bipush (v := (nI 6)) hx hb dX5_count_53 (by decide) ?_
        refine lv_icmp_ne (tgt := 70) hx hb dX5_count_55 (by decide) (fun _ => ?_) (fun c => absurd c (by decide))
        refine lv_iinc (v := ((nI i) + 1)) (lv' := [(3, .int ((nI i) + 1)), (2, .int x), (0, .ref (ad 0)), (1, .int (nI 5))]) hx hb dX5_count_70 hl (k := 0) rfl (rfl) (by decide) rfl (fun ls hl => ?_)
        refine lv_goto (tgt := 9) hx hb dX5_count_73 (by decide) ?_
        exact ih (i + 1) x ls H locs (by omega) (by rw [hx0]; simp only [tm_cnt]; rw [if_pos hc]) hP hD hS (by rw [← nI_1]; exact lv_sub hl [0, 1, 2, 3] rfl)
      · refine lv_if_ne (tgt := 67) hx hb dX5_count_49 (by decide) (fun _ => ?_) (fun c => absurd c hc)
        refine lv_iinc (v := (x + 1)) (lv' := [(2, .int (x + 1)), (3, .int (nI i)), (0, .ref (ad 0)), (1, .int (nI 5))]) hx hb dX5_count_67 hl (k := 1) rfl (rfl) (by decide) rfl (fun ls hl => ?_)
        refine lv_iinc (v := ((nI i) + 1)) (lv' := [(3, .int ((nI i) + 1)), (2, .int (x + 1)), (0, .ref (ad 0)), (1, .int (nI 5))]) hx hb dX5_count_70 hl (k := 1) rfl (rfl) (by decide) rfl (fun ls hl => ?_)
        refine lv_goto (tgt := 9) hx hb dX5_count_73 (by decide) ?_
        exact ih (i + 1) (x + 1) ls H locs (by omega) (by rw [hx0]; simp only [tm_cnt]; rw [if_neg hc]) hP hD hS (by rw [← nI_1]; exact lv_sub hl [0, 1, 2, 3] rfl)
  refine lv_aload_n hx hb dX5_count_0 rfl (lv_at hl 0 rfl) ?_
  refine lv_iconst (v := (nI 0)) hx hb dX5_count_1 (by decide) ?_
  refine tr_p_thrown hx hb hts inB_X5 hown hK hP hD hS (hts _ mb_652) dX5_count_2 (fun H locs hP hD hS => ?_)
  refine lv_iconst (v := (nI 0)) hx hb dX5_count_5 (by decide) ?_
  refine lv_istore_n (lv' := [(2, .int (nI 0)), (0, .ref (ad 0)), (1, .int (nI 5))]) hx hb dX5_count_6 rfl hl (by decide) rfl (fun ls hl => ?_)
  refine lv_iconst (v := (nI 0)) hx hb dX5_count_7 (by decide) ?_
  refine lv_istore_n (lv' := [(3, .int (nI 0)), (2, .int (nI 0)), (0, .ref (ad 0)), (1, .int (nI 5))]) hx hb dX5_count_8 rfl hl (by decide) rfl (fun ls hl => ?_)
  exact K 4 0 _ ls H locs (by omega) rfl hP hD hS (lv_sub hl [0, 1, 2, 3] rfl)
set_option maxHeartbeats 4000000 in
set_option maxRecDepth 100000 in
theorem p_count_6 (u : tm_S) : kr_M l dC dI ad cc yX5_count wsX5_count { frames := 0, cells := 0, slots := 0, locals := 0 } [.ref (ad 0), .int (nI 6)] u (tm_I u 14 0 (nI 0)) (some (.int (tm_cnt u 3 8))) := by
  refine kq_ofW (cc := cX5_count) (maxL := 4) (ret := (some .int)) (R0 := RX5) (by decide) rfl rfl (Nat.le_of_ble_eq_true rfl) ?_
  intro p e s m below meth c A ls hx hb hr hlk hml hown hts hP hK hD hA hG hS hl
  have hl : lv_has ls 4 [(0, .ref (ad 0)), (1, .int (nI 6))] := hl
  have K : ∀ (n i : Nat) (x : Int32) (ls : Array Slot) (H : Heap) (locs : List Loc), i + n = 8 → x = tm_cnt u 3 i → va_P (dC, dI) vwCl (tr_w ad cc (tm_I u 14 0 (nI 0))) H → va_D A (tr_w ad cc (tm_I u 14 0 (nI 0))) → va_S A s.heap H locs → lv_has ls 4 [(3, .int (nI i)), (2, .int x), (0, .ref (ad 0)), (1, .int (nI 6))] → W p l e { frames := 0, cells := 0, slots := 0, locals := 0 } s m (([.ref (ad 0), .int (nI 6)] : List Value).toArray) below meth c H locs 0 0 (MQ below (fun _ => kq_Q (dC, dI) vwCl A (tr_w ad cc (tm_I u 14 0 (nI 0))) (some (.int (tm_cnt u 3 8)))) (([.ref (ad 0), .int (nI 6)] : List Value).toArray) s 0 0 A) (F0 m 9 ls []) := by
    intro n
    induction n with
    | zero =>
      intro i x ls H locs hi hx0 hP hD hS hl
      have hi : i = 8 := by omega
      subst hi
      subst hx0
      refine lv_iload_n hx hb dX5_count_9 rfl (lv_at hl 0 rfl) ?_
      refine lv_bipush (v := (nI 8)) hx hb dX5_count_10 (by decide) ?_
      refine lv_icmp_ge (tgt := 76) hx hb dX5_count_12 (by decide) (fun _ => ?_) (fun c => absurd (by decide) c)
      refine lv_iload_n hx hb dX5_count_76 rfl (lv_at hl 3 rfl) ?_
      refine lv_tableIn (tgt := 124) hx hb dX5_count_77 (by decide) (by decide) rfl (by decide) ?_
      refine lv_iload_n hx hb dX5_count_124 rfl (lv_at hl 1 rfl) ?_
      exact kq_iret hx hb hr hlk hP hD hS dX5_count_125
    | succ n ih =>
      intro i x ls H locs hi hx0 hP hD hS hl
      refine lv_iload_n hx hb dX5_count_9 rfl (lv_at hl 0 rfl) ?_
      refine lv_bipush (v := (nI 8)) hx hb dX5_count_10 (by decide) ?_
      refine lv_icmp_ge (tgt := 76) hx hb dX5_count_12 (by decide) (fun c => absurd c (nI_ge (show i < 8 by omega) (by omega))) (fun _ => ?_)
      refine lv_iload_n hx hb dX5_count_15 rfl (lv_at hl 3 rfl) ?_
      refine lv_if_ne (tgt := 33) hx hb dX5_count_16 (by decide) (fun _ => ?_) (fun c => absurd c (by decide))
      refine lv_iload_n hx hb dX5_count_33 rfl (lv_at hl 3 rfl) ?_
      refine lv_iconst (v := (nI 5)) hx hb dX5_count_34 (by decide) ?_
      refine lv_icmp_ne (tgt := 52) hx hb dX5_count_35 (by decide) (fun _ => ?_) (fun c => absurd c (by decide))
      refine lv_iload_n hx hb dX5_count_52 rfl (lv_at hl 3 rfl) ?_
      refine lv_bipush (v := (nI 6)) hx hb dX5_count_53 (by decide) ?_
      refine lv_icmp_ne (tgt := 70) hx hb dX5_count_55 (by decide) (fun c => absurd (by decide) c) (fun _ => ?_)
      refine lv_aload_n hx hb dX5_count_58 rfl (lv_at hl 2 rfl) ?_
      refine tr_g_there hx hb hts inB_X5 hown hK hP (hts _ mb_643) dX5_count_59 ?_
      refine lv_iload_n hx hb dX5_count_62 rfl (lv_at hl 0 rfl) ?_
      refine tr_l_there hx hb hK hP (by omega) dX5_count_63 ?_
      refine kq_ti (y := (u.2.1 3 i)) (by simp [tm_L, tm_I, tm_D]) ?_
      by_cases hc : u.2.1 3 i = 0
      · refine lv_if_eq (tgt := 70) hx hb dX5_count_64 (by decide) (fun _ => ?_) (fun c => absurd hc c)
        refine lv_iinc (v := ((nI i) + 1)) (lv' := [(3, .int ((nI i) + 1)), (2, .int x), (0, .ref (ad 0)), (1, .int (nI 6))]) hx hb dX5_count_70 hl (k := 0) rfl (rfl) (by decide) rfl (fun ls hl => ?_)
        refine lv_goto (tgt := 9) hx hb dX5_count_73 (by decide) ?_
        exact ih (i + 1) x ls H locs (by omega) (by rw [hx0]; simp only [tm_cnt]; rw [if_pos hc]) hP hD hS (by rw [← nI_1]; exact lv_sub hl [0, 1, 2, 3] rfl)
      · refine lv_if_eq (tgt := 70) hx hb dX5_count_64 (by decide) (fun c => absurd c hc) (fun _ => ?_)
        refine lv_iinc (v := (x + 1)) (lv' := [(2, .int (x + 1)), (3, .int (nI i)), (0, .ref (ad 0)), (1, .int (nI 6))]) hx hb dX5_count_67 hl (k := 1) rfl (rfl) (by decide) rfl (fun ls hl => ?_)
        refine lv_iinc (v := ((nI i) + 1)) (lv' := [(3, .int ((nI i) + 1)), (2, .int (x + 1)), (0, .ref (ad 0)), (1, .int (nI 6))]) hx hb dX5_count_70 hl (k := 1) rfl (rfl) (by decide) rfl (fun ls hl => ?_)
        refine lv_goto (tgt := 9) hx hb dX5_count_73 (by decide) ?_
        exact ih (i + 1) (x + 1) ls H locs (by omega) (by rw [hx0]; simp only [tm_cnt]; rw [if_neg hc]) hP hD hS (by rw [← nI_1]; exact lv_sub hl [0, 1, 2, 3] rfl)
  refine lv_aload_n hx hb dX5_count_0 rfl (lv_at hl 0 rfl) ?_
  refine lv_iconst (v := (nI 0)) hx hb dX5_count_1 (by decide) ?_
  refine tr_p_thrown hx hb hts inB_X5 hown hK hP hD hS (hts _ mb_652) dX5_count_2 (fun H locs hP hD hS => ?_)
  refine lv_iconst (v := (nI 0)) hx hb dX5_count_5 (by decide) ?_
  refine lv_istore_n (lv' := [(2, .int (nI 0)), (0, .ref (ad 0)), (1, .int (nI 6))]) hx hb dX5_count_6 rfl hl (by decide) rfl (fun ls hl => ?_)
  refine lv_iconst (v := (nI 0)) hx hb dX5_count_7 (by decide) ?_
  refine lv_istore_n (lv' := [(3, .int (nI 0)), (2, .int (nI 0)), (0, .ref (ad 0)), (1, .int (nI 6))]) hx hb dX5_count_8 rfl hl (by decide) rfl (fun ls hl => ?_)
  exact K 8 0 _ ls H locs (by omega) rfl hP hD hS (lv_sub hl [0, 1, 2, 3] rfl)
set_option maxHeartbeats 4000000 in
set_option maxRecDepth 100000 in
theorem p_count_1 (u : tm_S)  : kr_M l dC dI ad cc yX5_count wsX5_count { frames := 0, cells := 0, slots := 0, locals := 0 } [.ref (ad 0), .int (nI 1)] u (tm_I u 14 0 (nI 0)) (some (.int (u.2.1 13 0))) := by
  refine kq_ofW (cc := cX5_count) (maxL := 4) (ret := (some .int)) (R0 := RX5) (by decide) rfl rfl (Nat.le_of_ble_eq_true rfl) ?_
  intro p e s m below meth c A ls hx hb hr hlk hml hown hts hP hK hD hA hG hS hl
  have hl : lv_has ls 4 [(0, .ref (ad 0)), (1, .int (nI 1))] := hl
  refine lv_aload_n hx hb dX5_count_0 rfl (lv_at hl 0 rfl) ?_
  refine lv_iconst (v := (nI 0)) hx hb dX5_count_1 (by decide) ?_
  refine tr_p_thrown hx hb hts inB_X5 hown hK hP hD hS (hts _ mb_652) dX5_count_2 (fun H locs hP hD hS => ?_)
  refine lv_iconst (v := (nI 0)) hx hb dX5_count_5 (by decide) ?_
  refine lv_istore_n (lv' := [(2, .int (nI 0)), (0, .ref (ad 0)), (1, .int (nI 1))]) hx hb dX5_count_6 rfl hl (by decide) rfl (fun ls hl => ?_)
  refine lv_iconst (v := (nI 0)) hx hb dX5_count_7 (by decide) ?_
  refine lv_istore_n (lv' := [(3, .int (nI 0)), (2, .int (nI 0)), (0, .ref (ad 0)), (1, .int (nI 1))]) hx hb dX5_count_8 rfl hl (by decide) rfl (fun ls hl => ?_)
  refine lv_iload_n hx hb dX5_count_9 rfl (lv_at hl 0 rfl) ?_
  refine lv_bipush (v := (nI 8)) hx hb dX5_count_10 (by decide) ?_
  refine lv_icmp_ge (tgt := 76) hx hb dX5_count_12 (by decide) (fun c => absurd c (by decide)) (fun _ => ?_)
  refine lv_iload_n hx hb dX5_count_15 rfl (lv_at hl 3 rfl) ?_
  refine lv_if_ne (tgt := 33) hx hb dX5_count_16 (by decide) (fun _ => ?_) (fun c => absurd c (by decide))
  refine lv_iload_n hx hb dX5_count_33 rfl (lv_at hl 3 rfl) ?_
  refine lv_iconst (v := (nI 5)) hx hb dX5_count_34 (by decide) ?_
  refine lv_icmp_ne (tgt := 52) hx hb dX5_count_35 (by decide) (fun _ => ?_) (fun c => absurd c (by decide))
  refine lv_iload_n hx hb dX5_count_52 rfl (lv_at hl 3 rfl) ?_
  refine lv_bipush (v := (nI 6)) hx hb dX5_count_53 (by decide) ?_
  refine lv_icmp_ne (tgt := 70) hx hb dX5_count_55 (by decide) (fun _ => ?_) (fun c => absurd c (by decide))
  refine lv_iinc (v := (nI 1)) (lv' := [(3, .int (nI 1)), (2, .int (nI 0)), (0, .ref (ad 0)), (1, .int (nI 1))]) hx hb dX5_count_70 hl (k := 0) rfl (by decide) (by decide) rfl (fun ls hl => ?_)
  refine lv_goto (tgt := 9) hx hb dX5_count_73 (by decide) ?_
  refine lv_iload_n hx hb dX5_count_9 rfl (lv_at hl 0 rfl) ?_
  refine lv_bipush (v := (nI 8)) hx hb dX5_count_10 (by decide) ?_
  refine lv_icmp_ge (tgt := 76) hx hb dX5_count_12 (by decide) (fun c => absurd c (by decide)) (fun _ => ?_)
  refine lv_iload_n hx hb dX5_count_15 rfl (lv_at hl 3 rfl) ?_
  refine lv_if_ne (tgt := 33) hx hb dX5_count_16 (by decide) (fun _ => ?_) (fun c => absurd c (by decide))
  refine lv_iload_n hx hb dX5_count_33 rfl (lv_at hl 3 rfl) ?_
  refine lv_iconst (v := (nI 5)) hx hb dX5_count_34 (by decide) ?_
  refine lv_icmp_ne (tgt := 52) hx hb dX5_count_35 (by decide) (fun _ => ?_) (fun c => absurd c (by decide))
  refine lv_iload_n hx hb dX5_count_52 rfl (lv_at hl 3 rfl) ?_
  refine lv_bipush (v := (nI 6)) hx hb dX5_count_53 (by decide) ?_
  refine lv_icmp_ne (tgt := 70) hx hb dX5_count_55 (by decide) (fun _ => ?_) (fun c => absurd c (by decide))
  refine lv_iinc (v := (nI 2)) (lv' := [(3, .int (nI 2)), (2, .int (nI 0)), (0, .ref (ad 0)), (1, .int (nI 1))]) hx hb dX5_count_70 hl (k := 0) rfl (by decide) (by decide) rfl (fun ls hl => ?_)
  refine lv_goto (tgt := 9) hx hb dX5_count_73 (by decide) ?_
  refine lv_iload_n hx hb dX5_count_9 rfl (lv_at hl 0 rfl) ?_
  refine lv_bipush (v := (nI 8)) hx hb dX5_count_10 (by decide) ?_
  refine lv_icmp_ge (tgt := 76) hx hb dX5_count_12 (by decide) (fun c => absurd c (by decide)) (fun _ => ?_)
  refine lv_iload_n hx hb dX5_count_15 rfl (lv_at hl 3 rfl) ?_
  refine lv_if_ne (tgt := 33) hx hb dX5_count_16 (by decide) (fun _ => ?_) (fun c => absurd c (by decide))
  refine lv_iload_n hx hb dX5_count_33 rfl (lv_at hl 3 rfl) ?_
  refine lv_iconst (v := (nI 5)) hx hb dX5_count_34 (by decide) ?_
  refine lv_icmp_ne (tgt := 52) hx hb dX5_count_35 (by decide) (fun _ => ?_) (fun c => absurd c (by decide))
  refine lv_iload_n hx hb dX5_count_52 rfl (lv_at hl 3 rfl) ?_
  refine lv_bipush (v := (nI 6)) hx hb dX5_count_53 (by decide) ?_
  refine lv_icmp_ne (tgt := 70) hx hb dX5_count_55 (by decide) (fun _ => ?_) (fun c => absurd c (by decide))
  refine lv_iinc (v := (nI 3)) (lv' := [(3, .int (nI 3)), (2, .int (nI 0)), (0, .ref (ad 0)), (1, .int (nI 1))]) hx hb dX5_count_70 hl (k := 0) rfl (by decide) (by decide) rfl (fun ls hl => ?_)
  refine lv_goto (tgt := 9) hx hb dX5_count_73 (by decide) ?_
  refine lv_iload_n hx hb dX5_count_9 rfl (lv_at hl 0 rfl) ?_
  refine lv_bipush (v := (nI 8)) hx hb dX5_count_10 (by decide) ?_
  refine lv_icmp_ge (tgt := 76) hx hb dX5_count_12 (by decide) (fun c => absurd c (by decide)) (fun _ => ?_)
  refine lv_iload_n hx hb dX5_count_15 rfl (lv_at hl 3 rfl) ?_
  refine lv_if_ne (tgt := 33) hx hb dX5_count_16 (by decide) (fun _ => ?_) (fun c => absurd c (by decide))
  refine lv_iload_n hx hb dX5_count_33 rfl (lv_at hl 3 rfl) ?_
  refine lv_iconst (v := (nI 5)) hx hb dX5_count_34 (by decide) ?_
  refine lv_icmp_ne (tgt := 52) hx hb dX5_count_35 (by decide) (fun _ => ?_) (fun c => absurd c (by decide))
  refine lv_iload_n hx hb dX5_count_52 rfl (lv_at hl 3 rfl) ?_
  refine lv_bipush (v := (nI 6)) hx hb dX5_count_53 (by decide) ?_
  refine lv_icmp_ne (tgt := 70) hx hb dX5_count_55 (by decide) (fun _ => ?_) (fun c => absurd c (by decide))
  refine lv_iinc (v := (nI 4)) (lv' := [(3, .int (nI 4)), (2, .int (nI 0)), (0, .ref (ad 0)), (1, .int (nI 1))]) hx hb dX5_count_70 hl (k := 0) rfl (by decide) (by decide) rfl (fun ls hl => ?_)
  refine lv_goto (tgt := 9) hx hb dX5_count_73 (by decide) ?_
  refine lv_iload_n hx hb dX5_count_9 rfl (lv_at hl 0 rfl) ?_
  refine lv_bipush (v := (nI 8)) hx hb dX5_count_10 (by decide) ?_
  refine lv_icmp_ge (tgt := 76) hx hb dX5_count_12 (by decide) (fun c => absurd c (by decide)) (fun _ => ?_)
  refine lv_iload_n hx hb dX5_count_15 rfl (lv_at hl 3 rfl) ?_
  refine lv_if_ne (tgt := 33) hx hb dX5_count_16 (by decide) (fun _ => ?_) (fun c => absurd c (by decide))
  refine lv_iload_n hx hb dX5_count_33 rfl (lv_at hl 3 rfl) ?_
  refine lv_iconst (v := (nI 5)) hx hb dX5_count_34 (by decide) ?_
  refine lv_icmp_ne (tgt := 52) hx hb dX5_count_35 (by decide) (fun _ => ?_) (fun c => absurd c (by decide))
  refine lv_iload_n hx hb dX5_count_52 rfl (lv_at hl 3 rfl) ?_
  refine lv_bipush (v := (nI 6)) hx hb dX5_count_53 (by decide) ?_
  refine lv_icmp_ne (tgt := 70) hx hb dX5_count_55 (by decide) (fun _ => ?_) (fun c => absurd c (by decide))
  refine lv_iinc (v := (nI 5)) (lv' := [(3, .int (nI 5)), (2, .int (nI 0)), (0, .ref (ad 0)), (1, .int (nI 1))]) hx hb dX5_count_70 hl (k := 0) rfl (by decide) (by decide) rfl (fun ls hl => ?_)
  refine lv_goto (tgt := 9) hx hb dX5_count_73 (by decide) ?_
  refine lv_iload_n hx hb dX5_count_9 rfl (lv_at hl 0 rfl) ?_
  refine lv_bipush (v := (nI 8)) hx hb dX5_count_10 (by decide) ?_
  refine lv_icmp_ge (tgt := 76) hx hb dX5_count_12 (by decide) (fun c => absurd c (by decide)) (fun _ => ?_)
  refine lv_iload_n hx hb dX5_count_15 rfl (lv_at hl 3 rfl) ?_
  refine lv_if_ne (tgt := 33) hx hb dX5_count_16 (by decide) (fun _ => ?_) (fun c => absurd c (by decide))
  refine lv_iload_n hx hb dX5_count_33 rfl (lv_at hl 3 rfl) ?_
  refine lv_iconst (v := (nI 5)) hx hb dX5_count_34 (by decide) ?_
  refine lv_icmp_ne (tgt := 52) hx hb dX5_count_35 (by decide) (fun _ => ?_) (fun c => absurd c (by decide))
  refine lv_iload_n hx hb dX5_count_52 rfl (lv_at hl 3 rfl) ?_
  refine lv_bipush (v := (nI 6)) hx hb dX5_count_53 (by decide) ?_
  refine lv_icmp_ne (tgt := 70) hx hb dX5_count_55 (by decide) (fun _ => ?_) (fun c => absurd c (by decide))
  refine lv_iinc (v := (nI 6)) (lv' := [(3, .int (nI 6)), (2, .int (nI 0)), (0, .ref (ad 0)), (1, .int (nI 1))]) hx hb dX5_count_70 hl (k := 0) rfl (by decide) (by decide) rfl (fun ls hl => ?_)
  refine lv_goto (tgt := 9) hx hb dX5_count_73 (by decide) ?_
  refine lv_iload_n hx hb dX5_count_9 rfl (lv_at hl 0 rfl) ?_
  refine lv_bipush (v := (nI 8)) hx hb dX5_count_10 (by decide) ?_
  refine lv_icmp_ge (tgt := 76) hx hb dX5_count_12 (by decide) (fun c => absurd c (by decide)) (fun _ => ?_)
  refine lv_iload_n hx hb dX5_count_15 rfl (lv_at hl 3 rfl) ?_
  refine lv_if_ne (tgt := 33) hx hb dX5_count_16 (by decide) (fun _ => ?_) (fun c => absurd c (by decide))
  refine lv_iload_n hx hb dX5_count_33 rfl (lv_at hl 3 rfl) ?_
  refine lv_iconst (v := (nI 5)) hx hb dX5_count_34 (by decide) ?_
  refine lv_icmp_ne (tgt := 52) hx hb dX5_count_35 (by decide) (fun _ => ?_) (fun c => absurd c (by decide))
  refine lv_iload_n hx hb dX5_count_52 rfl (lv_at hl 3 rfl) ?_
  refine lv_bipush (v := (nI 6)) hx hb dX5_count_53 (by decide) ?_
  refine lv_icmp_ne (tgt := 70) hx hb dX5_count_55 (by decide) (fun _ => ?_) (fun c => absurd c (by decide))
  refine lv_iinc (v := (nI 7)) (lv' := [(3, .int (nI 7)), (2, .int (nI 0)), (0, .ref (ad 0)), (1, .int (nI 1))]) hx hb dX5_count_70 hl (k := 0) rfl (by decide) (by decide) rfl (fun ls hl => ?_)
  refine lv_goto (tgt := 9) hx hb dX5_count_73 (by decide) ?_
  refine lv_iload_n hx hb dX5_count_9 rfl (lv_at hl 0 rfl) ?_
  refine lv_bipush (v := (nI 8)) hx hb dX5_count_10 (by decide) ?_
  refine lv_icmp_ge (tgt := 76) hx hb dX5_count_12 (by decide) (fun c => absurd c (by decide)) (fun _ => ?_)
  refine lv_iload_n hx hb dX5_count_15 rfl (lv_at hl 3 rfl) ?_
  refine lv_if_ne (tgt := 33) hx hb dX5_count_16 (by decide) (fun _ => ?_) (fun c => absurd c (by decide))
  refine lv_iload_n hx hb dX5_count_33 rfl (lv_at hl 3 rfl) ?_
  refine lv_iconst (v := (nI 5)) hx hb dX5_count_34 (by decide) ?_
  refine lv_icmp_ne (tgt := 52) hx hb dX5_count_35 (by decide) (fun _ => ?_) (fun c => absurd c (by decide))
  refine lv_iload_n hx hb dX5_count_52 rfl (lv_at hl 3 rfl) ?_
  refine lv_bipush (v := (nI 6)) hx hb dX5_count_53 (by decide) ?_
  refine lv_icmp_ne (tgt := 70) hx hb dX5_count_55 (by decide) (fun _ => ?_) (fun c => absurd c (by decide))
  refine lv_iinc (v := (nI 8)) (lv' := [(3, .int (nI 8)), (2, .int (nI 0)), (0, .ref (ad 0)), (1, .int (nI 1))]) hx hb dX5_count_70 hl (k := 0) rfl (by decide) (by decide) rfl (fun ls hl => ?_)
  refine lv_goto (tgt := 9) hx hb dX5_count_73 (by decide) ?_
  refine lv_iload_n hx hb dX5_count_9 rfl (lv_at hl 0 rfl) ?_
  refine lv_bipush (v := (nI 8)) hx hb dX5_count_10 (by decide) ?_
  refine lv_icmp_ge (tgt := 76) hx hb dX5_count_12 (by decide) (fun _ => ?_) (fun c => absurd (by decide) c)
  refine lv_iload_n hx hb dX5_count_76 rfl (lv_at hl 3 rfl) ?_
  refine lv_tableIn (tgt := 126) hx hb dX5_count_77 (by decide) (by decide) rfl (by decide) ?_
  refine lv_aload_n hx hb dX5_count_126 rfl (lv_at hl 2 rfl) ?_
  refine tr_g_guesses hx hb hts inB_X5 hown hK hP (hts _ mb_649) dX5_count_127 ?_
  refine kq_ti (y := (u.2.1 13 0)) (by simp [tm_L, tm_I, tm_D]) ?_
  exact kq_iret hx hb hr hlk hP hD hS dX5_count_130
set_option maxHeartbeats 4000000 in
set_option maxRecDepth 100000 in
theorem p_count_2 (u : tm_S)  : kr_M l dC dI ad cc yX5_count wsX5_count { frames := 0, cells := 0, slots := 0, locals := 0 } [.ref (ad 0), .int (nI 2)] u (tm_I u 14 0 (nI 0)) (some (.int (u.2.1 9 0))) := by
  refine kq_ofW (cc := cX5_count) (maxL := 4) (ret := (some .int)) (R0 := RX5) (by decide) rfl rfl (Nat.le_of_ble_eq_true rfl) ?_
  intro p e s m below meth c A ls hx hb hr hlk hml hown hts hP hK hD hA hG hS hl
  have hl : lv_has ls 4 [(0, .ref (ad 0)), (1, .int (nI 2))] := hl
  refine lv_aload_n hx hb dX5_count_0 rfl (lv_at hl 0 rfl) ?_
  refine lv_iconst (v := (nI 0)) hx hb dX5_count_1 (by decide) ?_
  refine tr_p_thrown hx hb hts inB_X5 hown hK hP hD hS (hts _ mb_652) dX5_count_2 (fun H locs hP hD hS => ?_)
  refine lv_iconst (v := (nI 0)) hx hb dX5_count_5 (by decide) ?_
  refine lv_istore_n (lv' := [(2, .int (nI 0)), (0, .ref (ad 0)), (1, .int (nI 2))]) hx hb dX5_count_6 rfl hl (by decide) rfl (fun ls hl => ?_)
  refine lv_iconst (v := (nI 0)) hx hb dX5_count_7 (by decide) ?_
  refine lv_istore_n (lv' := [(3, .int (nI 0)), (2, .int (nI 0)), (0, .ref (ad 0)), (1, .int (nI 2))]) hx hb dX5_count_8 rfl hl (by decide) rfl (fun ls hl => ?_)
  refine lv_iload_n hx hb dX5_count_9 rfl (lv_at hl 0 rfl) ?_
  refine lv_bipush (v := (nI 8)) hx hb dX5_count_10 (by decide) ?_
  refine lv_icmp_ge (tgt := 76) hx hb dX5_count_12 (by decide) (fun c => absurd c (by decide)) (fun _ => ?_)
  refine lv_iload_n hx hb dX5_count_15 rfl (lv_at hl 3 rfl) ?_
  refine lv_if_ne (tgt := 33) hx hb dX5_count_16 (by decide) (fun _ => ?_) (fun c => absurd c (by decide))
  refine lv_iload_n hx hb dX5_count_33 rfl (lv_at hl 3 rfl) ?_
  refine lv_iconst (v := (nI 5)) hx hb dX5_count_34 (by decide) ?_
  refine lv_icmp_ne (tgt := 52) hx hb dX5_count_35 (by decide) (fun _ => ?_) (fun c => absurd c (by decide))
  refine lv_iload_n hx hb dX5_count_52 rfl (lv_at hl 3 rfl) ?_
  refine lv_bipush (v := (nI 6)) hx hb dX5_count_53 (by decide) ?_
  refine lv_icmp_ne (tgt := 70) hx hb dX5_count_55 (by decide) (fun _ => ?_) (fun c => absurd c (by decide))
  refine lv_iinc (v := (nI 1)) (lv' := [(3, .int (nI 1)), (2, .int (nI 0)), (0, .ref (ad 0)), (1, .int (nI 2))]) hx hb dX5_count_70 hl (k := 0) rfl (by decide) (by decide) rfl (fun ls hl => ?_)
  refine lv_goto (tgt := 9) hx hb dX5_count_73 (by decide) ?_
  refine lv_iload_n hx hb dX5_count_9 rfl (lv_at hl 0 rfl) ?_
  refine lv_bipush (v := (nI 8)) hx hb dX5_count_10 (by decide) ?_
  refine lv_icmp_ge (tgt := 76) hx hb dX5_count_12 (by decide) (fun c => absurd c (by decide)) (fun _ => ?_)
  refine lv_iload_n hx hb dX5_count_15 rfl (lv_at hl 3 rfl) ?_
  refine lv_if_ne (tgt := 33) hx hb dX5_count_16 (by decide) (fun _ => ?_) (fun c => absurd c (by decide))
  refine lv_iload_n hx hb dX5_count_33 rfl (lv_at hl 3 rfl) ?_
  refine lv_iconst (v := (nI 5)) hx hb dX5_count_34 (by decide) ?_
  refine lv_icmp_ne (tgt := 52) hx hb dX5_count_35 (by decide) (fun _ => ?_) (fun c => absurd c (by decide))
  refine lv_iload_n hx hb dX5_count_52 rfl (lv_at hl 3 rfl) ?_
  refine lv_bipush (v := (nI 6)) hx hb dX5_count_53 (by decide) ?_
  refine lv_icmp_ne (tgt := 70) hx hb dX5_count_55 (by decide) (fun _ => ?_) (fun c => absurd c (by decide))
  refine lv_iinc (v := (nI 2)) (lv' := [(3, .int (nI 2)), (2, .int (nI 0)), (0, .ref (ad 0)), (1, .int (nI 2))]) hx hb dX5_count_70 hl (k := 0) rfl (by decide) (by decide) rfl (fun ls hl => ?_)
  refine lv_goto (tgt := 9) hx hb dX5_count_73 (by decide) ?_
  refine lv_iload_n hx hb dX5_count_9 rfl (lv_at hl 0 rfl) ?_
  refine lv_bipush (v := (nI 8)) hx hb dX5_count_10 (by decide) ?_
  refine lv_icmp_ge (tgt := 76) hx hb dX5_count_12 (by decide) (fun c => absurd c (by decide)) (fun _ => ?_)
  refine lv_iload_n hx hb dX5_count_15 rfl (lv_at hl 3 rfl) ?_
  refine lv_if_ne (tgt := 33) hx hb dX5_count_16 (by decide) (fun _ => ?_) (fun c => absurd c (by decide))
  refine lv_iload_n hx hb dX5_count_33 rfl (lv_at hl 3 rfl) ?_
  refine lv_iconst (v := (nI 5)) hx hb dX5_count_34 (by decide) ?_
  refine lv_icmp_ne (tgt := 52) hx hb dX5_count_35 (by decide) (fun _ => ?_) (fun c => absurd c (by decide))
  refine lv_iload_n hx hb dX5_count_52 rfl (lv_at hl 3 rfl) ?_
  refine lv_bipush (v := (nI 6)) hx hb dX5_count_53 (by decide) ?_
  refine lv_icmp_ne (tgt := 70) hx hb dX5_count_55 (by decide) (fun _ => ?_) (fun c => absurd c (by decide))
  refine lv_iinc (v := (nI 3)) (lv' := [(3, .int (nI 3)), (2, .int (nI 0)), (0, .ref (ad 0)), (1, .int (nI 2))]) hx hb dX5_count_70 hl (k := 0) rfl (by decide) (by decide) rfl (fun ls hl => ?_)
  refine lv_goto (tgt := 9) hx hb dX5_count_73 (by decide) ?_
  refine lv_iload_n hx hb dX5_count_9 rfl (lv_at hl 0 rfl) ?_
  refine lv_bipush (v := (nI 8)) hx hb dX5_count_10 (by decide) ?_
  refine lv_icmp_ge (tgt := 76) hx hb dX5_count_12 (by decide) (fun c => absurd c (by decide)) (fun _ => ?_)
  refine lv_iload_n hx hb dX5_count_15 rfl (lv_at hl 3 rfl) ?_
  refine lv_if_ne (tgt := 33) hx hb dX5_count_16 (by decide) (fun _ => ?_) (fun c => absurd c (by decide))
  refine lv_iload_n hx hb dX5_count_33 rfl (lv_at hl 3 rfl) ?_
  refine lv_iconst (v := (nI 5)) hx hb dX5_count_34 (by decide) ?_
  refine lv_icmp_ne (tgt := 52) hx hb dX5_count_35 (by decide) (fun _ => ?_) (fun c => absurd c (by decide))
  refine lv_iload_n hx hb dX5_count_52 rfl (lv_at hl 3 rfl) ?_
  refine lv_bipush (v := (nI 6)) hx hb dX5_count_53 (by decide) ?_
  refine lv_icmp_ne (tgt := 70) hx hb dX5_count_55 (by decide) (fun _ => ?_) (fun c => absurd c (by decide))
  refine lv_iinc (v := (nI 4)) (lv' := [(3, .int (nI 4)), (2, .int (nI 0)), (0, .ref (ad 0)), (1, .int (nI 2))]) hx hb dX5_count_70 hl (k := 0) rfl (by decide) (by decide) rfl (fun ls hl => ?_)
  refine lv_goto (tgt := 9) hx hb dX5_count_73 (by decide) ?_
  refine lv_iload_n hx hb dX5_count_9 rfl (lv_at hl 0 rfl) ?_
  refine lv_bipush (v := (nI 8)) hx hb dX5_count_10 (by decide) ?_
  refine lv_icmp_ge (tgt := 76) hx hb dX5_count_12 (by decide) (fun c => absurd c (by decide)) (fun _ => ?_)
  refine lv_iload_n hx hb dX5_count_15 rfl (lv_at hl 3 rfl) ?_
  refine lv_if_ne (tgt := 33) hx hb dX5_count_16 (by decide) (fun _ => ?_) (fun c => absurd c (by decide))
  refine lv_iload_n hx hb dX5_count_33 rfl (lv_at hl 3 rfl) ?_
  refine lv_iconst (v := (nI 5)) hx hb dX5_count_34 (by decide) ?_
  refine lv_icmp_ne (tgt := 52) hx hb dX5_count_35 (by decide) (fun _ => ?_) (fun c => absurd c (by decide))
  refine lv_iload_n hx hb dX5_count_52 rfl (lv_at hl 3 rfl) ?_
  refine lv_bipush (v := (nI 6)) hx hb dX5_count_53 (by decide) ?_
  refine lv_icmp_ne (tgt := 70) hx hb dX5_count_55 (by decide) (fun _ => ?_) (fun c => absurd c (by decide))
  refine lv_iinc (v := (nI 5)) (lv' := [(3, .int (nI 5)), (2, .int (nI 0)), (0, .ref (ad 0)), (1, .int (nI 2))]) hx hb dX5_count_70 hl (k := 0) rfl (by decide) (by decide) rfl (fun ls hl => ?_)
  refine lv_goto (tgt := 9) hx hb dX5_count_73 (by decide) ?_
  refine lv_iload_n hx hb dX5_count_9 rfl (lv_at hl 0 rfl) ?_
  refine lv_bipush (v := (nI 8)) hx hb dX5_count_10 (by decide) ?_
  refine lv_icmp_ge (tgt := 76) hx hb dX5_count_12 (by decide) (fun c => absurd c (by decide)) (fun _ => ?_)
  refine lv_iload_n hx hb dX5_count_15 rfl (lv_at hl 3 rfl) ?_
  refine lv_if_ne (tgt := 33) hx hb dX5_count_16 (by decide) (fun _ => ?_) (fun c => absurd c (by decide))
  refine lv_iload_n hx hb dX5_count_33 rfl (lv_at hl 3 rfl) ?_
  refine lv_iconst (v := (nI 5)) hx hb dX5_count_34 (by decide) ?_
  refine lv_icmp_ne (tgt := 52) hx hb dX5_count_35 (by decide) (fun _ => ?_) (fun c => absurd c (by decide))
  refine lv_iload_n hx hb dX5_count_52 rfl (lv_at hl 3 rfl) ?_
  refine lv_bipush (v := (nI 6)) hx hb dX5_count_53 (by decide) ?_
  refine lv_icmp_ne (tgt := 70) hx hb dX5_count_55 (by decide) (fun _ => ?_) (fun c => absurd c (by decide))
  refine lv_iinc (v := (nI 6)) (lv' := [(3, .int (nI 6)), (2, .int (nI 0)), (0, .ref (ad 0)), (1, .int (nI 2))]) hx hb dX5_count_70 hl (k := 0) rfl (by decide) (by decide) rfl (fun ls hl => ?_)
  refine lv_goto (tgt := 9) hx hb dX5_count_73 (by decide) ?_
  refine lv_iload_n hx hb dX5_count_9 rfl (lv_at hl 0 rfl) ?_
  refine lv_bipush (v := (nI 8)) hx hb dX5_count_10 (by decide) ?_
  refine lv_icmp_ge (tgt := 76) hx hb dX5_count_12 (by decide) (fun c => absurd c (by decide)) (fun _ => ?_)
  refine lv_iload_n hx hb dX5_count_15 rfl (lv_at hl 3 rfl) ?_
  refine lv_if_ne (tgt := 33) hx hb dX5_count_16 (by decide) (fun _ => ?_) (fun c => absurd c (by decide))
  refine lv_iload_n hx hb dX5_count_33 rfl (lv_at hl 3 rfl) ?_
  refine lv_iconst (v := (nI 5)) hx hb dX5_count_34 (by decide) ?_
  refine lv_icmp_ne (tgt := 52) hx hb dX5_count_35 (by decide) (fun _ => ?_) (fun c => absurd c (by decide))
  refine lv_iload_n hx hb dX5_count_52 rfl (lv_at hl 3 rfl) ?_
  refine lv_bipush (v := (nI 6)) hx hb dX5_count_53 (by decide) ?_
  refine lv_icmp_ne (tgt := 70) hx hb dX5_count_55 (by decide) (fun _ => ?_) (fun c => absurd c (by decide))
  refine lv_iinc (v := (nI 7)) (lv' := [(3, .int (nI 7)), (2, .int (nI 0)), (0, .ref (ad 0)), (1, .int (nI 2))]) hx hb dX5_count_70 hl (k := 0) rfl (by decide) (by decide) rfl (fun ls hl => ?_)
  refine lv_goto (tgt := 9) hx hb dX5_count_73 (by decide) ?_
  refine lv_iload_n hx hb dX5_count_9 rfl (lv_at hl 0 rfl) ?_
  refine lv_bipush (v := (nI 8)) hx hb dX5_count_10 (by decide) ?_
  refine lv_icmp_ge (tgt := 76) hx hb dX5_count_12 (by decide) (fun c => absurd c (by decide)) (fun _ => ?_)
  refine lv_iload_n hx hb dX5_count_15 rfl (lv_at hl 3 rfl) ?_
  refine lv_if_ne (tgt := 33) hx hb dX5_count_16 (by decide) (fun _ => ?_) (fun c => absurd c (by decide))
  refine lv_iload_n hx hb dX5_count_33 rfl (lv_at hl 3 rfl) ?_
  refine lv_iconst (v := (nI 5)) hx hb dX5_count_34 (by decide) ?_
  refine lv_icmp_ne (tgt := 52) hx hb dX5_count_35 (by decide) (fun _ => ?_) (fun c => absurd c (by decide))
  refine lv_iload_n hx hb dX5_count_52 rfl (lv_at hl 3 rfl) ?_
  refine lv_bipush (v := (nI 6)) hx hb dX5_count_53 (by decide) ?_
  refine lv_icmp_ne (tgt := 70) hx hb dX5_count_55 (by decide) (fun _ => ?_) (fun c => absurd c (by decide))
  refine lv_iinc (v := (nI 8)) (lv' := [(3, .int (nI 8)), (2, .int (nI 0)), (0, .ref (ad 0)), (1, .int (nI 2))]) hx hb dX5_count_70 hl (k := 0) rfl (by decide) (by decide) rfl (fun ls hl => ?_)
  refine lv_goto (tgt := 9) hx hb dX5_count_73 (by decide) ?_
  refine lv_iload_n hx hb dX5_count_9 rfl (lv_at hl 0 rfl) ?_
  refine lv_bipush (v := (nI 8)) hx hb dX5_count_10 (by decide) ?_
  refine lv_icmp_ge (tgt := 76) hx hb dX5_count_12 (by decide) (fun _ => ?_) (fun c => absurd (by decide) c)
  refine lv_iload_n hx hb dX5_count_76 rfl (lv_at hl 3 rfl) ?_
  refine lv_tableIn (tgt := 131) hx hb dX5_count_77 (by decide) (by decide) rfl (by decide) ?_
  refine lv_aload_n hx hb dX5_count_131 rfl (lv_at hl 2 rfl) ?_
  refine tr_g_pcrCount hx hb hts inB_X5 hown hK hP (hts _ mb_648) dX5_count_132 ?_
  refine kq_ti (y := (u.2.1 9 0)) (by simp [tm_L, tm_I, tm_D]) ?_
  exact kq_iret hx hb hr hlk hP hD hS dX5_count_135
set_option maxHeartbeats 4000000 in
set_option maxRecDepth 100000 in
theorem p_count_3 (u : tm_S)  : kr_M l dC dI ad cc yX5_count wsX5_count { frames := 0, cells := 0, slots := 0, locals := 0 } [.ref (ad 0), .int (nI 3)] u (tm_I u 14 0 (nI 0)) (some (.int (u.2.1 10 0))) := by
  refine kq_ofW (cc := cX5_count) (maxL := 4) (ret := (some .int)) (R0 := RX5) (by decide) rfl rfl (Nat.le_of_ble_eq_true rfl) ?_
  intro p e s m below meth c A ls hx hb hr hlk hml hown hts hP hK hD hA hG hS hl
  have hl : lv_has ls 4 [(0, .ref (ad 0)), (1, .int (nI 3))] := hl
  refine lv_aload_n hx hb dX5_count_0 rfl (lv_at hl 0 rfl) ?_
  refine lv_iconst (v := (nI 0)) hx hb dX5_count_1 (by decide) ?_
  refine tr_p_thrown hx hb hts inB_X5 hown hK hP hD hS (hts _ mb_652) dX5_count_2 (fun H locs hP hD hS => ?_)
  refine lv_iconst (v := (nI 0)) hx hb dX5_count_5 (by decide) ?_
  refine lv_istore_n (lv' := [(2, .int (nI 0)), (0, .ref (ad 0)), (1, .int (nI 3))]) hx hb dX5_count_6 rfl hl (by decide) rfl (fun ls hl => ?_)
  refine lv_iconst (v := (nI 0)) hx hb dX5_count_7 (by decide) ?_
  refine lv_istore_n (lv' := [(3, .int (nI 0)), (2, .int (nI 0)), (0, .ref (ad 0)), (1, .int (nI 3))]) hx hb dX5_count_8 rfl hl (by decide) rfl (fun ls hl => ?_)
  refine lv_iload_n hx hb dX5_count_9 rfl (lv_at hl 0 rfl) ?_
  refine lv_bipush (v := (nI 8)) hx hb dX5_count_10 (by decide) ?_
  refine lv_icmp_ge (tgt := 76) hx hb dX5_count_12 (by decide) (fun c => absurd c (by decide)) (fun _ => ?_)
  refine lv_iload_n hx hb dX5_count_15 rfl (lv_at hl 3 rfl) ?_
  refine lv_if_ne (tgt := 33) hx hb dX5_count_16 (by decide) (fun _ => ?_) (fun c => absurd c (by decide))
  refine lv_iload_n hx hb dX5_count_33 rfl (lv_at hl 3 rfl) ?_
  refine lv_iconst (v := (nI 5)) hx hb dX5_count_34 (by decide) ?_
  refine lv_icmp_ne (tgt := 52) hx hb dX5_count_35 (by decide) (fun _ => ?_) (fun c => absurd c (by decide))
  refine lv_iload_n hx hb dX5_count_52 rfl (lv_at hl 3 rfl) ?_
  refine lv_bipush (v := (nI 6)) hx hb dX5_count_53 (by decide) ?_
  refine lv_icmp_ne (tgt := 70) hx hb dX5_count_55 (by decide) (fun _ => ?_) (fun c => absurd c (by decide))
  refine lv_iinc (v := (nI 1)) (lv' := [(3, .int (nI 1)), (2, .int (nI 0)), (0, .ref (ad 0)), (1, .int (nI 3))]) hx hb dX5_count_70 hl (k := 0) rfl (by decide) (by decide) rfl (fun ls hl => ?_)
  refine lv_goto (tgt := 9) hx hb dX5_count_73 (by decide) ?_
  refine lv_iload_n hx hb dX5_count_9 rfl (lv_at hl 0 rfl) ?_
  refine lv_bipush (v := (nI 8)) hx hb dX5_count_10 (by decide) ?_
  refine lv_icmp_ge (tgt := 76) hx hb dX5_count_12 (by decide) (fun c => absurd c (by decide)) (fun _ => ?_)
  refine lv_iload_n hx hb dX5_count_15 rfl (lv_at hl 3 rfl) ?_
  refine lv_if_ne (tgt := 33) hx hb dX5_count_16 (by decide) (fun _ => ?_) (fun c => absurd c (by decide))
  refine lv_iload_n hx hb dX5_count_33 rfl (lv_at hl 3 rfl) ?_
  refine lv_iconst (v := (nI 5)) hx hb dX5_count_34 (by decide) ?_
  refine lv_icmp_ne (tgt := 52) hx hb dX5_count_35 (by decide) (fun _ => ?_) (fun c => absurd c (by decide))
  refine lv_iload_n hx hb dX5_count_52 rfl (lv_at hl 3 rfl) ?_
  refine lv_bipush (v := (nI 6)) hx hb dX5_count_53 (by decide) ?_
  refine lv_icmp_ne (tgt := 70) hx hb dX5_count_55 (by decide) (fun _ => ?_) (fun c => absurd c (by decide))
  refine lv_iinc (v := (nI 2)) (lv' := [(3, .int (nI 2)), (2, .int (nI 0)), (0, .ref (ad 0)), (1, .int (nI 3))]) hx hb dX5_count_70 hl (k := 0) rfl (by decide) (by decide) rfl (fun ls hl => ?_)
  refine lv_goto (tgt := 9) hx hb dX5_count_73 (by decide) ?_
  refine lv_iload_n hx hb dX5_count_9 rfl (lv_at hl 0 rfl) ?_
  refine lv_bipush (v := (nI 8)) hx hb dX5_count_10 (by decide) ?_
  refine lv_icmp_ge (tgt := 76) hx hb dX5_count_12 (by decide) (fun c => absurd c (by decide)) (fun _ => ?_)
  refine lv_iload_n hx hb dX5_count_15 rfl (lv_at hl 3 rfl) ?_
  refine lv_if_ne (tgt := 33) hx hb dX5_count_16 (by decide) (fun _ => ?_) (fun c => absurd c (by decide))
  refine lv_iload_n hx hb dX5_count_33 rfl (lv_at hl 3 rfl) ?_
  refine lv_iconst (v := (nI 5)) hx hb dX5_count_34 (by decide) ?_
  refine lv_icmp_ne (tgt := 52) hx hb dX5_count_35 (by decide) (fun _ => ?_) (fun c => absurd c (by decide))
  refine lv_iload_n hx hb dX5_count_52 rfl (lv_at hl 3 rfl) ?_
  refine lv_bipush (v := (nI 6)) hx hb dX5_count_53 (by decide) ?_
  refine lv_icmp_ne (tgt := 70) hx hb dX5_count_55 (by decide) (fun _ => ?_) (fun c => absurd c (by decide))
  refine lv_iinc (v := (nI 3)) (lv' := [(3, .int (nI 3)), (2, .int (nI 0)), (0, .ref (ad 0)), (1, .int (nI 3))]) hx hb dX5_count_70 hl (k := 0) rfl (by decide) (by decide) rfl (fun ls hl => ?_)
  refine lv_goto (tgt := 9) hx hb dX5_count_73 (by decide) ?_
  refine lv_iload_n hx hb dX5_count_9 rfl (lv_at hl 0 rfl) ?_
  refine lv_bipush (v := (nI 8)) hx hb dX5_count_10 (by decide) ?_
  refine lv_icmp_ge (tgt := 76) hx hb dX5_count_12 (by decide) (fun c => absurd c (by decide)) (fun _ => ?_)
  refine lv_iload_n hx hb dX5_count_15 rfl (lv_at hl 3 rfl) ?_
  refine lv_if_ne (tgt := 33) hx hb dX5_count_16 (by decide) (fun _ => ?_) (fun c => absurd c (by decide))
  refine lv_iload_n hx hb dX5_count_33 rfl (lv_at hl 3 rfl) ?_
  refine lv_iconst (v := (nI 5)) hx hb dX5_count_34 (by decide) ?_
  refine lv_icmp_ne (tgt := 52) hx hb dX5_count_35 (by decide) (fun _ => ?_) (fun c => absurd c (by decide))
  refine lv_iload_n hx hb dX5_count_52 rfl (lv_at hl 3 rfl) ?_
  refine lv_bipush (v := (nI 6)) hx hb dX5_count_53 (by decide) ?_
  refine lv_icmp_ne (tgt := 70) hx hb dX5_count_55 (by decide) (fun _ => ?_) (fun c => absurd c (by decide))
  refine lv_iinc (v := (nI 4)) (lv' := [(3, .int (nI 4)), (2, .int (nI 0)), (0, .ref (ad 0)), (1, .int (nI 3))]) hx hb dX5_count_70 hl (k := 0) rfl (by decide) (by decide) rfl (fun ls hl => ?_)
  refine lv_goto (tgt := 9) hx hb dX5_count_73 (by decide) ?_
  refine lv_iload_n hx hb dX5_count_9 rfl (lv_at hl 0 rfl) ?_
  refine lv_bipush (v := (nI 8)) hx hb dX5_count_10 (by decide) ?_
  refine lv_icmp_ge (tgt := 76) hx hb dX5_count_12 (by decide) (fun c => absurd c (by decide)) (fun _ => ?_)
  refine lv_iload_n hx hb dX5_count_15 rfl (lv_at hl 3 rfl) ?_
  refine lv_if_ne (tgt := 33) hx hb dX5_count_16 (by decide) (fun _ => ?_) (fun c => absurd c (by decide))
  refine lv_iload_n hx hb dX5_count_33 rfl (lv_at hl 3 rfl) ?_
  refine lv_iconst (v := (nI 5)) hx hb dX5_count_34 (by decide) ?_
  refine lv_icmp_ne (tgt := 52) hx hb dX5_count_35 (by decide) (fun _ => ?_) (fun c => absurd c (by decide))
  refine lv_iload_n hx hb dX5_count_52 rfl (lv_at hl 3 rfl) ?_
  refine lv_bipush (v := (nI 6)) hx hb dX5_count_53 (by decide) ?_
  refine lv_icmp_ne (tgt := 70) hx hb dX5_count_55 (by decide) (fun _ => ?_) (fun c => absurd c (by decide))
  refine lv_iinc (v := (nI 5)) (lv' := [(3, .int (nI 5)), (2, .int (nI 0)), (0, .ref (ad 0)), (1, .int (nI 3))]) hx hb dX5_count_70 hl (k := 0) rfl (by decide) (by decide) rfl (fun ls hl => ?_)
  refine lv_goto (tgt := 9) hx hb dX5_count_73 (by decide) ?_
  refine lv_iload_n hx hb dX5_count_9 rfl (lv_at hl 0 rfl) ?_
  refine lv_bipush (v := (nI 8)) hx hb dX5_count_10 (by decide) ?_
  refine lv_icmp_ge (tgt := 76) hx hb dX5_count_12 (by decide) (fun c => absurd c (by decide)) (fun _ => ?_)
  refine lv_iload_n hx hb dX5_count_15 rfl (lv_at hl 3 rfl) ?_
  refine lv_if_ne (tgt := 33) hx hb dX5_count_16 (by decide) (fun _ => ?_) (fun c => absurd c (by decide))
  refine lv_iload_n hx hb dX5_count_33 rfl (lv_at hl 3 rfl) ?_
  refine lv_iconst (v := (nI 5)) hx hb dX5_count_34 (by decide) ?_
  refine lv_icmp_ne (tgt := 52) hx hb dX5_count_35 (by decide) (fun _ => ?_) (fun c => absurd c (by decide))
  refine lv_iload_n hx hb dX5_count_52 rfl (lv_at hl 3 rfl) ?_
  refine lv_bipush (v := (nI 6)) hx hb dX5_count_53 (by decide) ?_
  refine lv_icmp_ne (tgt := 70) hx hb dX5_count_55 (by decide) (fun _ => ?_) (fun c => absurd c (by decide))
  refine lv_iinc (v := (nI 6)) (lv' := [(3, .int (nI 6)), (2, .int (nI 0)), (0, .ref (ad 0)), (1, .int (nI 3))]) hx hb dX5_count_70 hl (k := 0) rfl (by decide) (by decide) rfl (fun ls hl => ?_)
  refine lv_goto (tgt := 9) hx hb dX5_count_73 (by decide) ?_
  refine lv_iload_n hx hb dX5_count_9 rfl (lv_at hl 0 rfl) ?_
  refine lv_bipush (v := (nI 8)) hx hb dX5_count_10 (by decide) ?_
  refine lv_icmp_ge (tgt := 76) hx hb dX5_count_12 (by decide) (fun c => absurd c (by decide)) (fun _ => ?_)
  refine lv_iload_n hx hb dX5_count_15 rfl (lv_at hl 3 rfl) ?_
  refine lv_if_ne (tgt := 33) hx hb dX5_count_16 (by decide) (fun _ => ?_) (fun c => absurd c (by decide))
  refine lv_iload_n hx hb dX5_count_33 rfl (lv_at hl 3 rfl) ?_
  refine lv_iconst (v := (nI 5)) hx hb dX5_count_34 (by decide) ?_
  refine lv_icmp_ne (tgt := 52) hx hb dX5_count_35 (by decide) (fun _ => ?_) (fun c => absurd c (by decide))
  refine lv_iload_n hx hb dX5_count_52 rfl (lv_at hl 3 rfl) ?_
  refine lv_bipush (v := (nI 6)) hx hb dX5_count_53 (by decide) ?_
  refine lv_icmp_ne (tgt := 70) hx hb dX5_count_55 (by decide) (fun _ => ?_) (fun c => absurd c (by decide))
  refine lv_iinc (v := (nI 7)) (lv' := [(3, .int (nI 7)), (2, .int (nI 0)), (0, .ref (ad 0)), (1, .int (nI 3))]) hx hb dX5_count_70 hl (k := 0) rfl (by decide) (by decide) rfl (fun ls hl => ?_)
  refine lv_goto (tgt := 9) hx hb dX5_count_73 (by decide) ?_
  refine lv_iload_n hx hb dX5_count_9 rfl (lv_at hl 0 rfl) ?_
  refine lv_bipush (v := (nI 8)) hx hb dX5_count_10 (by decide) ?_
  refine lv_icmp_ge (tgt := 76) hx hb dX5_count_12 (by decide) (fun c => absurd c (by decide)) (fun _ => ?_)
  refine lv_iload_n hx hb dX5_count_15 rfl (lv_at hl 3 rfl) ?_
  refine lv_if_ne (tgt := 33) hx hb dX5_count_16 (by decide) (fun _ => ?_) (fun c => absurd c (by decide))
  refine lv_iload_n hx hb dX5_count_33 rfl (lv_at hl 3 rfl) ?_
  refine lv_iconst (v := (nI 5)) hx hb dX5_count_34 (by decide) ?_
  refine lv_icmp_ne (tgt := 52) hx hb dX5_count_35 (by decide) (fun _ => ?_) (fun c => absurd c (by decide))
  refine lv_iload_n hx hb dX5_count_52 rfl (lv_at hl 3 rfl) ?_
  refine lv_bipush (v := (nI 6)) hx hb dX5_count_53 (by decide) ?_
  refine lv_icmp_ne (tgt := 70) hx hb dX5_count_55 (by decide) (fun _ => ?_) (fun c => absurd c (by decide))
  refine lv_iinc (v := (nI 8)) (lv' := [(3, .int (nI 8)), (2, .int (nI 0)), (0, .ref (ad 0)), (1, .int (nI 3))]) hx hb dX5_count_70 hl (k := 0) rfl (by decide) (by decide) rfl (fun ls hl => ?_)
  refine lv_goto (tgt := 9) hx hb dX5_count_73 (by decide) ?_
  refine lv_iload_n hx hb dX5_count_9 rfl (lv_at hl 0 rfl) ?_
  refine lv_bipush (v := (nI 8)) hx hb dX5_count_10 (by decide) ?_
  refine lv_icmp_ge (tgt := 76) hx hb dX5_count_12 (by decide) (fun _ => ?_) (fun c => absurd (by decide) c)
  refine lv_iload_n hx hb dX5_count_76 rfl (lv_at hl 3 rfl) ?_
  refine lv_tableIn (tgt := 136) hx hb dX5_count_77 (by decide) (by decide) rfl (by decide) ?_
  refine lv_aload_n hx hb dX5_count_136 rfl (lv_at hl 2 rfl) ?_
  refine tr_g_power hx hb hts inB_X5 hown hK hP (hts _ mb_650) dX5_count_137 ?_
  refine kq_ti (y := (u.2.1 10 0)) (by simp [tm_L, tm_I, tm_D]) ?_
  exact kq_iret hx hb hr hlk hP hD hS dX5_count_140
set_option maxHeartbeats 4000000 in
set_option maxRecDepth 100000 in
theorem p_count_7 (u : tm_S)  : kr_M l dC dI ad cc yX5_count wsX5_count { frames := 0, cells := 0, slots := 0, locals := 0 } [.ref (ad 0), .int (nI 7)] u (tm_I u 14 0 (nI 0)) (some (.int (u.2.1 12 0))) := by
  refine kq_ofW (cc := cX5_count) (maxL := 4) (ret := (some .int)) (R0 := RX5) (by decide) rfl rfl (Nat.le_of_ble_eq_true rfl) ?_
  intro p e s m below meth c A ls hx hb hr hlk hml hown hts hP hK hD hA hG hS hl
  have hl : lv_has ls 4 [(0, .ref (ad 0)), (1, .int (nI 7))] := hl
  refine lv_aload_n hx hb dX5_count_0 rfl (lv_at hl 0 rfl) ?_
  refine lv_iconst (v := (nI 0)) hx hb dX5_count_1 (by decide) ?_
  refine tr_p_thrown hx hb hts inB_X5 hown hK hP hD hS (hts _ mb_652) dX5_count_2 (fun H locs hP hD hS => ?_)
  refine lv_iconst (v := (nI 0)) hx hb dX5_count_5 (by decide) ?_
  refine lv_istore_n (lv' := [(2, .int (nI 0)), (0, .ref (ad 0)), (1, .int (nI 7))]) hx hb dX5_count_6 rfl hl (by decide) rfl (fun ls hl => ?_)
  refine lv_iconst (v := (nI 0)) hx hb dX5_count_7 (by decide) ?_
  refine lv_istore_n (lv' := [(3, .int (nI 0)), (2, .int (nI 0)), (0, .ref (ad 0)), (1, .int (nI 7))]) hx hb dX5_count_8 rfl hl (by decide) rfl (fun ls hl => ?_)
  refine lv_iload_n hx hb dX5_count_9 rfl (lv_at hl 0 rfl) ?_
  refine lv_bipush (v := (nI 8)) hx hb dX5_count_10 (by decide) ?_
  refine lv_icmp_ge (tgt := 76) hx hb dX5_count_12 (by decide) (fun c => absurd c (by decide)) (fun _ => ?_)
  refine lv_iload_n hx hb dX5_count_15 rfl (lv_at hl 3 rfl) ?_
  refine lv_if_ne (tgt := 33) hx hb dX5_count_16 (by decide) (fun _ => ?_) (fun c => absurd c (by decide))
  refine lv_iload_n hx hb dX5_count_33 rfl (lv_at hl 3 rfl) ?_
  refine lv_iconst (v := (nI 5)) hx hb dX5_count_34 (by decide) ?_
  refine lv_icmp_ne (tgt := 52) hx hb dX5_count_35 (by decide) (fun _ => ?_) (fun c => absurd c (by decide))
  refine lv_iload_n hx hb dX5_count_52 rfl (lv_at hl 3 rfl) ?_
  refine lv_bipush (v := (nI 6)) hx hb dX5_count_53 (by decide) ?_
  refine lv_icmp_ne (tgt := 70) hx hb dX5_count_55 (by decide) (fun _ => ?_) (fun c => absurd c (by decide))
  refine lv_iinc (v := (nI 1)) (lv' := [(3, .int (nI 1)), (2, .int (nI 0)), (0, .ref (ad 0)), (1, .int (nI 7))]) hx hb dX5_count_70 hl (k := 0) rfl (by decide) (by decide) rfl (fun ls hl => ?_)
  refine lv_goto (tgt := 9) hx hb dX5_count_73 (by decide) ?_
  refine lv_iload_n hx hb dX5_count_9 rfl (lv_at hl 0 rfl) ?_
  refine lv_bipush (v := (nI 8)) hx hb dX5_count_10 (by decide) ?_
  refine lv_icmp_ge (tgt := 76) hx hb dX5_count_12 (by decide) (fun c => absurd c (by decide)) (fun _ => ?_)
  refine lv_iload_n hx hb dX5_count_15 rfl (lv_at hl 3 rfl) ?_
  refine lv_if_ne (tgt := 33) hx hb dX5_count_16 (by decide) (fun _ => ?_) (fun c => absurd c (by decide))
  refine lv_iload_n hx hb dX5_count_33 rfl (lv_at hl 3 rfl) ?_
  refine lv_iconst (v := (nI 5)) hx hb dX5_count_34 (by decide) ?_
  refine lv_icmp_ne (tgt := 52) hx hb dX5_count_35 (by decide) (fun _ => ?_) (fun c => absurd c (by decide))
  refine lv_iload_n hx hb dX5_count_52 rfl (lv_at hl 3 rfl) ?_
  refine lv_bipush (v := (nI 6)) hx hb dX5_count_53 (by decide) ?_
  refine lv_icmp_ne (tgt := 70) hx hb dX5_count_55 (by decide) (fun _ => ?_) (fun c => absurd c (by decide))
  refine lv_iinc (v := (nI 2)) (lv' := [(3, .int (nI 2)), (2, .int (nI 0)), (0, .ref (ad 0)), (1, .int (nI 7))]) hx hb dX5_count_70 hl (k := 0) rfl (by decide) (by decide) rfl (fun ls hl => ?_)
  refine lv_goto (tgt := 9) hx hb dX5_count_73 (by decide) ?_
  refine lv_iload_n hx hb dX5_count_9 rfl (lv_at hl 0 rfl) ?_
  refine lv_bipush (v := (nI 8)) hx hb dX5_count_10 (by decide) ?_
  refine lv_icmp_ge (tgt := 76) hx hb dX5_count_12 (by decide) (fun c => absurd c (by decide)) (fun _ => ?_)
  refine lv_iload_n hx hb dX5_count_15 rfl (lv_at hl 3 rfl) ?_
  refine lv_if_ne (tgt := 33) hx hb dX5_count_16 (by decide) (fun _ => ?_) (fun c => absurd c (by decide))
  refine lv_iload_n hx hb dX5_count_33 rfl (lv_at hl 3 rfl) ?_
  refine lv_iconst (v := (nI 5)) hx hb dX5_count_34 (by decide) ?_
  refine lv_icmp_ne (tgt := 52) hx hb dX5_count_35 (by decide) (fun _ => ?_) (fun c => absurd c (by decide))
  refine lv_iload_n hx hb dX5_count_52 rfl (lv_at hl 3 rfl) ?_
  refine lv_bipush (v := (nI 6)) hx hb dX5_count_53 (by decide) ?_
  refine lv_icmp_ne (tgt := 70) hx hb dX5_count_55 (by decide) (fun _ => ?_) (fun c => absurd c (by decide))
  refine lv_iinc (v := (nI 3)) (lv' := [(3, .int (nI 3)), (2, .int (nI 0)), (0, .ref (ad 0)), (1, .int (nI 7))]) hx hb dX5_count_70 hl (k := 0) rfl (by decide) (by decide) rfl (fun ls hl => ?_)
  refine lv_goto (tgt := 9) hx hb dX5_count_73 (by decide) ?_
  refine lv_iload_n hx hb dX5_count_9 rfl (lv_at hl 0 rfl) ?_
  refine lv_bipush (v := (nI 8)) hx hb dX5_count_10 (by decide) ?_
  refine lv_icmp_ge (tgt := 76) hx hb dX5_count_12 (by decide) (fun c => absurd c (by decide)) (fun _ => ?_)
  refine lv_iload_n hx hb dX5_count_15 rfl (lv_at hl 3 rfl) ?_
  refine lv_if_ne (tgt := 33) hx hb dX5_count_16 (by decide) (fun _ => ?_) (fun c => absurd c (by decide))
  refine lv_iload_n hx hb dX5_count_33 rfl (lv_at hl 3 rfl) ?_
  refine lv_iconst (v := (nI 5)) hx hb dX5_count_34 (by decide) ?_
  refine lv_icmp_ne (tgt := 52) hx hb dX5_count_35 (by decide) (fun _ => ?_) (fun c => absurd c (by decide))
  refine lv_iload_n hx hb dX5_count_52 rfl (lv_at hl 3 rfl) ?_
  refine lv_bipush (v := (nI 6)) hx hb dX5_count_53 (by decide) ?_
  refine lv_icmp_ne (tgt := 70) hx hb dX5_count_55 (by decide) (fun _ => ?_) (fun c => absurd c (by decide))
  refine lv_iinc (v := (nI 4)) (lv' := [(3, .int (nI 4)), (2, .int (nI 0)), (0, .ref (ad 0)), (1, .int (nI 7))]) hx hb dX5_count_70 hl (k := 0) rfl (by decide) (by decide) rfl (fun ls hl => ?_)
  refine lv_goto (tgt := 9) hx hb dX5_count_73 (by decide) ?_
  refine lv_iload_n hx hb dX5_count_9 rfl (lv_at hl 0 rfl) ?_
  refine lv_bipush (v := (nI 8)) hx hb dX5_count_10 (by decide) ?_
  refine lv_icmp_ge (tgt := 76) hx hb dX5_count_12 (by decide) (fun c => absurd c (by decide)) (fun _ => ?_)
  refine lv_iload_n hx hb dX5_count_15 rfl (lv_at hl 3 rfl) ?_
  refine lv_if_ne (tgt := 33) hx hb dX5_count_16 (by decide) (fun _ => ?_) (fun c => absurd c (by decide))
  refine lv_iload_n hx hb dX5_count_33 rfl (lv_at hl 3 rfl) ?_
  refine lv_iconst (v := (nI 5)) hx hb dX5_count_34 (by decide) ?_
  refine lv_icmp_ne (tgt := 52) hx hb dX5_count_35 (by decide) (fun _ => ?_) (fun c => absurd c (by decide))
  refine lv_iload_n hx hb dX5_count_52 rfl (lv_at hl 3 rfl) ?_
  refine lv_bipush (v := (nI 6)) hx hb dX5_count_53 (by decide) ?_
  refine lv_icmp_ne (tgt := 70) hx hb dX5_count_55 (by decide) (fun _ => ?_) (fun c => absurd c (by decide))
  refine lv_iinc (v := (nI 5)) (lv' := [(3, .int (nI 5)), (2, .int (nI 0)), (0, .ref (ad 0)), (1, .int (nI 7))]) hx hb dX5_count_70 hl (k := 0) rfl (by decide) (by decide) rfl (fun ls hl => ?_)
  refine lv_goto (tgt := 9) hx hb dX5_count_73 (by decide) ?_
  refine lv_iload_n hx hb dX5_count_9 rfl (lv_at hl 0 rfl) ?_
  refine lv_bipush (v := (nI 8)) hx hb dX5_count_10 (by decide) ?_
  refine lv_icmp_ge (tgt := 76) hx hb dX5_count_12 (by decide) (fun c => absurd c (by decide)) (fun _ => ?_)
  refine lv_iload_n hx hb dX5_count_15 rfl (lv_at hl 3 rfl) ?_
  refine lv_if_ne (tgt := 33) hx hb dX5_count_16 (by decide) (fun _ => ?_) (fun c => absurd c (by decide))
  refine lv_iload_n hx hb dX5_count_33 rfl (lv_at hl 3 rfl) ?_
  refine lv_iconst (v := (nI 5)) hx hb dX5_count_34 (by decide) ?_
  refine lv_icmp_ne (tgt := 52) hx hb dX5_count_35 (by decide) (fun _ => ?_) (fun c => absurd c (by decide))
  refine lv_iload_n hx hb dX5_count_52 rfl (lv_at hl 3 rfl) ?_
  refine lv_bipush (v := (nI 6)) hx hb dX5_count_53 (by decide) ?_
  refine lv_icmp_ne (tgt := 70) hx hb dX5_count_55 (by decide) (fun _ => ?_) (fun c => absurd c (by decide))
  refine lv_iinc (v := (nI 6)) (lv' := [(3, .int (nI 6)), (2, .int (nI 0)), (0, .ref (ad 0)), (1, .int (nI 7))]) hx hb dX5_count_70 hl (k := 0) rfl (by decide) (by decide) rfl (fun ls hl => ?_)
  refine lv_goto (tgt := 9) hx hb dX5_count_73 (by decide) ?_
  refine lv_iload_n hx hb dX5_count_9 rfl (lv_at hl 0 rfl) ?_
  refine lv_bipush (v := (nI 8)) hx hb dX5_count_10 (by decide) ?_
  refine lv_icmp_ge (tgt := 76) hx hb dX5_count_12 (by decide) (fun c => absurd c (by decide)) (fun _ => ?_)
  refine lv_iload_n hx hb dX5_count_15 rfl (lv_at hl 3 rfl) ?_
  refine lv_if_ne (tgt := 33) hx hb dX5_count_16 (by decide) (fun _ => ?_) (fun c => absurd c (by decide))
  refine lv_iload_n hx hb dX5_count_33 rfl (lv_at hl 3 rfl) ?_
  refine lv_iconst (v := (nI 5)) hx hb dX5_count_34 (by decide) ?_
  refine lv_icmp_ne (tgt := 52) hx hb dX5_count_35 (by decide) (fun _ => ?_) (fun c => absurd c (by decide))
  refine lv_iload_n hx hb dX5_count_52 rfl (lv_at hl 3 rfl) ?_
  refine lv_bipush (v := (nI 6)) hx hb dX5_count_53 (by decide) ?_
  refine lv_icmp_ne (tgt := 70) hx hb dX5_count_55 (by decide) (fun _ => ?_) (fun c => absurd c (by decide))
  refine lv_iinc (v := (nI 7)) (lv' := [(3, .int (nI 7)), (2, .int (nI 0)), (0, .ref (ad 0)), (1, .int (nI 7))]) hx hb dX5_count_70 hl (k := 0) rfl (by decide) (by decide) rfl (fun ls hl => ?_)
  refine lv_goto (tgt := 9) hx hb dX5_count_73 (by decide) ?_
  refine lv_iload_n hx hb dX5_count_9 rfl (lv_at hl 0 rfl) ?_
  refine lv_bipush (v := (nI 8)) hx hb dX5_count_10 (by decide) ?_
  refine lv_icmp_ge (tgt := 76) hx hb dX5_count_12 (by decide) (fun c => absurd c (by decide)) (fun _ => ?_)
  refine lv_iload_n hx hb dX5_count_15 rfl (lv_at hl 3 rfl) ?_
  refine lv_if_ne (tgt := 33) hx hb dX5_count_16 (by decide) (fun _ => ?_) (fun c => absurd c (by decide))
  refine lv_iload_n hx hb dX5_count_33 rfl (lv_at hl 3 rfl) ?_
  refine lv_iconst (v := (nI 5)) hx hb dX5_count_34 (by decide) ?_
  refine lv_icmp_ne (tgt := 52) hx hb dX5_count_35 (by decide) (fun _ => ?_) (fun c => absurd c (by decide))
  refine lv_iload_n hx hb dX5_count_52 rfl (lv_at hl 3 rfl) ?_
  refine lv_bipush (v := (nI 6)) hx hb dX5_count_53 (by decide) ?_
  refine lv_icmp_ne (tgt := 70) hx hb dX5_count_55 (by decide) (fun _ => ?_) (fun c => absurd c (by decide))
  refine lv_iinc (v := (nI 8)) (lv' := [(3, .int (nI 8)), (2, .int (nI 0)), (0, .ref (ad 0)), (1, .int (nI 7))]) hx hb dX5_count_70 hl (k := 0) rfl (by decide) (by decide) rfl (fun ls hl => ?_)
  refine lv_goto (tgt := 9) hx hb dX5_count_73 (by decide) ?_
  refine lv_iload_n hx hb dX5_count_9 rfl (lv_at hl 0 rfl) ?_
  refine lv_bipush (v := (nI 8)) hx hb dX5_count_10 (by decide) ?_
  refine lv_icmp_ge (tgt := 76) hx hb dX5_count_12 (by decide) (fun _ => ?_) (fun c => absurd (by decide) c)
  refine lv_iload_n hx hb dX5_count_76 rfl (lv_at hl 3 rfl) ?_
  refine lv_tableIn (tgt := 154) hx hb dX5_count_77 (by decide) (by decide) rfl (by decide) ?_
  refine lv_aload_n hx hb dX5_count_154 rfl (lv_at hl 2 rfl) ?_
  refine tr_g_losses hx hb hts inB_X5 hown hK hP (hts _ mb_651) dX5_count_155 ?_
  refine kq_ti (y := (u.2.1 12 0)) (by simp [tm_L, tm_I, tm_D]) ?_
  exact kq_iret hx hb hr hlk hP hD hS dX5_count_158
set_option maxHeartbeats 4000000 in
set_option maxRecDepth 100000 in
theorem p_count_4a (u : tm_S) (h : u.2.1 11 0 = 0) : kr_M l dC dI ad cc yX5_count wsX5_count { frames := 0, cells := 0, slots := 0, locals := 0 } [.ref (ad 0), .int (nI 4)] u (tm_I u 14 0 (nI 0)) (some (.int (nI 0))) := by
  refine kq_ofW (cc := cX5_count) (maxL := 4) (ret := (some .int)) (R0 := RX5) (by decide) rfl rfl (Nat.le_of_ble_eq_true rfl) ?_
  intro p e s m below meth c A ls hx hb hr hlk hml hown hts hP hK hD hA hG hS hl
  have hl : lv_has ls 4 [(0, .ref (ad 0)), (1, .int (nI 4))] := hl
  refine lv_aload_n hx hb dX5_count_0 rfl (lv_at hl 0 rfl) ?_
  refine lv_iconst (v := (nI 0)) hx hb dX5_count_1 (by decide) ?_
  refine tr_p_thrown hx hb hts inB_X5 hown hK hP hD hS (hts _ mb_652) dX5_count_2 (fun H locs hP hD hS => ?_)
  refine lv_iconst (v := (nI 0)) hx hb dX5_count_5 (by decide) ?_
  refine lv_istore_n (lv' := [(2, .int (nI 0)), (0, .ref (ad 0)), (1, .int (nI 4))]) hx hb dX5_count_6 rfl hl (by decide) rfl (fun ls hl => ?_)
  refine lv_iconst (v := (nI 0)) hx hb dX5_count_7 (by decide) ?_
  refine lv_istore_n (lv' := [(3, .int (nI 0)), (2, .int (nI 0)), (0, .ref (ad 0)), (1, .int (nI 4))]) hx hb dX5_count_8 rfl hl (by decide) rfl (fun ls hl => ?_)
  refine lv_iload_n hx hb dX5_count_9 rfl (lv_at hl 0 rfl) ?_
  refine lv_bipush (v := (nI 8)) hx hb dX5_count_10 (by decide) ?_
  refine lv_icmp_ge (tgt := 76) hx hb dX5_count_12 (by decide) (fun c => absurd c (by decide)) (fun _ => ?_)
  refine lv_iload_n hx hb dX5_count_15 rfl (lv_at hl 3 rfl) ?_
  refine lv_if_ne (tgt := 33) hx hb dX5_count_16 (by decide) (fun _ => ?_) (fun c => absurd c (by decide))
  refine lv_iload_n hx hb dX5_count_33 rfl (lv_at hl 3 rfl) ?_
  refine lv_iconst (v := (nI 5)) hx hb dX5_count_34 (by decide) ?_
  refine lv_icmp_ne (tgt := 52) hx hb dX5_count_35 (by decide) (fun _ => ?_) (fun c => absurd c (by decide))
  refine lv_iload_n hx hb dX5_count_52 rfl (lv_at hl 3 rfl) ?_
  refine lv_bipush (v := (nI 6)) hx hb dX5_count_53 (by decide) ?_
  refine lv_icmp_ne (tgt := 70) hx hb dX5_count_55 (by decide) (fun _ => ?_) (fun c => absurd c (by decide))
  refine lv_iinc (v := (nI 1)) (lv' := [(3, .int (nI 1)), (2, .int (nI 0)), (0, .ref (ad 0)), (1, .int (nI 4))]) hx hb dX5_count_70 hl (k := 0) rfl (by decide) (by decide) rfl (fun ls hl => ?_)
  refine lv_goto (tgt := 9) hx hb dX5_count_73 (by decide) ?_
  refine lv_iload_n hx hb dX5_count_9 rfl (lv_at hl 0 rfl) ?_
  refine lv_bipush (v := (nI 8)) hx hb dX5_count_10 (by decide) ?_
  refine lv_icmp_ge (tgt := 76) hx hb dX5_count_12 (by decide) (fun c => absurd c (by decide)) (fun _ => ?_)
  refine lv_iload_n hx hb dX5_count_15 rfl (lv_at hl 3 rfl) ?_
  refine lv_if_ne (tgt := 33) hx hb dX5_count_16 (by decide) (fun _ => ?_) (fun c => absurd c (by decide))
  refine lv_iload_n hx hb dX5_count_33 rfl (lv_at hl 3 rfl) ?_
  refine lv_iconst (v := (nI 5)) hx hb dX5_count_34 (by decide) ?_
  refine lv_icmp_ne (tgt := 52) hx hb dX5_count_35 (by decide) (fun _ => ?_) (fun c => absurd c (by decide))
  refine lv_iload_n hx hb dX5_count_52 rfl (lv_at hl 3 rfl) ?_
  refine lv_bipush (v := (nI 6)) hx hb dX5_count_53 (by decide) ?_
  refine lv_icmp_ne (tgt := 70) hx hb dX5_count_55 (by decide) (fun _ => ?_) (fun c => absurd c (by decide))
  refine lv_iinc (v := (nI 2)) (lv' := [(3, .int (nI 2)), (2, .int (nI 0)), (0, .ref (ad 0)), (1, .int (nI 4))]) hx hb dX5_count_70 hl (k := 0) rfl (by decide) (by decide) rfl (fun ls hl => ?_)
  refine lv_goto (tgt := 9) hx hb dX5_count_73 (by decide) ?_
  refine lv_iload_n hx hb dX5_count_9 rfl (lv_at hl 0 rfl) ?_
  refine lv_bipush (v := (nI 8)) hx hb dX5_count_10 (by decide) ?_
  refine lv_icmp_ge (tgt := 76) hx hb dX5_count_12 (by decide) (fun c => absurd c (by decide)) (fun _ => ?_)
  refine lv_iload_n hx hb dX5_count_15 rfl (lv_at hl 3 rfl) ?_
  refine lv_if_ne (tgt := 33) hx hb dX5_count_16 (by decide) (fun _ => ?_) (fun c => absurd c (by decide))
  refine lv_iload_n hx hb dX5_count_33 rfl (lv_at hl 3 rfl) ?_
  refine lv_iconst (v := (nI 5)) hx hb dX5_count_34 (by decide) ?_
  refine lv_icmp_ne (tgt := 52) hx hb dX5_count_35 (by decide) (fun _ => ?_) (fun c => absurd c (by decide))
  refine lv_iload_n hx hb dX5_count_52 rfl (lv_at hl 3 rfl) ?_
  refine lv_bipush (v := (nI 6)) hx hb dX5_count_53 (by decide) ?_
  refine lv_icmp_ne (tgt := 70) hx hb dX5_count_55 (by decide) (fun _ => ?_) (fun c => absurd c (by decide))
  refine lv_iinc (v := (nI 3)) (lv' := [(3, .int (nI 3)), (2, .int (nI 0)), (0, .ref (ad 0)), (1, .int (nI 4))]) hx hb dX5_count_70 hl (k := 0) rfl (by decide) (by decide) rfl (fun ls hl => ?_)
  refine lv_goto (tgt := 9) hx hb dX5_count_73 (by decide) ?_
  refine lv_iload_n hx hb dX5_count_9 rfl (lv_at hl 0 rfl) ?_
  refine lv_bipush (v := (nI 8)) hx hb dX5_count_10 (by decide) ?_
  refine lv_icmp_ge (tgt := 76) hx hb dX5_count_12 (by decide) (fun c => absurd c (by decide)) (fun _ => ?_)
  refine lv_iload_n hx hb dX5_count_15 rfl (lv_at hl 3 rfl) ?_
  refine lv_if_ne (tgt := 33) hx hb dX5_count_16 (by decide) (fun _ => ?_) (fun c => absurd c (by decide))
  refine lv_iload_n hx hb dX5_count_33 rfl (lv_at hl 3 rfl) ?_
  refine lv_iconst (v := (nI 5)) hx hb dX5_count_34 (by decide) ?_
  refine lv_icmp_ne (tgt := 52) hx hb dX5_count_35 (by decide) (fun _ => ?_) (fun c => absurd c (by decide))
  refine lv_iload_n hx hb dX5_count_52 rfl (lv_at hl 3 rfl) ?_
  refine lv_bipush (v := (nI 6)) hx hb dX5_count_53 (by decide) ?_
  refine lv_icmp_ne (tgt := 70) hx hb dX5_count_55 (by decide) (fun _ => ?_) (fun c => absurd c (by decide))
  refine lv_iinc (v := (nI 4)) (lv' := [(3, .int (nI 4)), (2, .int (nI 0)), (0, .ref (ad 0)), (1, .int (nI 4))]) hx hb dX5_count_70 hl (k := 0) rfl (by decide) (by decide) rfl (fun ls hl => ?_)
  refine lv_goto (tgt := 9) hx hb dX5_count_73 (by decide) ?_
  refine lv_iload_n hx hb dX5_count_9 rfl (lv_at hl 0 rfl) ?_
  refine lv_bipush (v := (nI 8)) hx hb dX5_count_10 (by decide) ?_
  refine lv_icmp_ge (tgt := 76) hx hb dX5_count_12 (by decide) (fun c => absurd c (by decide)) (fun _ => ?_)
  refine lv_iload_n hx hb dX5_count_15 rfl (lv_at hl 3 rfl) ?_
  refine lv_if_ne (tgt := 33) hx hb dX5_count_16 (by decide) (fun _ => ?_) (fun c => absurd c (by decide))
  refine lv_iload_n hx hb dX5_count_33 rfl (lv_at hl 3 rfl) ?_
  refine lv_iconst (v := (nI 5)) hx hb dX5_count_34 (by decide) ?_
  refine lv_icmp_ne (tgt := 52) hx hb dX5_count_35 (by decide) (fun _ => ?_) (fun c => absurd c (by decide))
  refine lv_iload_n hx hb dX5_count_52 rfl (lv_at hl 3 rfl) ?_
  refine lv_bipush (v := (nI 6)) hx hb dX5_count_53 (by decide) ?_
  refine lv_icmp_ne (tgt := 70) hx hb dX5_count_55 (by decide) (fun _ => ?_) (fun c => absurd c (by decide))
  refine lv_iinc (v := (nI 5)) (lv' := [(3, .int (nI 5)), (2, .int (nI 0)), (0, .ref (ad 0)), (1, .int (nI 4))]) hx hb dX5_count_70 hl (k := 0) rfl (by decide) (by decide) rfl (fun ls hl => ?_)
  refine lv_goto (tgt := 9) hx hb dX5_count_73 (by decide) ?_
  refine lv_iload_n hx hb dX5_count_9 rfl (lv_at hl 0 rfl) ?_
  refine lv_bipush (v := (nI 8)) hx hb dX5_count_10 (by decide) ?_
  refine lv_icmp_ge (tgt := 76) hx hb dX5_count_12 (by decide) (fun c => absurd c (by decide)) (fun _ => ?_)
  refine lv_iload_n hx hb dX5_count_15 rfl (lv_at hl 3 rfl) ?_
  refine lv_if_ne (tgt := 33) hx hb dX5_count_16 (by decide) (fun _ => ?_) (fun c => absurd c (by decide))
  refine lv_iload_n hx hb dX5_count_33 rfl (lv_at hl 3 rfl) ?_
  refine lv_iconst (v := (nI 5)) hx hb dX5_count_34 (by decide) ?_
  refine lv_icmp_ne (tgt := 52) hx hb dX5_count_35 (by decide) (fun _ => ?_) (fun c => absurd c (by decide))
  refine lv_iload_n hx hb dX5_count_52 rfl (lv_at hl 3 rfl) ?_
  refine lv_bipush (v := (nI 6)) hx hb dX5_count_53 (by decide) ?_
  refine lv_icmp_ne (tgt := 70) hx hb dX5_count_55 (by decide) (fun _ => ?_) (fun c => absurd c (by decide))
  refine lv_iinc (v := (nI 6)) (lv' := [(3, .int (nI 6)), (2, .int (nI 0)), (0, .ref (ad 0)), (1, .int (nI 4))]) hx hb dX5_count_70 hl (k := 0) rfl (by decide) (by decide) rfl (fun ls hl => ?_)
  refine lv_goto (tgt := 9) hx hb dX5_count_73 (by decide) ?_
  refine lv_iload_n hx hb dX5_count_9 rfl (lv_at hl 0 rfl) ?_
  refine lv_bipush (v := (nI 8)) hx hb dX5_count_10 (by decide) ?_
  refine lv_icmp_ge (tgt := 76) hx hb dX5_count_12 (by decide) (fun c => absurd c (by decide)) (fun _ => ?_)
  refine lv_iload_n hx hb dX5_count_15 rfl (lv_at hl 3 rfl) ?_
  refine lv_if_ne (tgt := 33) hx hb dX5_count_16 (by decide) (fun _ => ?_) (fun c => absurd c (by decide))
  refine lv_iload_n hx hb dX5_count_33 rfl (lv_at hl 3 rfl) ?_
  refine lv_iconst (v := (nI 5)) hx hb dX5_count_34 (by decide) ?_
  refine lv_icmp_ne (tgt := 52) hx hb dX5_count_35 (by decide) (fun _ => ?_) (fun c => absurd c (by decide))
  refine lv_iload_n hx hb dX5_count_52 rfl (lv_at hl 3 rfl) ?_
  refine lv_bipush (v := (nI 6)) hx hb dX5_count_53 (by decide) ?_
  refine lv_icmp_ne (tgt := 70) hx hb dX5_count_55 (by decide) (fun _ => ?_) (fun c => absurd c (by decide))
  refine lv_iinc (v := (nI 7)) (lv' := [(3, .int (nI 7)), (2, .int (nI 0)), (0, .ref (ad 0)), (1, .int (nI 4))]) hx hb dX5_count_70 hl (k := 0) rfl (by decide) (by decide) rfl (fun ls hl => ?_)
  refine lv_goto (tgt := 9) hx hb dX5_count_73 (by decide) ?_
  refine lv_iload_n hx hb dX5_count_9 rfl (lv_at hl 0 rfl) ?_
  refine lv_bipush (v := (nI 8)) hx hb dX5_count_10 (by decide) ?_
  refine lv_icmp_ge (tgt := 76) hx hb dX5_count_12 (by decide) (fun c => absurd c (by decide)) (fun _ => ?_)
  refine lv_iload_n hx hb dX5_count_15 rfl (lv_at hl 3 rfl) ?_
  refine lv_if_ne (tgt := 33) hx hb dX5_count_16 (by decide) (fun _ => ?_) (fun c => absurd c (by decide))
  refine lv_iload_n hx hb dX5_count_33 rfl (lv_at hl 3 rfl) ?_
  refine lv_iconst (v := (nI 5)) hx hb dX5_count_34 (by decide) ?_
  refine lv_icmp_ne (tgt := 52) hx hb dX5_count_35 (by decide) (fun _ => ?_) (fun c => absurd c (by decide))
  refine lv_iload_n hx hb dX5_count_52 rfl (lv_at hl 3 rfl) ?_
  refine lv_bipush (v := (nI 6)) hx hb dX5_count_53 (by decide) ?_
  refine lv_icmp_ne (tgt := 70) hx hb dX5_count_55 (by decide) (fun _ => ?_) (fun c => absurd c (by decide))
  refine lv_iinc (v := (nI 8)) (lv' := [(3, .int (nI 8)), (2, .int (nI 0)), (0, .ref (ad 0)), (1, .int (nI 4))]) hx hb dX5_count_70 hl (k := 0) rfl (by decide) (by decide) rfl (fun ls hl => ?_)
  refine lv_goto (tgt := 9) hx hb dX5_count_73 (by decide) ?_
  refine lv_iload_n hx hb dX5_count_9 rfl (lv_at hl 0 rfl) ?_
  refine lv_bipush (v := (nI 8)) hx hb dX5_count_10 (by decide) ?_
  refine lv_icmp_ge (tgt := 76) hx hb dX5_count_12 (by decide) (fun _ => ?_) (fun c => absurd (by decide) c)
  refine lv_iload_n hx hb dX5_count_76 rfl (lv_at hl 3 rfl) ?_
  refine lv_tableIn (tgt := 141) hx hb dX5_count_77 (by decide) (by decide) rfl (by decide) ?_
  refine lv_aload_n hx hb dX5_count_141 rfl (lv_at hl 2 rfl) ?_
  refine tr_g_lost hx hb hts inB_X5 hown hK hP (hts _ mb_653) dX5_count_142 ?_
  refine kq_ti (y := (u.2.1 11 0)) (by simp [tm_L, tm_I, tm_D]) ?_
  refine lv_if_eq (tgt := 152) hx hb dX5_count_145 (by decide) (fun _ => ?_) (fun c => absurd h c)
  refine lv_iconst (v := (nI 0)) hx hb dX5_count_152 (by decide) ?_
  exact kq_iret hx hb hr hlk hP hD hS dX5_count_153
set_option maxHeartbeats 4000000 in
set_option maxRecDepth 100000 in
theorem p_count_4b (u : tm_S) (h : ¬ u.2.1 11 0 = 0) : kr_M l dC dI ad cc yX5_count wsX5_count { frames := 0, cells := 0, slots := 0, locals := 0 } [.ref (ad 0), .int (nI 4)] u (tm_I u 14 0 (nI 0)) (some (.int (nI 1))) := by
  refine kq_ofW (cc := cX5_count) (maxL := 4) (ret := (some .int)) (R0 := RX5) (by decide) rfl rfl (Nat.le_of_ble_eq_true rfl) ?_
  intro p e s m below meth c A ls hx hb hr hlk hml hown hts hP hK hD hA hG hS hl
  have hl : lv_has ls 4 [(0, .ref (ad 0)), (1, .int (nI 4))] := hl
  refine lv_aload_n hx hb dX5_count_0 rfl (lv_at hl 0 rfl) ?_
  refine lv_iconst (v := (nI 0)) hx hb dX5_count_1 (by decide) ?_
  refine tr_p_thrown hx hb hts inB_X5 hown hK hP hD hS (hts _ mb_652) dX5_count_2 (fun H locs hP hD hS => ?_)
  refine lv_iconst (v := (nI 0)) hx hb dX5_count_5 (by decide) ?_
  refine lv_istore_n (lv' := [(2, .int (nI 0)), (0, .ref (ad 0)), (1, .int (nI 4))]) hx hb dX5_count_6 rfl hl (by decide) rfl (fun ls hl => ?_)
  refine lv_iconst (v := (nI 0)) hx hb dX5_count_7 (by decide) ?_
  refine lv_istore_n (lv' := [(3, .int (nI 0)), (2, .int (nI 0)), (0, .ref (ad 0)), (1, .int (nI 4))]) hx hb dX5_count_8 rfl hl (by decide) rfl (fun ls hl => ?_)
  refine lv_iload_n hx hb dX5_count_9 rfl (lv_at hl 0 rfl) ?_
  refine lv_bipush (v := (nI 8)) hx hb dX5_count_10 (by decide) ?_
  refine lv_icmp_ge (tgt := 76) hx hb dX5_count_12 (by decide) (fun c => absurd c (by decide)) (fun _ => ?_)
  refine lv_iload_n hx hb dX5_count_15 rfl (lv_at hl 3 rfl) ?_
  refine lv_if_ne (tgt := 33) hx hb dX5_count_16 (by decide) (fun _ => ?_) (fun c => absurd c (by decide))
  refine lv_iload_n hx hb dX5_count_33 rfl (lv_at hl 3 rfl) ?_
  refine lv_iconst (v := (nI 5)) hx hb dX5_count_34 (by decide) ?_
  refine lv_icmp_ne (tgt := 52) hx hb dX5_count_35 (by decide) (fun _ => ?_) (fun c => absurd c (by decide))
  refine lv_iload_n hx hb dX5_count_52 rfl (lv_at hl 3 rfl) ?_
  refine lv_bipush (v := (nI 6)) hx hb dX5_count_53 (by decide) ?_
  refine lv_icmp_ne (tgt := 70) hx hb dX5_count_55 (by decide) (fun _ => ?_) (fun c => absurd c (by decide))
  refine lv_iinc (v := (nI 1)) (lv' := [(3, .int (nI 1)), (2, .int (nI 0)), (0, .ref (ad 0)), (1, .int (nI 4))]) hx hb dX5_count_70 hl (k := 0) rfl (by decide) (by decide) rfl (fun ls hl => ?_)
  refine lv_goto (tgt := 9) hx hb dX5_count_73 (by decide) ?_
  refine lv_iload_n hx hb dX5_count_9 rfl (lv_at hl 0 rfl) ?_
  refine lv_bipush (v := (nI 8)) hx hb dX5_count_10 (by decide) ?_
  refine lv_icmp_ge (tgt := 76) hx hb dX5_count_12 (by decide) (fun c => absurd c (by decide)) (fun _ => ?_)
  refine lv_iload_n hx hb dX5_count_15 rfl (lv_at hl 3 rfl) ?_
  refine lv_if_ne (tgt := 33) hx hb dX5_count_16 (by decide) (fun _ => ?_) (fun c => absurd c (by decide))
  refine lv_iload_n hx hb dX5_count_33 rfl (lv_at hl 3 rfl) ?_
  refine lv_iconst (v := (nI 5)) hx hb dX5_count_34 (by decide) ?_
  refine lv_icmp_ne (tgt := 52) hx hb dX5_count_35 (by decide) (fun _ => ?_) (fun c => absurd c (by decide))
  refine lv_iload_n hx hb dX5_count_52 rfl (lv_at hl 3 rfl) ?_
  refine lv_bipush (v := (nI 6)) hx hb dX5_count_53 (by decide) ?_
  refine lv_icmp_ne (tgt := 70) hx hb dX5_count_55 (by decide) (fun _ => ?_) (fun c => absurd c (by decide))
  refine lv_iinc (v := (nI 2)) (lv' := [(3, .int (nI 2)), (2, .int (nI 0)), (0, .ref (ad 0)), (1, .int (nI 4))]) hx hb dX5_count_70 hl (k := 0) rfl (by decide) (by decide) rfl (fun ls hl => ?_)
  refine lv_goto (tgt := 9) hx hb dX5_count_73 (by decide) ?_
  refine lv_iload_n hx hb dX5_count_9 rfl (lv_at hl 0 rfl) ?_
  refine lv_bipush (v := (nI 8)) hx hb dX5_count_10 (by decide) ?_
  refine lv_icmp_ge (tgt := 76) hx hb dX5_count_12 (by decide) (fun c => absurd c (by decide)) (fun _ => ?_)
  refine lv_iload_n hx hb dX5_count_15 rfl (lv_at hl 3 rfl) ?_
  refine lv_if_ne (tgt := 33) hx hb dX5_count_16 (by decide) (fun _ => ?_) (fun c => absurd c (by decide))
  refine lv_iload_n hx hb dX5_count_33 rfl (lv_at hl 3 rfl) ?_
  refine lv_iconst (v := (nI 5)) hx hb dX5_count_34 (by decide) ?_
  refine lv_icmp_ne (tgt := 52) hx hb dX5_count_35 (by decide) (fun _ => ?_) (fun c => absurd c (by decide))
  refine lv_iload_n hx hb dX5_count_52 rfl (lv_at hl 3 rfl) ?_
  refine lv_bipush (v := (nI 6)) hx hb dX5_count_53 (by decide) ?_
  refine lv_icmp_ne (tgt := 70) hx hb dX5_count_55 (by decide) (fun _ => ?_) (fun c => absurd c (by decide))
  refine lv_iinc (v := (nI 3)) (lv' := [(3, .int (nI 3)), (2, .int (nI 0)), (0, .ref (ad 0)), (1, .int (nI 4))]) hx hb dX5_count_70 hl (k := 0) rfl (by decide) (by decide) rfl (fun ls hl => ?_)
  refine lv_goto (tgt := 9) hx hb dX5_count_73 (by decide) ?_
  refine lv_iload_n hx hb dX5_count_9 rfl (lv_at hl 0 rfl) ?_
  refine lv_bipush (v := (nI 8)) hx hb dX5_count_10 (by decide) ?_
  refine lv_icmp_ge (tgt := 76) hx hb dX5_count_12 (by decide) (fun c => absurd c (by decide)) (fun _ => ?_)
  refine lv_iload_n hx hb dX5_count_15 rfl (lv_at hl 3 rfl) ?_
  refine lv_if_ne (tgt := 33) hx hb dX5_count_16 (by decide) (fun _ => ?_) (fun c => absurd c (by decide))
  refine lv_iload_n hx hb dX5_count_33 rfl (lv_at hl 3 rfl) ?_
  refine lv_iconst (v := (nI 5)) hx hb dX5_count_34 (by decide) ?_
  refine lv_icmp_ne (tgt := 52) hx hb dX5_count_35 (by decide) (fun _ => ?_) (fun c => absurd c (by decide))
  refine lv_iload_n hx hb dX5_count_52 rfl (lv_at hl 3 rfl) ?_
  refine lv_bipush (v := (nI 6)) hx hb dX5_count_53 (by decide) ?_
  refine lv_icmp_ne (tgt := 70) hx hb dX5_count_55 (by decide) (fun _ => ?_) (fun c => absurd c (by decide))
  refine lv_iinc (v := (nI 4)) (lv' := [(3, .int (nI 4)), (2, .int (nI 0)), (0, .ref (ad 0)), (1, .int (nI 4))]) hx hb dX5_count_70 hl (k := 0) rfl (by decide) (by decide) rfl (fun ls hl => ?_)
  refine lv_goto (tgt := 9) hx hb dX5_count_73 (by decide) ?_
  refine lv_iload_n hx hb dX5_count_9 rfl (lv_at hl 0 rfl) ?_
  refine lv_bipush (v := (nI 8)) hx hb dX5_count_10 (by decide) ?_
  refine lv_icmp_ge (tgt := 76) hx hb dX5_count_12 (by decide) (fun c => absurd c (by decide)) (fun _ => ?_)
  refine lv_iload_n hx hb dX5_count_15 rfl (lv_at hl 3 rfl) ?_
  refine lv_if_ne (tgt := 33) hx hb dX5_count_16 (by decide) (fun _ => ?_) (fun c => absurd c (by decide))
  refine lv_iload_n hx hb dX5_count_33 rfl (lv_at hl 3 rfl) ?_
  refine lv_iconst (v := (nI 5)) hx hb dX5_count_34 (by decide) ?_
  refine lv_icmp_ne (tgt := 52) hx hb dX5_count_35 (by decide) (fun _ => ?_) (fun c => absurd c (by decide))
  refine lv_iload_n hx hb dX5_count_52 rfl (lv_at hl 3 rfl) ?_
  refine lv_bipush (v := (nI 6)) hx hb dX5_count_53 (by decide) ?_
  refine lv_icmp_ne (tgt := 70) hx hb dX5_count_55 (by decide) (fun _ => ?_) (fun c => absurd c (by decide))
  refine lv_iinc (v := (nI 5)) (lv' := [(3, .int (nI 5)), (2, .int (nI 0)), (0, .ref (ad 0)), (1, .int (nI 4))]) hx hb dX5_count_70 hl (k := 0) rfl (by decide) (by decide) rfl (fun ls hl => ?_)
  refine lv_goto (tgt := 9) hx hb dX5_count_73 (by decide) ?_
  refine lv_iload_n hx hb dX5_count_9 rfl (lv_at hl 0 rfl) ?_
  refine lv_bipush (v := (nI 8)) hx hb dX5_count_10 (by decide) ?_
  refine lv_icmp_ge (tgt := 76) hx hb dX5_count_12 (by decide) (fun c => absurd c (by decide)) (fun _ => ?_)
  refine lv_iload_n hx hb dX5_count_15 rfl (lv_at hl 3 rfl) ?_
  refine lv_if_ne (tgt := 33) hx hb dX5_count_16 (by decide) (fun _ => ?_) (fun c => absurd c (by decide))
  refine lv_iload_n hx hb dX5_count_33 rfl (lv_at hl 3 rfl) ?_
  refine lv_iconst (v := (nI 5)) hx hb dX5_count_34 (by decide) ?_
  refine lv_icmp_ne (tgt := 52) hx hb dX5_count_35 (by decide) (fun _ => ?_) (fun c => absurd c (by decide))
  refine lv_iload_n hx hb dX5_count_52 rfl (lv_at hl 3 rfl) ?_
  refine lv_bipush (v := (nI 6)) hx hb dX5_count_53 (by decide) ?_
  refine lv_icmp_ne (tgt := 70) hx hb dX5_count_55 (by decide) (fun _ => ?_) (fun c => absurd c (by decide))
  refine lv_iinc (v := (nI 6)) (lv' := [(3, .int (nI 6)), (2, .int (nI 0)), (0, .ref (ad 0)), (1, .int (nI 4))]) hx hb dX5_count_70 hl (k := 0) rfl (by decide) (by decide) rfl (fun ls hl => ?_)
  refine lv_goto (tgt := 9) hx hb dX5_count_73 (by decide) ?_
  refine lv_iload_n hx hb dX5_count_9 rfl (lv_at hl 0 rfl) ?_
  refine lv_bipush (v := (nI 8)) hx hb dX5_count_10 (by decide) ?_
  refine lv_icmp_ge (tgt := 76) hx hb dX5_count_12 (by decide) (fun c => absurd c (by decide)) (fun _ => ?_)
  refine lv_iload_n hx hb dX5_count_15 rfl (lv_at hl 3 rfl) ?_
  refine lv_if_ne (tgt := 33) hx hb dX5_count_16 (by decide) (fun _ => ?_) (fun c => absurd c (by decide))
  refine lv_iload_n hx hb dX5_count_33 rfl (lv_at hl 3 rfl) ?_
  refine lv_iconst (v := (nI 5)) hx hb dX5_count_34 (by decide) ?_
  refine lv_icmp_ne (tgt := 52) hx hb dX5_count_35 (by decide) (fun _ => ?_) (fun c => absurd c (by decide))
  refine lv_iload_n hx hb dX5_count_52 rfl (lv_at hl 3 rfl) ?_
  refine lv_bipush (v := (nI 6)) hx hb dX5_count_53 (by decide) ?_
  refine lv_icmp_ne (tgt := 70) hx hb dX5_count_55 (by decide) (fun _ => ?_) (fun c => absurd c (by decide))
  refine lv_iinc (v := (nI 7)) (lv' := [(3, .int (nI 7)), (2, .int (nI 0)), (0, .ref (ad 0)), (1, .int (nI 4))]) hx hb dX5_count_70 hl (k := 0) rfl (by decide) (by decide) rfl (fun ls hl => ?_)
  refine lv_goto (tgt := 9) hx hb dX5_count_73 (by decide) ?_
  refine lv_iload_n hx hb dX5_count_9 rfl (lv_at hl 0 rfl) ?_
  refine lv_bipush (v := (nI 8)) hx hb dX5_count_10 (by decide) ?_
  refine lv_icmp_ge (tgt := 76) hx hb dX5_count_12 (by decide) (fun c => absurd c (by decide)) (fun _ => ?_)
  refine lv_iload_n hx hb dX5_count_15 rfl (lv_at hl 3 rfl) ?_
  refine lv_if_ne (tgt := 33) hx hb dX5_count_16 (by decide) (fun _ => ?_) (fun c => absurd c (by decide))
  refine lv_iload_n hx hb dX5_count_33 rfl (lv_at hl 3 rfl) ?_
  refine lv_iconst (v := (nI 5)) hx hb dX5_count_34 (by decide) ?_
  refine lv_icmp_ne (tgt := 52) hx hb dX5_count_35 (by decide) (fun _ => ?_) (fun c => absurd c (by decide))
  refine lv_iload_n hx hb dX5_count_52 rfl (lv_at hl 3 rfl) ?_
  refine lv_bipush (v := (nI 6)) hx hb dX5_count_53 (by decide) ?_
  refine lv_icmp_ne (tgt := 70) hx hb dX5_count_55 (by decide) (fun _ => ?_) (fun c => absurd c (by decide))
  refine lv_iinc (v := (nI 8)) (lv' := [(3, .int (nI 8)), (2, .int (nI 0)), (0, .ref (ad 0)), (1, .int (nI 4))]) hx hb dX5_count_70 hl (k := 0) rfl (by decide) (by decide) rfl (fun ls hl => ?_)
  refine lv_goto (tgt := 9) hx hb dX5_count_73 (by decide) ?_
  refine lv_iload_n hx hb dX5_count_9 rfl (lv_at hl 0 rfl) ?_
  refine lv_bipush (v := (nI 8)) hx hb dX5_count_10 (by decide) ?_
  refine lv_icmp_ge (tgt := 76) hx hb dX5_count_12 (by decide) (fun _ => ?_) (fun c => absurd (by decide) c)
  refine lv_iload_n hx hb dX5_count_76 rfl (lv_at hl 3 rfl) ?_
  refine lv_tableIn (tgt := 141) hx hb dX5_count_77 (by decide) (by decide) rfl (by decide) ?_
  refine lv_aload_n hx hb dX5_count_141 rfl (lv_at hl 2 rfl) ?_
  refine tr_g_lost hx hb hts inB_X5 hown hK hP (hts _ mb_653) dX5_count_142 ?_
  refine kq_ti (y := (u.2.1 11 0)) (by simp [tm_L, tm_I, tm_D]) ?_
  refine lv_if_eq (tgt := 152) hx hb dX5_count_145 (by decide) (fun c => absurd c h) (fun _ => ?_)
  refine lv_iconst (v := (nI 1)) hx hb dX5_count_148 (by decide) ?_
  refine lv_goto (tgt := 153) hx hb dX5_count_149 (by decide) ?_
  exact kq_iret hx hb hr hlk hP hD hS dX5_count_153
set_option maxHeartbeats 4000000 in
set_option maxRecDepth 100000 in
theorem p_count_d (u : tm_S) (x : Int32) (h : x.toInt < 0 ∨ 7 < x.toInt) : kr_M l dC dI ad cc yX5_count wsX5_count { frames := 0, cells := 0, slots := 0, locals := 0 } [.ref (ad 0), .int x] u (tm_I u 14 0 (nI 0)) (some (.int (-1))) := by
  refine kq_ofW (cc := cX5_count) (maxL := 4) (ret := (some .int)) (R0 := RX5) (by decide) rfl rfl (Nat.le_of_ble_eq_true rfl) ?_
  intro p e s m below meth c A ls hx hb hr hlk hml hown hts hP hK hD hA hG hS hl
  have hl : lv_has ls 4 [(0, .ref (ad 0)), (1, .int x)] := hl
  refine lv_aload_n hx hb dX5_count_0 rfl (lv_at hl 0 rfl) ?_
  refine lv_iconst (v := (nI 0)) hx hb dX5_count_1 (by decide) ?_
  refine tr_p_thrown hx hb hts inB_X5 hown hK hP hD hS (hts _ mb_652) dX5_count_2 (fun H locs hP hD hS => ?_)
  refine lv_iconst (v := (nI 0)) hx hb dX5_count_5 (by decide) ?_
  refine lv_istore_n (lv' := [(2, .int (nI 0)), (0, .ref (ad 0)), (1, .int x)]) hx hb dX5_count_6 rfl hl (by decide) rfl (fun ls hl => ?_)
  refine lv_iconst (v := (nI 0)) hx hb dX5_count_7 (by decide) ?_
  refine lv_istore_n (lv' := [(3, .int (nI 0)), (2, .int (nI 0)), (0, .ref (ad 0)), (1, .int x)]) hx hb dX5_count_8 rfl hl (by decide) rfl (fun ls hl => ?_)
  refine lv_iload_n hx hb dX5_count_9 rfl (lv_at hl 0 rfl) ?_
  refine lv_bipush (v := (nI 8)) hx hb dX5_count_10 (by decide) ?_
  refine lv_icmp_ge (tgt := 76) hx hb dX5_count_12 (by decide) (fun c => absurd c (by decide)) (fun _ => ?_)
  refine lv_iload_n hx hb dX5_count_15 rfl (lv_at hl 3 rfl) ?_
  refine lv_if_ne (tgt := 33) hx hb dX5_count_16 (by decide) (fun _ => ?_) (fun c => absurd c (fun z => by rw [z] at h; revert h; decide))
  refine lv_iload_n hx hb dX5_count_33 rfl (lv_at hl 3 rfl) ?_
  refine lv_iconst (v := (nI 5)) hx hb dX5_count_34 (by decide) ?_
  refine lv_icmp_ne (tgt := 52) hx hb dX5_count_35 (by decide) (fun _ => ?_) (fun c => absurd c (fun z => by rw [z] at h; revert h; decide))
  refine lv_iload_n hx hb dX5_count_52 rfl (lv_at hl 3 rfl) ?_
  refine lv_bipush (v := (nI 6)) hx hb dX5_count_53 (by decide) ?_
  refine lv_icmp_ne (tgt := 70) hx hb dX5_count_55 (by decide) (fun _ => ?_) (fun c => absurd c (fun z => by rw [z] at h; revert h; decide))
  refine lv_iinc (v := (nI 1)) (lv' := [(3, .int (nI 1)), (2, .int (nI 0)), (0, .ref (ad 0)), (1, .int x)]) hx hb dX5_count_70 hl (k := 0) rfl (by decide) (by decide) rfl (fun ls hl => ?_)
  refine lv_goto (tgt := 9) hx hb dX5_count_73 (by decide) ?_
  refine lv_iload_n hx hb dX5_count_9 rfl (lv_at hl 0 rfl) ?_
  refine lv_bipush (v := (nI 8)) hx hb dX5_count_10 (by decide) ?_
  refine lv_icmp_ge (tgt := 76) hx hb dX5_count_12 (by decide) (fun c => absurd c (by decide)) (fun _ => ?_)
  refine lv_iload_n hx hb dX5_count_15 rfl (lv_at hl 3 rfl) ?_
  refine lv_if_ne (tgt := 33) hx hb dX5_count_16 (by decide) (fun _ => ?_) (fun c => absurd c (fun z => by rw [z] at h; revert h; decide))
  refine lv_iload_n hx hb dX5_count_33 rfl (lv_at hl 3 rfl) ?_
  refine lv_iconst (v := (nI 5)) hx hb dX5_count_34 (by decide) ?_
  refine lv_icmp_ne (tgt := 52) hx hb dX5_count_35 (by decide) (fun _ => ?_) (fun c => absurd c (fun z => by rw [z] at h; revert h; decide))
  refine lv_iload_n hx hb dX5_count_52 rfl (lv_at hl 3 rfl) ?_
  refine lv_bipush (v := (nI 6)) hx hb dX5_count_53 (by decide) ?_
  refine lv_icmp_ne (tgt := 70) hx hb dX5_count_55 (by decide) (fun _ => ?_) (fun c => absurd c (fun z => by rw [z] at h; revert h; decide))
  refine lv_iinc (v := (nI 2)) (lv' := [(3, .int (nI 2)), (2, .int (nI 0)), (0, .ref (ad 0)), (1, .int x)]) hx hb dX5_count_70 hl (k := 0) rfl (by decide) (by decide) rfl (fun ls hl => ?_)
  refine lv_goto (tgt := 9) hx hb dX5_count_73 (by decide) ?_
  refine lv_iload_n hx hb dX5_count_9 rfl (lv_at hl 0 rfl) ?_
  refine lv_bipush (v := (nI 8)) hx hb dX5_count_10 (by decide) ?_
  refine lv_icmp_ge (tgt := 76) hx hb dX5_count_12 (by decide) (fun c => absurd c (by decide)) (fun _ => ?_)
  refine lv_iload_n hx hb dX5_count_15 rfl (lv_at hl 3 rfl) ?_
  refine lv_if_ne (tgt := 33) hx hb dX5_count_16 (by decide) (fun _ => ?_) (fun c => absurd c (fun z => by rw [z] at h; revert h; decide))
  refine lv_iload_n hx hb dX5_count_33 rfl (lv_at hl 3 rfl) ?_
  refine lv_iconst (v := (nI 5)) hx hb dX5_count_34 (by decide) ?_
  refine lv_icmp_ne (tgt := 52) hx hb dX5_count_35 (by decide) (fun _ => ?_) (fun c => absurd c (fun z => by rw [z] at h; revert h; decide))
  refine lv_iload_n hx hb dX5_count_52 rfl (lv_at hl 3 rfl) ?_
  refine lv_bipush (v := (nI 6)) hx hb dX5_count_53 (by decide) ?_
  refine lv_icmp_ne (tgt := 70) hx hb dX5_count_55 (by decide) (fun _ => ?_) (fun c => absurd c (fun z => by rw [z] at h; revert h; decide))
  refine lv_iinc (v := (nI 3)) (lv' := [(3, .int (nI 3)), (2, .int (nI 0)), (0, .ref (ad 0)), (1, .int x)]) hx hb dX5_count_70 hl (k := 0) rfl (by decide) (by decide) rfl (fun ls hl => ?_)
  refine lv_goto (tgt := 9) hx hb dX5_count_73 (by decide) ?_
  refine lv_iload_n hx hb dX5_count_9 rfl (lv_at hl 0 rfl) ?_
  refine lv_bipush (v := (nI 8)) hx hb dX5_count_10 (by decide) ?_
  refine lv_icmp_ge (tgt := 76) hx hb dX5_count_12 (by decide) (fun c => absurd c (by decide)) (fun _ => ?_)
  refine lv_iload_n hx hb dX5_count_15 rfl (lv_at hl 3 rfl) ?_
  refine lv_if_ne (tgt := 33) hx hb dX5_count_16 (by decide) (fun _ => ?_) (fun c => absurd c (fun z => by rw [z] at h; revert h; decide))
  refine lv_iload_n hx hb dX5_count_33 rfl (lv_at hl 3 rfl) ?_
  refine lv_iconst (v := (nI 5)) hx hb dX5_count_34 (by decide) ?_
  refine lv_icmp_ne (tgt := 52) hx hb dX5_count_35 (by decide) (fun _ => ?_) (fun c => absurd c (fun z => by rw [z] at h; revert h; decide))
  refine lv_iload_n hx hb dX5_count_52 rfl (lv_at hl 3 rfl) ?_
  refine lv_bipush (v := (nI 6)) hx hb dX5_count_53 (by decide) ?_
  refine lv_icmp_ne (tgt := 70) hx hb dX5_count_55 (by decide) (fun _ => ?_) (fun c => absurd c (fun z => by rw [z] at h; revert h; decide))
  refine lv_iinc (v := (nI 4)) (lv' := [(3, .int (nI 4)), (2, .int (nI 0)), (0, .ref (ad 0)), (1, .int x)]) hx hb dX5_count_70 hl (k := 0) rfl (by decide) (by decide) rfl (fun ls hl => ?_)
  refine lv_goto (tgt := 9) hx hb dX5_count_73 (by decide) ?_
  refine lv_iload_n hx hb dX5_count_9 rfl (lv_at hl 0 rfl) ?_
  refine lv_bipush (v := (nI 8)) hx hb dX5_count_10 (by decide) ?_
  refine lv_icmp_ge (tgt := 76) hx hb dX5_count_12 (by decide) (fun c => absurd c (by decide)) (fun _ => ?_)
  refine lv_iload_n hx hb dX5_count_15 rfl (lv_at hl 3 rfl) ?_
  refine lv_if_ne (tgt := 33) hx hb dX5_count_16 (by decide) (fun _ => ?_) (fun c => absurd c (fun z => by rw [z] at h; revert h; decide))
  refine lv_iload_n hx hb dX5_count_33 rfl (lv_at hl 3 rfl) ?_
  refine lv_iconst (v := (nI 5)) hx hb dX5_count_34 (by decide) ?_
  refine lv_icmp_ne (tgt := 52) hx hb dX5_count_35 (by decide) (fun _ => ?_) (fun c => absurd c (fun z => by rw [z] at h; revert h; decide))
  refine lv_iload_n hx hb dX5_count_52 rfl (lv_at hl 3 rfl) ?_
  refine lv_bipush (v := (nI 6)) hx hb dX5_count_53 (by decide) ?_
  refine lv_icmp_ne (tgt := 70) hx hb dX5_count_55 (by decide) (fun _ => ?_) (fun c => absurd c (fun z => by rw [z] at h; revert h; decide))
  refine lv_iinc (v := (nI 5)) (lv' := [(3, .int (nI 5)), (2, .int (nI 0)), (0, .ref (ad 0)), (1, .int x)]) hx hb dX5_count_70 hl (k := 0) rfl (by decide) (by decide) rfl (fun ls hl => ?_)
  refine lv_goto (tgt := 9) hx hb dX5_count_73 (by decide) ?_
  refine lv_iload_n hx hb dX5_count_9 rfl (lv_at hl 0 rfl) ?_
  refine lv_bipush (v := (nI 8)) hx hb dX5_count_10 (by decide) ?_
  refine lv_icmp_ge (tgt := 76) hx hb dX5_count_12 (by decide) (fun c => absurd c (by decide)) (fun _ => ?_)
  refine lv_iload_n hx hb dX5_count_15 rfl (lv_at hl 3 rfl) ?_
  refine lv_if_ne (tgt := 33) hx hb dX5_count_16 (by decide) (fun _ => ?_) (fun c => absurd c (fun z => by rw [z] at h; revert h; decide))
  refine lv_iload_n hx hb dX5_count_33 rfl (lv_at hl 3 rfl) ?_
  refine lv_iconst (v := (nI 5)) hx hb dX5_count_34 (by decide) ?_
  refine lv_icmp_ne (tgt := 52) hx hb dX5_count_35 (by decide) (fun _ => ?_) (fun c => absurd c (fun z => by rw [z] at h; revert h; decide))
  refine lv_iload_n hx hb dX5_count_52 rfl (lv_at hl 3 rfl) ?_
  refine lv_bipush (v := (nI 6)) hx hb dX5_count_53 (by decide) ?_
  refine lv_icmp_ne (tgt := 70) hx hb dX5_count_55 (by decide) (fun _ => ?_) (fun c => absurd c (fun z => by rw [z] at h; revert h; decide))
  refine lv_iinc (v := (nI 6)) (lv' := [(3, .int (nI 6)), (2, .int (nI 0)), (0, .ref (ad 0)), (1, .int x)]) hx hb dX5_count_70 hl (k := 0) rfl (by decide) (by decide) rfl (fun ls hl => ?_)
  refine lv_goto (tgt := 9) hx hb dX5_count_73 (by decide) ?_
  refine lv_iload_n hx hb dX5_count_9 rfl (lv_at hl 0 rfl) ?_
  refine lv_bipush (v := (nI 8)) hx hb dX5_count_10 (by decide) ?_
  refine lv_icmp_ge (tgt := 76) hx hb dX5_count_12 (by decide) (fun c => absurd c (by decide)) (fun _ => ?_)
  refine lv_iload_n hx hb dX5_count_15 rfl (lv_at hl 3 rfl) ?_
  refine lv_if_ne (tgt := 33) hx hb dX5_count_16 (by decide) (fun _ => ?_) (fun c => absurd c (fun z => by rw [z] at h; revert h; decide))
  refine lv_iload_n hx hb dX5_count_33 rfl (lv_at hl 3 rfl) ?_
  refine lv_iconst (v := (nI 5)) hx hb dX5_count_34 (by decide) ?_
  refine lv_icmp_ne (tgt := 52) hx hb dX5_count_35 (by decide) (fun _ => ?_) (fun c => absurd c (fun z => by rw [z] at h; revert h; decide))
  refine lv_iload_n hx hb dX5_count_52 rfl (lv_at hl 3 rfl) ?_
  refine lv_bipush (v := (nI 6)) hx hb dX5_count_53 (by decide) ?_
  refine lv_icmp_ne (tgt := 70) hx hb dX5_count_55 (by decide) (fun _ => ?_) (fun c => absurd c (fun z => by rw [z] at h; revert h; decide))
  refine lv_iinc (v := (nI 7)) (lv' := [(3, .int (nI 7)), (2, .int (nI 0)), (0, .ref (ad 0)), (1, .int x)]) hx hb dX5_count_70 hl (k := 0) rfl (by decide) (by decide) rfl (fun ls hl => ?_)
  refine lv_goto (tgt := 9) hx hb dX5_count_73 (by decide) ?_
  refine lv_iload_n hx hb dX5_count_9 rfl (lv_at hl 0 rfl) ?_
  refine lv_bipush (v := (nI 8)) hx hb dX5_count_10 (by decide) ?_
  refine lv_icmp_ge (tgt := 76) hx hb dX5_count_12 (by decide) (fun c => absurd c (by decide)) (fun _ => ?_)
  refine lv_iload_n hx hb dX5_count_15 rfl (lv_at hl 3 rfl) ?_
  refine lv_if_ne (tgt := 33) hx hb dX5_count_16 (by decide) (fun _ => ?_) (fun c => absurd c (fun z => by rw [z] at h; revert h; decide))
  refine lv_iload_n hx hb dX5_count_33 rfl (lv_at hl 3 rfl) ?_
  refine lv_iconst (v := (nI 5)) hx hb dX5_count_34 (by decide) ?_
  refine lv_icmp_ne (tgt := 52) hx hb dX5_count_35 (by decide) (fun _ => ?_) (fun c => absurd c (fun z => by rw [z] at h; revert h; decide))
  refine lv_iload_n hx hb dX5_count_52 rfl (lv_at hl 3 rfl) ?_
  refine lv_bipush (v := (nI 6)) hx hb dX5_count_53 (by decide) ?_
  refine lv_icmp_ne (tgt := 70) hx hb dX5_count_55 (by decide) (fun _ => ?_) (fun c => absurd c (fun z => by rw [z] at h; revert h; decide))
  refine lv_iinc (v := (nI 8)) (lv' := [(3, .int (nI 8)), (2, .int (nI 0)), (0, .ref (ad 0)), (1, .int x)]) hx hb dX5_count_70 hl (k := 0) rfl (by decide) (by decide) rfl (fun ls hl => ?_)
  refine lv_goto (tgt := 9) hx hb dX5_count_73 (by decide) ?_
  refine lv_iload_n hx hb dX5_count_9 rfl (lv_at hl 0 rfl) ?_
  refine lv_bipush (v := (nI 8)) hx hb dX5_count_10 (by decide) ?_
  refine lv_icmp_ge (tgt := 76) hx hb dX5_count_12 (by decide) (fun _ => ?_) (fun c => absurd (by decide) c)
  refine lv_iload_n hx hb dX5_count_76 rfl (lv_at hl 3 rfl) ?_
  refine lv_tableOut (tgt := 159) hx hb dX5_count_77 h (by decide) ?_
  refine lv_iconst (v := (-1)) hx hb dX5_count_159 (by decide) ?_
  exact kq_iret hx hb hr hlk hP hD hS dX5_count_160
end S23
