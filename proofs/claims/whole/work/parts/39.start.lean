/-! The law from its entry. -/
section LSA
theorem tm_Pl {D : va_G} {cl : List vw_C} {w1 w2 : va_W} {H : Heap} (h : va_P D cl (w1 ++ w2) H) : va_P D cl w1 H := fun k q hk => h k q (by rw [List.getElem?_append_left (List.getElem?_eq_some_iff.mp hk).1]; exact hk)
theorem tm_Pr {D : va_G} {cl : List vw_C} {w1 w2 : va_W} {H : Heap} (h : va_P D cl (w1 ++ w2) H) : va_P D cl w2 H := fun k q hk => h (w1.length + k) q (by rw [List.getElem?_append_right (by omega), Nat.add_sub_cancel_left]; exact hk)
theorem tm_Dl {A : Nat → Prop} {w1 w2 : va_W} (h : va_D A (w1 ++ w2)) : va_D A w1 :=
  ⟨fun i j p q hi hj he => h.1 i j p q (by rw [List.getElem?_append_left (List.getElem?_eq_some_iff.mp hi).1]; exact hi) (by rw [List.getElem?_append_left (List.getElem?_eq_some_iff.mp hj).1]; exact hj) he, fun k q hk => h.2 k q (by rw [List.getElem?_append_left (List.getElem?_eq_some_iff.mp hk).1]; exact hk)⟩
theorem tm_wl {n : Nat} {ad : Nat → Nat} {f : Nat → va_E} : (tm_w n ad f).length = n := by simp [tm_w]
theorem c_cell {l : Launch} {D : va_G} {tys : List (ClassId × FieldType)} {w : va_W} {b L : Nat} {xs : Nat → Int32} (hL : L ≤ 4097) : kq_M l yL_cell wsL_cell { frames := 0, cells := 0, slots := 0, locals := 0 } [.ref b, .int (nI 0)] D vwCl tys (tm_GT b L xs) w w (some (.int (if 0 < L then xs 0 else 0))) := by
  refine kq_ofW (cc := cL_cell) (maxL := 2) (ret := (some .int)) (R0 := RL) (by decide) rfl rfl (Nat.le_of_ble_eq_true rfl) ?_
  intro p e s m below meth c A ls hx hb hr hlk hml hown hts hP hK hD hA hG hS hl
  have hl : lv_has ls 2 [(0, .ref b), (1, .int (nI 0))] := hl
  have hT : va_T .int b L (fun j => .int (xs j)) A s s.heap := hG
  refine lv_iload_n hx hb dL_cell_0 rfl (lv_at hl 1 rfl) ?_
  refine lv_aload_n hx hb dL_cell_1 rfl (lv_at hl 0 rfl) ?_
  refine va_tlen hx hb hT hS (v := nI L) rfl dL_cell_2 ?_
  by_cases h0 : 0 < L
  · rw [if_pos h0]
    refine lv_icmp_ge (tgt := 12) hx hb dL_cell_3 (by decide) (fun c => absurd c (nI_ge h0 (by omega))) (fun _ => ?_)
    refine lv_aload_n hx hb dL_cell_6 rfl (lv_at hl 0 rfl) ?_
    refine lv_iload_n hx hb dL_cell_7 rfl (lv_at hl 1 rfl) ?_
    refine ks_ld hx hb hT hS hL (j := 0) h0 dL_cell_8 ?_
    refine lv_goto (tgt := 13) hx hb dL_cell_9 (by decide) ?_
    exact kq_iret hx hb hr hlk hP hD hS dL_cell_13
  · rw [if_neg h0]
    refine lv_icmp_ge (tgt := 12) hx hb dL_cell_3 (by decide) (fun _ => ?_) (fun c => absurd (nI_le (by omega) (by omega)) c)
    refine lv_iconst (v := 0) hx hb dL_cell_12 (by decide) ?_
    exact kq_iret hx hb hr hlk hP hD hS dL_cell_13
set_option maxHeartbeats 8000000 in
set_option maxRecDepth 100000 in
theorem whole_start {p : Program} {e : Env} {s : State} {m : MethodId} {below : List Frame} {meth : Method} {c : Code} (l : Launch) (hl9 : l.stackTraces = false) {b L : Nat} {xs : Nat → Int32} (hL : L ≤ 4097) (C0 : lw_At p s m meth c b L xs) : W p l e room_1 s m #[Value.ref b] below meth c s.heap [] 0 0 (lw_Z below #[Value.ref b] s) (entryFrame m ([Value.ref b] : List Value).toArray 10) := by
  obtain ⟨hx, hb, hr, hml, hown, hts0, hX, hbl, hlocks, hgv⟩ := C0
  have hown : s.vm.findClass RL = some m.cls := hown
  have hts : ∀ w ∈ tm_B, w.before #[Value.ref b] s = true := fun w hw => hts0 w (List.mem_filter.mp hw).1
  have hA : ∀ q : Nat, s.heap.size ≤ q → (fun q : Nat => s.heap.size ≤ q) q := fun _ h => h
  have hbA : ¬ (fun q : Nat => s.heap.size ≤ q) b := Nat.not_le.mpr hbl
  obtain ⟨gs, hGC⟩ := tm_start (A := fun q : Nat => s.heap.size ≤ q) hts0 hgv (fun a ha => Nat.not_le.mpr ha)
  obtain ⟨dC, dI, hK⟩ := tm_known hts
  have hT := tm_script hX hbA
  have hS : va_S (fun q : Nat => s.heap.size ≤ q) s.heap s.heap [] := va_S.rf
  have hP : va_P (dC, dI) vwCl [] s.heap := fun k q h => by simp at h
  have hD : va_D (fun q : Nat => s.heap.size ≤ q) [] := ⟨fun i j p q h => by simp at h, fun k q h => by simp at h⟩
  have hl := lv_entry ([.ref b]) (n := 10) (Nat.le_of_ble_eq_true rfl)
  rw [lg_entry_eq]
  generalize (lg_sl ([.ref b]) ++ List.replicate (10 - (lg_sl ([.ref b])).length) Slot.unset).toArray = ls at hl ⊢
  have hl : lv_has ls 10 [(0, .ref b)] := hl
  obtain ⟨sd, hsd⟩ : ∃ sd : Int32, sd = (if 0 < L then xs 0 else 0) := ⟨_, rfl⟩
  have hcell : ∀ (tys : List (ClassId × FieldType)) (w : va_W), kq_M l yL_cell wsL_cell { frames := 0, cells := 0, slots := 0, locals := 0 } [.ref b, .int (nI 0)] (dC, dI) vwCl tys (tm_GT b L xs) w w (some (.int sd)) := fun tys w => by rw [hsd]; exact c_cell hL
  refine va_new (D := (dC, dI)) (ci := 4) (C := RX4) (T := TX4) (N := 15) (fs := [.null, .null, .null, .null, .null, .null, .int 0, .long 0, .int 0, .int 0, .int 0, .int 0, .double 0, .double 0, .double 0]) hx hb hts inB_X4 tyX4 tyX4_ok hown (hts _ mb_15) (hts _ mb_16) (hts _ mb_1) hK hP hD hS hA rfl dfX4 (Nat.le_of_ble_eq_true rfl) (Nat.le_of_ble_eq_true rfl) dL_law_0 (fun q0 H hP hD hS => ?_)
  have hP : va_P (dC, dI) vwCl [(q0, .inr (4, [.null, .null, .null, .null, .null, .null, .int 0, .long 0, .int 0, .int 0, .int 0, .int 0, .double 0, .double 0, .double 0]))] H := hP
  have hD : va_D (fun q : Nat => s.heap.size ≤ q) [(q0, .inr (4, [.null, .null, .null, .null, .null, .null, .int 0, .long 0, .int 0, .int 0, .int 0, .int 0, .double 0, .double 0, .double 0]))] := hD
  refine lv_dup hx hb dL_law_3 rfl ?_
  refine lv_aload_n hx hb dL_law_4 rfl (lv_at hl 0 rfl) ?_
  refine lv_iconst (v := nI 0) hx hb dL_law_5 (by decide) ?_
  refine kq_cS (st1 := [.int sd, .ref q0, .ref q0]) ⟨hx, hb, hml, hown, hts⟩ (hcell _ _) (va_cwS 2 hts gL_91_L_cell rfl rfl rfl (by decide +kernel) ⟨Nat.le_of_ble_eq_true rfl, Nat.le_of_ble_eq_true rfl⟩) tm_GTok hK hP hD hA hT hS rfl hl.1 rfl rfl (Nat.le_of_ble_eq_true rfl) dL_law_6 ⟨Nat.le_of_ble_eq_true rfl, Nat.le_of_ble_eq_true rfl⟩ (fun H locs hP hD hS => ?_)
  refine kq_callE (A' := fun q : Nat => s.heap.size ≤ q) (va_runI (As := [.int sd]) (rest := [.ref q0]) ⟨hx, hb, hml, hown, hts⟩ (i_X4 (gs := gs) (b := q0) (sd := sd) (fun q : Nat => s.heap.size ≤ q)) (cwI 1 hts gL_97_X4_init rfl rfl rfl (hts _ mb_1) (hts _ mb_17) (hts _ mb_18) rfl (by decide +kernel) ⟨Nat.le_of_ble_eq_true rfl, Nat.le_of_ble_eq_true rfl⟩) ⟨kq_blind tm_GCok, kq_pre hK hP hD hA tm_GCok hGC hS⟩ rfl rfl hl.1 rfl (lv_room (Nat.le_of_ble_eq_true rfl)) dL_law_9 ⟨Nat.le_of_ble_eq_true rfl, Nat.le_of_ble_eq_true rfl⟩) hS (fun _ _ h => h) (fun _ h => h) (fun x H locs hP hD hS hKc _ _ => ?_)
  obtain ⟨a1, cc⟩ := x
  have hP : va_P (dC, dI) vwCl (tc_w (tm_ab q0 a1) cc (tm_u0 sd)) H := hP
  have hD : va_D (fun q : Nat => s.heap.size ≤ q) (tc_w (tm_ab q0 a1) cc (tm_u0 sd)) := hD
  have hKc : va_K (dC, dI) vwCl (tc_ty cc) s := hKc
  obtain ⟨aC, haC⟩ : ∃ a : Nat → Nat, a = tm_ab q0 a1 := ⟨_, rfl⟩
  have hq0 : aC 0 = q0 := by rw [haC]; rfl
  rw [← haC] at hP hD
  refine lv_astore_n (lv' := [(1, .ref q0), (0, .ref b)]) hx hb dL_law_12 rfl hl (by decide) rfl (fun ls hl => ?_)
  refine va_new (D := (dC, dI)) (ci := 5) (C := RX5) (T := TX5) (N := 28) (fs := [.null, .null, .null, .null, .null, .null, .null, .null, .null, .null, .null, .null, .null, .null, .null, .null, .null, .null, .int 0, .int 0, .int 0, .int 0, .int 0, .int 0, .long 0, .double 0, .double 0, .double 0]) hx hb hts inB_X5 tyX5 tyX5_ok hown (hts _ mb_608) (hts _ mb_609) (hts _ mb_6) hKc hP hD hS hA rfl dfX5 (Nat.le_of_ble_eq_true rfl) (Nat.le_of_ble_eq_true rfl) dL_law_13 (fun q1 H hP hD hS => ?_)
  refine lv_dup hx hb dL_law_16 rfl ?_
  refine lv_aload_n hx hb dL_law_17 rfl (lv_at hl 1 rfl) ?_
  refine lv_iconst (v := nI 0) hx hb dL_law_18 (by decide) ?_
  refine kq_cS (st1 := [.int sd, .ref q1, .ref q1]) ⟨hx, hb, hml, hown, hts⟩ (hcell _ _) (va_cwS 2 hts gL_91_L_cell rfl rfl rfl (by decide +kernel) ⟨Nat.le_of_ble_eq_true rfl, Nat.le_of_ble_eq_true rfl⟩) tm_GTok hKc hP hD hA hT hS rfl hl.1 rfl rfl (Nat.le_of_ble_eq_true rfl) dL_law_19 ⟨Nat.le_of_ble_eq_true rfl, Nat.le_of_ble_eq_true rfl⟩ (fun H locs hP hD hS => ?_)
  have hPq : va_P (dC, dI) vwCl [(q1, .inr (5, [.null, .null, .null, .null, .null, .null, .null, .null, .null, .null, .null, .null, .null, .null, .null, .null, .null, .null, .int 0, .int 0, .int 0, .int 0, .int 0, .int 0, .long 0, .double 0, .double 0, .double 0]))] H := tm_Pr hP
  have hPc : va_P (dC, dI) vwCl (tc_w aC cc (tm_u0 sd)) H := tm_Pl hP
  have hDc : va_D (fun q : Nat => s.heap.size ≤ q) (tc_w aC cc (tm_u0 sd)) := tm_Dl hD
  have hq1 : s.heap.size ≤ q1 := hD.2 36 (q1, .inr (5, [.null, .null, .null, .null, .null, .null, .null, .null, .null, .null, .null, .null, .null, .null, .null, .null, .null, .null, .int 0, .int 0, .int 0, .int 0, .int 0, .int 0, .long 0, .double 0, .double 0, .double 0])) (by rw [List.getElem?_append_right (by rw [tm_wl]; omega), tm_wl]; rfl)
  have hne : ∀ k, k < 36 → aC k ≠ q1 := fun k hk he => by
    have := hD.1 k 36 (aC k, _) (q1, .inr (5, [.null, .null, .null, .null, .null, .null, .null, .null, .null, .null, .null, .null, .null, .null, .null, .null, .null, .null, .int 0, .int 0, .int 0, .int 0, .int 0, .int 0, .long 0, .double 0, .double 0, .double 0])) (by rw [List.getElem?_append_left (by rw [tm_wl]; exact hk)]; exact tm_at hk rfl) (by rw [List.getElem?_append_right (by rw [tm_wl]; omega), tm_wl]; rfl) he
    omega
  have hlt : ∀ k, k < 36 → aC k < H.size := fun k hk => (hPc k _ (tm_at hk rfl)).lt
  have hA2 : ∀ q : Nat, (q = q1 ∨ H.size ≤ q) → s.heap.size ≤ q := fun q hq => by
    rcases hq with rfl | hq
    · exact hq1
    · exact Nat.le_trans hS.1 hq
  refine kq_callE (A' := fun q : Nat => q = q1 ∨ H.size ≤ q) (va_runI (As := [.int sd]) (rest := [.ref q1]) ⟨hx, hb, hml, hown, hts⟩ (i_X5 (b := q1) (sd := sd) (fun q : Nat => q = q1 ∨ H.size ≤ q)) (cwI 1 hts gL_101_X5_init rfl rfl rfl (hts _ mb_6) (hts _ mb_610) (hts _ mb_611) rfl (by decide +kernel) ⟨Nat.le_of_ble_eq_true rfl, Nat.le_of_ble_eq_true rfl⟩) ⟨kq_blind kq_okT, fun U hU hW => ⟨rfl, by rw [hU]; exact hPq, va_K.moved hW.alike hK, ⟨fun i j p q hi hj he => by
      have h1 := (List.getElem?_eq_some_iff.mp hi).1
      have h2 := (List.getElem?_eq_some_iff.mp hj).1
      simp at h1 h2; omega, fun k q hk => by
      have h1 := (List.getElem?_eq_some_iff.mp hk).1
      have h1 : k = 0 := by simpa using h1
      subst h1
      cases hk
      exact Or.inl rfl⟩, fun q hq => Or.inr (by rw [hU] at hq; exact hq), trivial⟩⟩ rfl rfl hl.1 rfl (lv_room (Nat.le_of_ble_eq_true rfl)) dL_law_22 ⟨Nat.le_of_ble_eq_true rfl, Nat.le_of_ble_eq_true rfl⟩) hS (fun q _ h => hA2 q h) hA2 (fun x H1 locs hPr hDr hS hKr _ hk1 => ?_)
  obtain ⟨a2, cr⟩ := x
  have hPr : va_P (dC, dI) vwCl (tr_w (tm_ab q1 a2) cr (tm_v0 sd)) H1 := hPr
  have hDr : va_D (fun q : Nat => q = q1 ∨ H.size ≤ q) (tr_w (tm_ab q1 a2) cr (tm_v0 sd)) := hDr
  have hKr : va_K (dC, dI) vwCl (tr_ty cr) s := hKr
  obtain ⟨aR, haR⟩ : ∃ a : Nat → Nat, a = tm_ab q1 a2 := ⟨_, rfl⟩
  have hq1' : aR 0 = q1 := by rw [haR]; rfl
  rw [← haR] at hPr hDr
  have hPc : va_P (dC, dI) vwCl (tc_w aC cc (tm_u0 sd)) H1 := hPc.kept (fun k q hk => by
    obtain ⟨h36, rfl⟩ := tm_idx hk
    refine hk1 _ (hlt k h36) (fun hq => ?_)
    rcases hq with hq | hq
    · exact hne k h36 hq
    · have := hlt k h36; exact absurd hq (by omega))
  have hD : va_D (fun q : Nat => s.heap.size ≤ q) (tc_w aC cc (tm_u0 sd) ++ tr_w aR cr (tm_v0 sd)) := hDc.app (hDr.weaken (fun _ q _ h => hA2 q.1 h)) (fun i j p q hi hj he => by
    obtain ⟨h36, rfl⟩ := tm_idx hi
    have h2 := hDr.2 j q hj
    rw [← he] at h2
    rcases h2 with h2 | h2
    · exact hne i h36 h2
    · have := hlt i h36; exact absurd h2 (by show ¬ H.size ≤ aC i; omega))
  have hP : va_P (dC, dI) vwCl (tc_w aC cc (tm_u0 sd) ++ tr_w aR cr (tm_v0 sd)) H1 := hPc.app hPr
  have hKA : va_K (dC, dI) vwCl (tc_ty cc ++ tr_ty cr) s := hKc.app hKr
  refine lv_astore_n (lv' := [(2, .ref q1), (1, .ref q0), (0, .ref b)]) hx hb dL_law_25 rfl hl (by decide) rfl (fun ls hl => ?_)
  refine lv_iconst (v := nI 1) hx hb dL_law_26 (by decide) ?_
  refine va_newa (atype := .long) (ty := .long) (N' := 1) (a0 := (1, .inr (.inl (fun _ => 0)))) hx hb (hts _ mb_69) rfl hKA hP hD hS hA (fun _ => rfl) (by decide) (nI_clamp (by decide)) (by decide) (Nat.le_of_ble_eq_true rfl) (Nat.le_of_ble_eq_true rfl) dL_law_27 (fun q5 cA H2 hK9 hP hD hS => ?_)
  rw [show cA = cc 0 from tm_sameK (fun C h => by cases h) hK9 (i := 0) rfl] at hP hD
  refine lv_astore_n (lv' := [(3, .ref q5), (2, .ref q1), (1, .ref q0), (0, .ref b)]) hx hb dL_law_29 rfl hl (by decide) rfl (fun ls hl => ?_)
  refine lv_iconst (v := nI 1) hx hb dL_law_30 (by decide) ?_
  refine va_newa (atype := .double) (ty := .double) (N' := 1) (a0 := (1, .inr (.inr (.inr (.inl (fun _ => 0)))))) hx hb (hts _ mb_857) rfl hKA hP hD hS hA (fun _ => rfl) (by decide) (nI_clamp (by decide)) (by decide) (Nat.le_of_ble_eq_true rfl) (Nat.le_of_ble_eq_true rfl) dL_law_31 (fun q6 cd H3 hK8 hP hD hS => ?_)
  refine lv_astore (lv' := [(4, .ref q6), (3, .ref q5), (2, .ref q1), (1, .ref q0), (0, .ref b)]) hx hb dL_law_33 hl (by decide) rfl (fun ls hl => ?_)
  refine lv_iconst (v := nI 1) hx hb dL_law_35 (by decide) ?_
  refine lv_istore (lv' := [(5, .int (nI 1)), (4, .ref q6), (3, .ref q5), (2, .ref q1), (1, .ref q0), (0, .ref b)]) hx hb dL_law_36 hl (by decide) rfl (fun ls hl => ?_)
  have hKL : va_K (dC, dI) vwCl (tl_ty cc cr cd) s := hK8
  obtain ⟨ad, had⟩ : ∃ ad : Nat → Nat, ad = fun i => if i < 36 then aC i else if i < 55 then aR (i - 36) else if i = 55 then q5 else q6 := ⟨_, rfl⟩
  have e1 : ∀ i, i < 36 → aC i = ad i := fun i hi => by rw [had]; exact (if_pos hi).symm
  have e2 : ∀ i, i < 19 → aR i = tr_ad ad i := fun i hi => by
    show aR i = ad (i + 36)
    rw [had]
    show aR i = if i + 36 < 36 then aC (i + 36) else if i + 36 < 55 then aR (i + 36 - 36) else if i + 36 = 55 then q5 else q6
    rw [if_neg (by omega), if_pos (by omega), Nat.add_sub_cancel]
  have e5 : ad 55 = q5 := by rw [had]; rfl
  have e6 : ad 56 = q6 := by rw [had]; rfl
  have hPc := tm_Pl (tm_Pl (tm_Pl hP))
  have hPr := tm_Pr (tm_Pl (tm_Pl hP))
  have hP5 := tm_Pr (tm_Pl hP) 0 _ rfl
  have hP6 := tm_Pr hP 0 _ rfl
  have hPL : va_P (dC, dI) vwCl (tl_w ad cc cr cd (tm_u0 sd) (tm_v0 sd) (0, 0)) H3 := tl_join (tc_ext e1 hPc) (tr_ext e2 hPr) (by rw [e5]; exact hP5) (by rw [e6]; exact hP6)
  have hq : ∀ k, k < 57 → ∃ y, (((tc_w aC cc (tm_u0 sd) ++ tr_w aR cr (tm_v0 sd)) ++ [(q5, Sum.inl (cc 0, 1, Sum.inr (Sum.inl (fun _ => 0))))]) ++ [(q6, Sum.inl (cd, 1, Sum.inr (Sum.inr (Sum.inr (Sum.inl (fun _ => 0))))))])[k]? = some (ad k, y) := by
    intro k hk
    by_cases h1 : k < 36
    · refine ⟨tc_ce aC cc (tm_u0 sd) k, ?_⟩
      rw [List.getElem?_append_left (by simp [tm_w]; omega), List.getElem?_append_left (by simp [tm_w]; omega), List.getElem?_append_left (by simp [tm_w]; omega), ← e1 k h1]
      exact tm_at h1 rfl
    by_cases h2 : k < 55
    · refine ⟨tr_ce aR cr (tm_v0 sd) (k - 36), ?_⟩
      rw [List.getElem?_append_left (by simp [tm_w]; omega), List.getElem?_append_left (by simp [tm_w]; omega), List.getElem?_append_right (by simp [tm_w]; omega), tm_wl]
      have e9 := e2 (k - 36) (by omega)
      have e8 : tr_ad ad (k - 36) = ad k := by show ad (k - 36 + 36) = ad k; rw [Nat.sub_add_cancel (by omega)]
      rw [← e8, ← e9]
      exact tm_at (by omega) rfl
    by_cases h3 : k = 55
    · subst h3
      refine ⟨Sum.inl (cc 0, 1, Sum.inr (Sum.inl (fun _ => 0))), ?_⟩
      rw [List.getElem?_append_left (by simp [tm_w]), List.getElem?_append_right (by simp [tm_w]), e5]
      simp [tm_w]
    · have h4 : k = 56 := by omega
      subst h4
      refine ⟨Sum.inl (cd, 1, Sum.inr (Sum.inr (Sum.inr (Sum.inl (fun _ => 0))))), ?_⟩
      rw [List.getElem?_append_right (by simp [tm_w]), e6]
      simp [tm_w]
  have hDL : va_D (fun q : Nat => s.heap.size ≤ q) (tl_w ad cc cr cd (tm_u0 sd) (tm_v0 sd) (0, 0)) := by
    refine ⟨fun i j p q hi hj he => ?_, fun k q hk => ?_⟩
    · obtain ⟨h1, rfl⟩ := tm_idx hi
      obtain ⟨h2, rfl⟩ := tm_idx hj
      obtain ⟨y1, z1⟩ := hq i h1
      obtain ⟨y2, z2⟩ := hq j h2
      exact hD.1 i j _ _ z1 z2 he
    · obtain ⟨h1, rfl⟩ := tm_idx hk
      obtain ⟨y1, z1⟩ := hq k h1
      exact hD.2 k (ad k, y1) z1
  have hl : lv_has ls 10 [(0, .ref b), (1, .ref (ad 0)), (2, .ref (ad 36)), (3, .ref (ad 55)), (4, .ref (ad 56)), (5, .int (nI 1))] := by
    rw [show ad 0 = q0 from (e1 0 (by omega)).symm.trans hq0, show ad 36 = q1 from (e2 0 (by omega)).symm.trans hq1', e5, e6]
    exact lv_sub hl [5, 4, 3, 2, 1, 0] rfl
  exact law_loop hl9 hx hb hr hlocks hml hown hts hT hL hKL hGC.1 514 1 _ _ (tm_u0 sd) (tm_v0 sd) (0, 0) H3 locs ls (by omega) (by decide) (by decide) (by omega) (tm_R0 sd) hPL hDL hS hl
end LSA
