/-! The start: what the Statement gives of it, as the class's premises. -/
section LGA
def tm_nw : List Cond := [.isRef (.static Bundle.tN "UNASSIGNED_STACK" Bundle.steD), .isRef (.static Bundle.tN "SUPPRESSED_SENTINEL" Bundle.listD), .isRef (.static "TrustModule" "TOLD_SIZES" "[I"), .arrayOf (.static "TrustModule" "TOLD_SIZES" "[I") .int, .eq (.length (.static "TrustModule" "TOLD_SIZES" "[I")) (.int 5),
  .eq (.elem (.static "TrustModule" "TOLD_SIZES" "[I") (.int 0)) (.int 8), .eq (.elem (.static "TrustModule" "TOLD_SIZES" "[I") (.int 1)) (.int 8), .eq (.elem (.static "TrustModule" "TOLD_SIZES" "[I") (.int 2)) (.int 4), .eq (.elem (.static "TrustModule" "TOLD_SIZES" "[I") (.int 3)) (.int 32), .eq (.elem (.static "TrustModule" "TOLD_SIZES" "[I") (.int 4)) (.int 3)] ++
  tm_str.map (fun q => Cond.exactly (.string "TrustModule" q.1) "java/lang/String") ++ tm_ex.flatMap (fun a => (tm_ex.filter (fun b => decide (a ≠ b))).map (fun b => Cond.not (.castable a b)))
set_option maxRecDepth 100000 in
theorem tm_nwC : tm_nw.all (fun w => (flatC narrow_1).contains w) = true := by decide +kernel
theorem tm_nwin {args : Array Value} {s : State} (h : (Jvm.Cond.and given_1 narrow_1).before args s = true) : ∀ w ∈ tm_nw, w.before args s = true := by
  intro w hw
  rw [Cond.before_and, Bool.and_eq_true] at h
  exact flat_of_before _ h.2 w (List.elem_iff.mp (List.all_eq_true.mp tm_nwC w hw))
def tm_tw : List Cond := [.laysStatic Bundle.tN "UNASSIGNED_STACK" Bundle.steD, .laysStatic Bundle.tN "SUPPRESSED_SENTINEL" Bundle.listD, .initialized Bundle.tN, .laysStatic "TrustModule" "TOLD_SIZES" "[I", .initialized "TrustModule"] ++ tm_str.map (fun q => Cond.stringRef "TrustModule" q.1 q.2) ++ tm_aot.map (fun t => Cond.arrayOver t)
set_option maxRecDepth 100000 in
theorem tm_twC : tm_tw.all (fun w => tables_1.contains w) = true := by decide +kernel
theorem tm_start {args : Array Value} {s : State} {A : Nat → Prop} (hts : ∀ w ∈ lw_tbl, w.before args s = true) (hgv : (Jvm.Cond.and given_1 narrow_1).before args s = true) (hA : ∀ a : Nat, a < s.heap.size → ¬ A a) : ∃ gs : Nat → Nat, tm_GC gs A s := by
  have hn := tm_nwin hgv
  have ht : ∀ w ∈ tm_tw, w.before args s = true := fun w hw => hts w (List.mem_append_right _ (List.elem_iff.mp (List.all_eq_true.mp tm_twC w hw)))
  have hst : ∀ k : Nat, ∃ a : Nat, ∀ tx, (k, tx) ∈ tm_str → vk_R RX4 k tx a s := by
    intro k
    by_cases hk : ∃ tx, (k, tx) ∈ tm_str
    · obtain ⟨tx0, h0⟩ := hk
      have he := hn (.exactly (.string "TrustModule" k) "java/lang/String") (List.mem_append_left _ (List.mem_append_right _ (List.mem_map.mpr ⟨(k, tx0), h0, rfl⟩)))
      obtain ⟨a, -, -, -, ha, -⟩ := Cond.exactly_spec he
      exact ⟨a, fun tx h => vk_R.of (A := args) (ht _ (List.mem_append_left _ (List.mem_append_right _ (List.mem_map.mpr ⟨(k, tx), h, rfl⟩)))) ha⟩
    · exact ⟨0, fun tx h => absurd ⟨tx, h⟩ hk⟩
  obtain ⟨g, hg⟩ := Classical.axiomOfChoice hst
  have hel : ∀ j : Nat, j < 5 → (Term.elem (.static "TrustModule" "TOLD_SIZES" "[I") (.int (Int32.ofNat j))).eval args s none [] s = some (tm_sz j) := by
    intro j hj
    match j, hj with
    | 0, _ => exact va_eqt (z := 8) (hn (.eq (.elem (.static "TrustModule" "TOLD_SIZES" "[I") (.int 0)) (.int 8)) (by simp [tm_nw]))
    | 1, _ => exact va_eqt (z := 8) (hn (.eq (.elem (.static "TrustModule" "TOLD_SIZES" "[I") (.int 1)) (.int 8)) (by simp [tm_nw]))
    | 2, _ => exact va_eqt (z := 4) (hn (.eq (.elem (.static "TrustModule" "TOLD_SIZES" "[I") (.int 2)) (.int 4)) (by simp [tm_nw]))
    | 3, _ => exact va_eqt (z := 32) (hn (.eq (.elem (.static "TrustModule" "TOLD_SIZES" "[I") (.int 3)) (.int 32)) (by simp [tm_nw]))
    | 4, _ => exact va_eqt (z := 3) (hn (.eq (.elem (.static "TrustModule" "TOLD_SIZES" "[I") (.int 4)) (.int 3)) (by simp [tm_nw]))
  obtain ⟨t, hte, hT⟩ := va_Tof (f := tm_sz) (N := 5) (A := A) (by decide) (hn (.arrayOf (.static "TrustModule" "TOLD_SIZES" "[I") .int) (by simp [tm_nw])) (va_eqt (z := 5) (hn (.eq (.length (.static "TrustModule" "TOLD_SIZES" "[I")) (.int 5)) (by simp [tm_nw]))) hel hA
  refine ⟨fun i => if i = 100 then t else g i, ⟨?_, ?_, ?_, ?_, ?_, ?_, ?_⟩, ?_⟩
  · exact vx_Zqof (ht _ (by simp [tm_tw])) (ht _ (by simp [tm_tw])) (hn _ (by simp [tm_nw])) hA
  · exact vx_Zqof (ht _ (by simp [tm_tw])) (ht _ (by simp [tm_tw])) (hn _ (by simp [tm_nw])) hA
  · intro q hq
    have hne : q.1 ≠ 100 := by
      intro h
      have : tm_str.all (fun q => decide (q.1 ≠ 100)) = true := by decide
      exact (of_decide_eq_true (List.all_eq_true.mp this q hq)) h
    show vk_R RX4 q.1 q.2 (if q.1 = 100 then t else g q.1) s
    rw [if_neg hne]
    exact hg q.1 q.2 hq
  · exact va_Zof (ht (.laysStatic "TrustModule" "TOLD_SIZES" "[I") (by simp [tm_tw])) (ht (.initialized "TrustModule") (by simp [tm_tw])) hte hA
  · exact hT
  · intro w hw
    exact va_Nw.of (tm_xtab (List.mem_filter.mp hw).2) (hts w (List.mem_append_right _ (List.mem_filter.mp hw).1))
  · intro a ha b hb hab
    exact va_Nc.of (args := args) (hn _ (List.mem_append_right _ (List.mem_flatMap.mpr ⟨a, ha, List.mem_map.mpr ⟨b, List.mem_filter.mpr ⟨hb, decide_eq_true hab⟩, rfl⟩⟩)))
  · intro ty hty
    exact ht (.arrayOver ty) (List.mem_append_right _ (List.mem_map.mpr ⟨ty, hty, rfl⟩))
theorem tm_known {args : Array Value} {s : State} (hts : ∀ w ∈ tm_B, w.before args s = true) : ∃ (dC : Nat → ClassId) (dI : Nat → Nat → Nat), va_K (dC, dI) vwCl [] s := by
  obtain ⟨c0, i0, h0⟩ := u_known (C := RX0) (T := TX0) (N := 2) (n := 2) hts inB_X0 (hts _ mb_70)
  obtain ⟨c1, i1, h1⟩ := u_known (C := RX1) (T := TX1) (N := 5) (n := 5) hts inB_X1 (hts _ mb_102)
  obtain ⟨c2, i2, h2⟩ := u_known (C := RX2) (T := TX2) (N := 6) (n := 6) hts inB_X2 (hts _ mb_39)
  obtain ⟨c3, i3, h3⟩ := u_known (C := RX3) (T := TX3) (N := 3) (n := 3) hts inB_X3 (hts _ mb_84)
  obtain ⟨c4, i4, h4⟩ := u_known (C := RX4) (T := TX4) (N := 15) (n := 15) hts inB_X4 (hts _ mb_16)
  obtain ⟨c5, i5, h5⟩ := u_known (C := RX5) (T := TX5) (N := 28) (n := 28) hts inB_X5 (hts _ mb_609)
  refine ⟨fun k => [c0, c1, c2, c3, c4, c5].getD k 0, fun k => [i0, i1, i2, i3, i4, i5].getD k i0, ⟨?_, fun k q h => by simp at h⟩⟩
  intro k q hq
  match k, hq with
  | 0, hq => cases hq; exact h0
  | 1, hq => cases hq; exact h1
  | 2, hq => cases hq; exact h2
  | 3, hq => cases hq; exact h3
  | 4, hq => cases hq; exact h4
  | 5, hq => cases hq; exact h5
  | k + 6, hq => simp [vwCl] at hq
/-- a world by other names of its addresses -/
theorem tc_ext {a a' : Nat → Nat} {cx : Nat → ClassId} {u : tm_S} {D : va_G} {cl : List vw_C} {H : Heap} (h : ∀ i, i < 36 → a i = a' i) (hP : va_P D cl (tc_w a cx u) H) : va_P D cl (tc_w a' cx u) H := by
  intro k q hk
  obtain ⟨h36, rfl⟩ := tm_idx hk
  have z := hP k _ (tm_at h36 rfl)
  rw [h k h36] at z
  match k, h36, z with
  | 0, _, z =>
    have e : tc_ce a cx u 0 = tc_ce a' cx u 0 := by simp only [tc_ce]; rw [h 1 (by omega), h 2 (by omega), h 3 (by omega), h 4 (by omega), h 5 (by omega), h 6 (by omega)]
    rw [e] at z; exact z
  | 1, _, z => exact z
  | 2, _, z =>
    show H[a' 2]? = some (arrV (cx 1) 2 (fun j => va_rf (some (a' (j + 7)))))
    rw [arrV_ext (g := fun j => va_rf (some (a (j + 7)))) (fun j hj => by rw [h (j + 7) (by omega)])]; exact z
  | 3, _, z =>
    show H[a' 3]? = some (arrV (cx 2) 4 (fun j => va_rf (some (a' (j + 9)))))
    rw [arrV_ext (g := fun j => va_rf (some (a (j + 9)))) (fun j hj => by rw [h (j + 9) (by omega)])]; exact z
  | 4, _, z =>
    show H[a' 4]? = some (arrV (cx 3) 8 (fun j => va_rf (some (a' (j + 13)))))
    rw [arrV_ext (g := fun j => va_rf (some (a (j + 13)))) (fun j hj => by rw [h (j + 13) (by omega)])]; exact z
  | 5, _, z =>
    show H[a' 5]? = some (arrV (cx 4) 3 (fun j => va_rf (some (a' (j + 29)))))
    rw [arrV_ext (g := fun j => va_rf (some (a (j + 29)))) (fun j hj => by rw [h (j + 29) (by omega)])]; exact z
  | 6, _, z =>
    show H[a' 6]? = some (arrV (cx 5) 4 (fun j => va_rf (some (a' (j + 32)))))
    rw [arrV_ext (g := fun j => va_rf (some (a (j + 32)))) (fun j hj => by rw [h (j + 32) (by omega)])]; exact z
  | n + 7, h36, z =>
    have e : tc_cb a cx u n = tc_cb a' cx u n := by
      unfold tc_cb
      by_cases hb : n < 14
      · rw [h (n - 6 + 21) (by omega)]
      · simp [hb, show ¬ n < 2 by omega, show ¬ n < 6 by omega]
    have z : va_at D cl (a' (n + 7), tc_cb a cx u n) H := z
    rw [e] at z
    exact z
theorem tr_ext {a a' : Nat → Nat} {cx : Nat → ClassId} {u : tm_S} {D : va_G} {cl : List vw_C} {H : Heap} (h : ∀ i, i < 19 → a i = a' i) (hP : va_P D cl (tr_w a cx u) H) : va_P D cl (tr_w a' cx u) H := by
  intro k q hk
  obtain ⟨h19, rfl⟩ := tm_idx hk
  have z := hP k _ (tm_at h19 rfl)
  rw [h k h19] at z
  have e : tr_ce a cx u k = tr_ce a' cx u k := by
    match k, h19 with
    | 0, _ =>
      simp only [tr_ce]
      rw [h 1 (by omega), h 2 (by omega), h 3 (by omega), h 4 (by omega), h 5 (by omega), h 6 (by omega), h 7 (by omega), h 8 (by omega), h 9 (by omega), h 10 (by omega), h 11 (by omega), h 12 (by omega), h 13 (by omega), h 14 (by omega), h 15 (by omega), h 16 (by omega), h 17 (by omega), h 18 (by omega)]
    | 1, _ => rfl
    | 2, _ => rfl
    | 3, _ => rfl
    | 4, _ => rfl
    | 5, _ => rfl
    | 6, _ => rfl
    | 7, _ => rfl
    | 8, _ => rfl
    | 9, _ => rfl
    | 10, _ => rfl
    | 11, _ => rfl
    | 12, _ => rfl
    | 13, _ => rfl
    | 14, _ => rfl
    | 15, _ => rfl
    | 16, _ => rfl
    | 17, _ => rfl
    | 18, _ => rfl
    | k + 19, h => exact absurd h (by omega)
  rw [e] at z
  exact z
/-- the script, as an array that nobody writes -/
theorem tm_script {b L : Nat} {xs : Nat → Int32} {s : State} {A : Nat → Prop} (hX : va_X b L xs s s.heap) (hb : ¬ A b) : va_T .int b L (fun j => .int (xs j)) A s s.heap := by
  obtain ⟨scr, h1, h2, h3, h4, h5⟩ := hX
  exact ⟨scr, h1, h2, h3, by omega, by rw [h4], h5, hb⟩
def tm_GT (b L : Nat) (xs : Nat → Int32) (A : Nat → Prop) (U : State) : Prop := va_T .int b L (fun j => .int (xs j)) A U U.heap
theorem tm_GTok {b L : Nat} {xs : Nat → Int32} : kq_ok (tm_GT b L xs) := fun A s U hW hq h => va_T.moved hW.alike (h.kept hq)
end LGA
