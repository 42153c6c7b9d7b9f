/-! ONE STATE for the class and for the reference: longs, ints, doubles.
L: 0 seed, 1 pcr (8 * bank + i), 2 key value, 3 key policy, 4 key secret, 5 blob (4 * b + i), 6 digest, 7 index policy, 8 index value, 9 greatest counted.
I: 0 held, 1 word, 2 parent, 3 made, 4 looked, 5 count seen, 6 defined, 7 counter, 8 written, 9 pcr count, 10 power, 11 lost, 12 losses, 13 guesses, 14 thrown (the reference's own).
D: 0 mark, 1 clock, 2 rate. -/
abbrev tm_S : Type := (Nat → Nat → Int64) × (Nat → Nat → Int32) × (Nat → UInt64)
def tm_L (u : tm_S) (a i : Nat) (v : Int64) : tm_S := (fun x y => if x = a ∧ y = i then v else u.1 x y, u.2.1, u.2.2)
def tm_I (u : tm_S) (a i : Nat) (v : Int32) : tm_S := (u.1, fun x y => if x = a ∧ y = i then v else u.2.1 x y, u.2.2)
def tm_D (u : tm_S) (a : Nat) (v : UInt64) : tm_S := (u.1, u.2.1, fun x => if x = a then v else u.2.2 x)
/-- H of the document -/
def tm_h (a b : Int64) : Int64 :=
  (((a * 1000003 + b) * (-7046029254386353131)) ^^^ (((a * 1000003 + b) * (-7046029254386353131)).toUInt64 >>> ((nI 29).toInt64.toUInt64 &&& Int64.toUInt64 63)).toInt64) * 31 ^^^
  (((((a * 1000003 + b) * (-7046029254386353131)) ^^^ (((a * 1000003 + b) * (-7046029254386353131)).toUInt64 >>> ((nI 29).toInt64.toUInt64 &&& Int64.toUInt64 63)).toInt64) * 31).toUInt64 >>> ((nI 32).toInt64.toUInt64 &&& Int64.toUInt64 63)).toInt64
theorem tm_cmp0 {x y : Int64} : lg_cmp x y = 0 ↔ x = y := by
  unfold lg_cmp
  by_cases h1 : x > y
  · rw [if_pos h1]
    refine ⟨fun h => absurd h (by decide), fun h => ?_⟩
    subst h
    exact (Int64.lt_irrefl h1).elim
  · rw [if_neg h1]
    by_cases h2 : x = y
    · rw [if_pos h2]; exact ⟨fun _ => h2, fun _ => rfl⟩
    · rw [if_neg h2]; exact ⟨fun h => absurd h (by decide), fun h => absurd h h2⟩
def tm_rs (f : Nat → Nat) : (Nat → Int32) ⊕ (Nat → Int64) ⊕ (Nat → UInt32) ⊕ (Nat → UInt64) ⊕ (Nat → Option Nat) := .inr (.inr (.inr (.inr (fun j => some (f j)))))
/-- a world of n cells by a function -/
def tm_w (n : Nat) (ad : Nat → Nat) (f : Nat → va_E) : va_W := (List.range n).map (fun i => (ad i, f i))
theorem tm_at {n : Nat} {ad : Nat → Nat} {f : Nat → va_E} {i : Nat} (hi : i < n) {x : va_E} (hx : f i = x) : (tm_w n ad f)[i]? = some (ad i, x) := by
  unfold tm_w
  rw [List.getElem?_map, List.getElem?_range hi, ← hx]
  rfl
theorem tm_set {n : Nat} {ad : Nat → Nat} {f g : Nat → va_E} {i : Nat} (hi : i < n) {x : va_E} (hx : g i = x) (ho : ∀ j, j < n → j ≠ i → g j = f j) : (tm_w n ad f).set i (ad i, x) = tm_w n ad g := by
  apply List.ext_getElem?
  intro j
  unfold tm_w
  by_cases hj : j < n
  · by_cases he : j = i
    · subst he
      rw [List.getElem?_set_self (by simpa using hj), List.getElem?_map, List.getElem?_range hj, ← hx]
      rfl
    · rw [List.getElem?_set_ne (fun q => he q.symm), List.getElem?_map, List.getElem?_map, List.getElem?_range hj]
      simp [ho j hj he]
  · rw [List.getElem?_eq_none (by simpa using hj), List.getElem?_eq_none (by simpa using hj)]

/-! THE CLASS: 36 cells -/
def tc_cb (ad : Nat → Nat) (cc : Nat → ClassId) (u : tm_S) (n : Nat) : va_E :=
  if n < 2 then .inl (cc 0, 8, .inr (.inl (fun i => if i < 8 then u.1 1 (8 * n + i) else 0)))
  else if n < 6 then .inr (2, [.int (u.2.1 0 (n - 2)), .long (u.1 2 (n - 2)), .int (u.2.1 1 (n - 2)), .long (u.1 3 (n - 2)), .long (u.1 4 (n - 2)), .int (u.2.1 2 (n - 2))])
  else if n < 14 then .inr (0, [.int (u.2.1 3 (n - 6)), .ref (ad ((n - 6) + 21))])
  else if n < 22 then .inl (cc 0, 4, .inr (.inl (fun i => if i < 4 then u.1 5 (4 * (n - 14) + i) else 0)))
  else if n < 25 then .inr (3, [.long (u.1 6 (n - 22)), .int (u.2.1 4 (n - 22)), .int (u.2.1 5 (n - 22))])
  else .inr (1, [.int (u.2.1 6 (n - 25)), .int (u.2.1 7 (n - 25)), .long (u.1 7 (n - 25)), .int (u.2.1 8 (n - 25)), .long (u.1 8 (n - 25))])
def tc_ce (ad : Nat → Nat) (cc : Nat → ClassId) (u : tm_S) : Nat → va_E
  | 0 => .inr (4, [.ref (ad 1), .ref (ad 2), .ref (ad 3), .ref (ad 4), .ref (ad 5), .ref (ad 6), .int (u.2.1 9 0), .long (u.1 9 0), .int (u.2.1 10 0), .int (u.2.1 11 0), .int (u.2.1 12 0), .int (u.2.1 13 0), .double (u.2.2 0), .double (u.2.2 1), .double (u.2.2 2)])
  | 1 => .inl (cc 0, 3, .inr (.inl (u.1 0)))
  | 2 => .inl (cc 1, 2, tm_rs (fun j => ad (j + 7)))
  | 3 => .inl (cc 2, 4, tm_rs (fun j => ad (j + 9)))
  | 4 => .inl (cc 3, 8, tm_rs (fun j => ad (j + 13)))
  | 5 => .inl (cc 4, 3, tm_rs (fun j => ad (j + 29)))
  | 6 => .inl (cc 5, 4, tm_rs (fun j => ad (j + 32)))
  | n + 7 => tc_cb ad cc u n
abbrev tc_w (ad : Nat → Nat) (cc : Nat → ClassId) (u : tm_S) : va_W := tm_w 36 ad (tc_ce ad cc u)
def tc_ty (cc : Nat → ClassId) : List (ClassId × FieldType) := [(cc 0, .long), (cc 1, .array .long), (cc 2, .object "TrustModule$Key"), (cc 3, .object "TrustModule$Blob"), (cc 4, .object "TrustModule$Session"), (cc 5, .object "TrustModule$Index")]
section TCA
variable {ad : Nat → Nat} {cc : Nat → ClassId} {u : tm_S} {k : Nat}
theorem tc_P (h : k < 2) : tc_ce ad cc u (k + 7) = .inl (cc 0, 8, .inr (.inl (fun i => if i < 8 then u.1 1 (8 * k + i) else 0))) := by
  show tc_cb ad cc u k = _
  unfold tc_cb
  rw [if_pos h]
theorem tc_K (h : k < 4) : tc_ce ad cc u (k + 9) = .inr (2, [.int (u.2.1 0 k), .long (u.1 2 k), .int (u.2.1 1 k), .long (u.1 3 k), .long (u.1 4 k), .int (u.2.1 2 k)]) := by
  show tc_cb ad cc u (k + 2) = _
  unfold tc_cb
  rw [if_neg (by omega), if_pos (by omega), Nat.add_sub_cancel]
theorem tc_B (h : k < 8) : tc_ce ad cc u (k + 13) = .inr (0, [.int (u.2.1 3 k), .ref (ad (k + 21))]) := by
  show tc_cb ad cc u (k + 6) = _
  unfold tc_cb
  rw [if_neg (by omega), if_neg (by omega), if_pos (by omega), Nat.add_sub_cancel]
theorem tc_O (h : k < 8) : tc_ce ad cc u (k + 21) = .inl (cc 0, 4, .inr (.inl (fun i => if i < 4 then u.1 5 (4 * k + i) else 0))) := by
  show tc_cb ad cc u (k + 14) = _
  unfold tc_cb
  rw [if_neg (by omega), if_neg (by omega), if_neg (by omega), if_pos (by omega), Nat.add_sub_cancel]
theorem tc_Y (h : k < 3) : tc_ce ad cc u (k + 29) = .inr (3, [.long (u.1 6 k), .int (u.2.1 4 k), .int (u.2.1 5 k)]) := by
  show tc_cb ad cc u (k + 22) = _
  unfold tc_cb
  rw [if_neg (by omega), if_neg (by omega), if_neg (by omega), if_neg (by omega), if_pos (by omega), Nat.add_sub_cancel]
theorem tc_X : tc_ce ad cc u (k + 32) = .inr (1, [.int (u.2.1 6 k), .int (u.2.1 7 k), .long (u.1 7 k), .int (u.2.1 8 k), .long (u.1 8 k)]) := by
  show tc_cb ad cc u (k + 25) = _
  unfold tc_cb
  rw [if_neg (by omega), if_neg (by omega), if_neg (by omega), if_neg (by omega), if_neg (by omega), Nat.add_sub_cancel]
theorem tc_uT_pcrCount_o {v : Int32} : ∀ j, j < 36 → j ≠ 0 → tc_ce ad cc (tm_I u 9 0 v) j = tc_ce ad cc u j := by
  intro j hj hne
  match j, hj, hne with
  | 0, _, hne => exact absurd rfl hne
  | 1, _, hne => simp [tc_ce, tm_I]
  | 2, _, hne => simp [tc_ce, tm_I]
  | 3, _, hne => simp [tc_ce, tm_I]
  | 4, _, hne => simp [tc_ce, tm_I]
  | 5, _, hne => simp [tc_ce, tm_I]
  | 6, _, hne => simp [tc_ce, tm_I]
  | n + 7, hj, hne =>
    show tc_cb ad cc _ n = tc_cb ad cc u n
    unfold tc_cb
    by_cases hP : n < 2
    · rw [if_pos hP, if_pos hP]
      simp [tm_I]
    rw [if_neg hP, if_neg hP]
    by_cases hK : n < 6
    · rw [if_pos hK, if_pos hK]
      simp [tm_I]
    rw [if_neg hK, if_neg hK]
    by_cases hB : n < 14
    · rw [if_pos hB, if_pos hB]
      simp [tm_I]
    rw [if_neg hB, if_neg hB]
    by_cases hO : n < 22
    · rw [if_pos hO, if_pos hO]
      simp [tm_I]
    rw [if_neg hO, if_neg hO]
    by_cases hY : n < 25
    · rw [if_pos hY, if_pos hY]
      simp [tm_I]
    rw [if_neg hY, if_neg hY]
    simp [tm_I]
theorem tc_sT_pcrCount {v : Int32} : (tc_w ad cc u).set 0 (ad 0, .inr (4, [.ref (ad 1), .ref (ad 2), .ref (ad 3), .ref (ad 4), .ref (ad 5), .ref (ad 6), .int v, .long (u.1 9 0), .int (u.2.1 10 0), .int (u.2.1 11 0), .int (u.2.1 12 0), .int (u.2.1 13 0), .double (u.2.2 0), .double (u.2.2 1), .double (u.2.2 2)])) = tc_w ad cc (tm_I u 9 0 v) :=
  tm_set (by omega) (by
    simp [tc_ce, tm_I]) tc_uT_pcrCount_o
theorem tc_uT_greatestCounted_o {v : Int64} : ∀ j, j < 36 → j ≠ 0 → tc_ce ad cc (tm_L u 9 0 v) j = tc_ce ad cc u j := by
  intro j hj hne
  match j, hj, hne with
  | 0, _, hne => exact absurd rfl hne
  | 1, _, hne => simp [tc_ce, tm_L]
  | 2, _, hne => simp [tc_ce, tm_L]
  | 3, _, hne => simp [tc_ce, tm_L]
  | 4, _, hne => simp [tc_ce, tm_L]
  | 5, _, hne => simp [tc_ce, tm_L]
  | 6, _, hne => simp [tc_ce, tm_L]
  | n + 7, hj, hne =>
    show tc_cb ad cc _ n = tc_cb ad cc u n
    unfold tc_cb
    by_cases hP : n < 2
    · rw [if_pos hP, if_pos hP]
      simp [tm_L]
    rw [if_neg hP, if_neg hP]
    by_cases hK : n < 6
    · rw [if_pos hK, if_pos hK]
      simp [tm_L]
    rw [if_neg hK, if_neg hK]
    by_cases hB : n < 14
    · rw [if_pos hB, if_pos hB]
      simp [tm_L]
    rw [if_neg hB, if_neg hB]
    by_cases hO : n < 22
    · rw [if_pos hO, if_pos hO]
      simp [tm_L]
    rw [if_neg hO, if_neg hO]
    by_cases hY : n < 25
    · rw [if_pos hY, if_pos hY]
      simp [tm_L]
    rw [if_neg hY, if_neg hY]
    simp [tm_L]
theorem tc_sT_greatestCounted {v : Int64} : (tc_w ad cc u).set 0 (ad 0, .inr (4, [.ref (ad 1), .ref (ad 2), .ref (ad 3), .ref (ad 4), .ref (ad 5), .ref (ad 6), .int (u.2.1 9 0), .long v, .int (u.2.1 10 0), .int (u.2.1 11 0), .int (u.2.1 12 0), .int (u.2.1 13 0), .double (u.2.2 0), .double (u.2.2 1), .double (u.2.2 2)])) = tc_w ad cc (tm_L u 9 0 v) :=
  tm_set (by omega) (by
    simp [tc_ce, tm_L]) tc_uT_greatestCounted_o
theorem tc_uT_powerLeft_o {v : Int32} : ∀ j, j < 36 → j ≠ 0 → tc_ce ad cc (tm_I u 10 0 v) j = tc_ce ad cc u j := by
  intro j hj hne
  match j, hj, hne with
  | 0, _, hne => exact absurd rfl hne
  | 1, _, hne => simp [tc_ce, tm_I]
  | 2, _, hne => simp [tc_ce, tm_I]
  | 3, _, hne => simp [tc_ce, tm_I]
  | 4, _, hne => simp [tc_ce, tm_I]
  | 5, _, hne => simp [tc_ce, tm_I]
  | 6, _, hne => simp [tc_ce, tm_I]
  | n + 7, hj, hne =>
    show tc_cb ad cc _ n = tc_cb ad cc u n
    unfold tc_cb
    by_cases hP : n < 2
    · rw [if_pos hP, if_pos hP]
      simp [tm_I]
    rw [if_neg hP, if_neg hP]
    by_cases hK : n < 6
    · rw [if_pos hK, if_pos hK]
      simp [tm_I]
    rw [if_neg hK, if_neg hK]
    by_cases hB : n < 14
    · rw [if_pos hB, if_pos hB]
      simp [tm_I]
    rw [if_neg hB, if_neg hB]
    by_cases hO : n < 22
    · rw [if_pos hO, if_pos hO]
      simp [tm_I]
    rw [if_neg hO, if_neg hO]
    by_cases hY : n < 25
    · rw [if_pos hY, if_pos hY]
      simp [tm_I]
    rw [if_neg hY, if_neg hY]
    simp [tm_I]
theorem tc_sT_powerLeft {v : Int32} : (tc_w ad cc u).set 0 (ad 0, .inr (4, [.ref (ad 1), .ref (ad 2), .ref (ad 3), .ref (ad 4), .ref (ad 5), .ref (ad 6), .int (u.2.1 9 0), .long (u.1 9 0), .int v, .int (u.2.1 11 0), .int (u.2.1 12 0), .int (u.2.1 13 0), .double (u.2.2 0), .double (u.2.2 1), .double (u.2.2 2)])) = tc_w ad cc (tm_I u 10 0 v) :=
  tm_set (by omega) (by
    simp [tc_ce, tm_I]) tc_uT_powerLeft_o
theorem tc_uT_lost_o {v : Int32} : ∀ j, j < 36 → j ≠ 0 → tc_ce ad cc (tm_I u 11 0 v) j = tc_ce ad cc u j := by
  intro j hj hne
  match j, hj, hne with
  | 0, _, hne => exact absurd rfl hne
  | 1, _, hne => simp [tc_ce, tm_I]
  | 2, _, hne => simp [tc_ce, tm_I]
  | 3, _, hne => simp [tc_ce, tm_I]
  | 4, _, hne => simp [tc_ce, tm_I]
  | 5, _, hne => simp [tc_ce, tm_I]
  | 6, _, hne => simp [tc_ce, tm_I]
  | n + 7, hj, hne =>
    show tc_cb ad cc _ n = tc_cb ad cc u n
    unfold tc_cb
    by_cases hP : n < 2
    · rw [if_pos hP, if_pos hP]
      simp [tm_I]
    rw [if_neg hP, if_neg hP]
    by_cases hK : n < 6
    · rw [if_pos hK, if_pos hK]
      simp [tm_I]
    rw [if_neg hK, if_neg hK]
    by_cases hB : n < 14
    · rw [if_pos hB, if_pos hB]
      simp [tm_I]
    rw [if_neg hB, if_neg hB]
    by_cases hO : n < 22
    · rw [if_pos hO, if_pos hO]
      simp [tm_I]
    rw [if_neg hO, if_neg hO]
    by_cases hY : n < 25
    · rw [if_pos hY, if_pos hY]
      simp [tm_I]
    rw [if_neg hY, if_neg hY]
    simp [tm_I]
theorem tc_sT_lost {v : Int32} : (tc_w ad cc u).set 0 (ad 0, .inr (4, [.ref (ad 1), .ref (ad 2), .ref (ad 3), .ref (ad 4), .ref (ad 5), .ref (ad 6), .int (u.2.1 9 0), .long (u.1 9 0), .int (u.2.1 10 0), .int v, .int (u.2.1 12 0), .int (u.2.1 13 0), .double (u.2.2 0), .double (u.2.2 1), .double (u.2.2 2)])) = tc_w ad cc (tm_I u 11 0 v) :=
  tm_set (by omega) (by
    simp [tc_ce, tm_I]) tc_uT_lost_o
theorem tc_uT_timesLost_o {v : Int32} : ∀ j, j < 36 → j ≠ 0 → tc_ce ad cc (tm_I u 12 0 v) j = tc_ce ad cc u j := by
  intro j hj hne
  match j, hj, hne with
  | 0, _, hne => exact absurd rfl hne
  | 1, _, hne => simp [tc_ce, tm_I]
  | 2, _, hne => simp [tc_ce, tm_I]
  | 3, _, hne => simp [tc_ce, tm_I]
  | 4, _, hne => simp [tc_ce, tm_I]
  | 5, _, hne => simp [tc_ce, tm_I]
  | 6, _, hne => simp [tc_ce, tm_I]
  | n + 7, hj, hne =>
    show tc_cb ad cc _ n = tc_cb ad cc u n
    unfold tc_cb
    by_cases hP : n < 2
    · rw [if_pos hP, if_pos hP]
      simp [tm_I]
    rw [if_neg hP, if_neg hP]
    by_cases hK : n < 6
    · rw [if_pos hK, if_pos hK]
      simp [tm_I]
    rw [if_neg hK, if_neg hK]
    by_cases hB : n < 14
    · rw [if_pos hB, if_pos hB]
      simp [tm_I]
    rw [if_neg hB, if_neg hB]
    by_cases hO : n < 22
    · rw [if_pos hO, if_pos hO]
      simp [tm_I]
    rw [if_neg hO, if_neg hO]
    by_cases hY : n < 25
    · rw [if_pos hY, if_pos hY]
      simp [tm_I]
    rw [if_neg hY, if_neg hY]
    simp [tm_I]
theorem tc_sT_timesLost {v : Int32} : (tc_w ad cc u).set 0 (ad 0, .inr (4, [.ref (ad 1), .ref (ad 2), .ref (ad 3), .ref (ad 4), .ref (ad 5), .ref (ad 6), .int (u.2.1 9 0), .long (u.1 9 0), .int (u.2.1 10 0), .int (u.2.1 11 0), .int v, .int (u.2.1 13 0), .double (u.2.2 0), .double (u.2.2 1), .double (u.2.2 2)])) = tc_w ad cc (tm_I u 12 0 v) :=
  tm_set (by omega) (by
    simp [tc_ce, tm_I]) tc_uT_timesLost_o
theorem tc_uT_wrongGuesses_o {v : Int32} : ∀ j, j < 36 → j ≠ 0 → tc_ce ad cc (tm_I u 13 0 v) j = tc_ce ad cc u j := by
  intro j hj hne
  match j, hj, hne with
  | 0, _, hne => exact absurd rfl hne
  | 1, _, hne => simp [tc_ce, tm_I]
  | 2, _, hne => simp [tc_ce, tm_I]
  | 3, _, hne => simp [tc_ce, tm_I]
  | 4, _, hne => simp [tc_ce, tm_I]
  | 5, _, hne => simp [tc_ce, tm_I]
  | 6, _, hne => simp [tc_ce, tm_I]
  | n + 7, hj, hne =>
    show tc_cb ad cc _ n = tc_cb ad cc u n
    unfold tc_cb
    by_cases hP : n < 2
    · rw [if_pos hP, if_pos hP]
      simp [tm_I]
    rw [if_neg hP, if_neg hP]
    by_cases hK : n < 6
    · rw [if_pos hK, if_pos hK]
      simp [tm_I]
    rw [if_neg hK, if_neg hK]
    by_cases hB : n < 14
    · rw [if_pos hB, if_pos hB]
      simp [tm_I]
    rw [if_neg hB, if_neg hB]
    by_cases hO : n < 22
    · rw [if_pos hO, if_pos hO]
      simp [tm_I]
    rw [if_neg hO, if_neg hO]
    by_cases hY : n < 25
    · rw [if_pos hY, if_pos hY]
      simp [tm_I]
    rw [if_neg hY, if_neg hY]
    simp [tm_I]
theorem tc_sT_wrongGuesses {v : Int32} : (tc_w ad cc u).set 0 (ad 0, .inr (4, [.ref (ad 1), .ref (ad 2), .ref (ad 3), .ref (ad 4), .ref (ad 5), .ref (ad 6), .int (u.2.1 9 0), .long (u.1 9 0), .int (u.2.1 10 0), .int (u.2.1 11 0), .int (u.2.1 12 0), .int v, .double (u.2.2 0), .double (u.2.2 1), .double (u.2.2 2)])) = tc_w ad cc (tm_I u 13 0 v) :=
  tm_set (by omega) (by
    simp [tc_ce, tm_I]) tc_uT_wrongGuesses_o
theorem tc_uT_mark_o {v : UInt64} : ∀ j, j < 36 → j ≠ 0 → tc_ce ad cc (tm_D u 0 v) j = tc_ce ad cc u j := by
  intro j hj hne
  match j, hj, hne with
  | 0, _, hne => exact absurd rfl hne
  | 1, _, hne => simp [tc_ce, tm_D]
  | 2, _, hne => simp [tc_ce, tm_D]
  | 3, _, hne => simp [tc_ce, tm_D]
  | 4, _, hne => simp [tc_ce, tm_D]
  | 5, _, hne => simp [tc_ce, tm_D]
  | 6, _, hne => simp [tc_ce, tm_D]
  | n + 7, hj, hne =>
    show tc_cb ad cc _ n = tc_cb ad cc u n
    unfold tc_cb
    by_cases hP : n < 2
    · rw [if_pos hP, if_pos hP]
      simp [tm_D]
    rw [if_neg hP, if_neg hP]
    by_cases hK : n < 6
    · rw [if_pos hK, if_pos hK]
      simp [tm_D]
    rw [if_neg hK, if_neg hK]
    by_cases hB : n < 14
    · rw [if_pos hB, if_pos hB]
      simp [tm_D]
    rw [if_neg hB, if_neg hB]
    by_cases hO : n < 22
    · rw [if_pos hO, if_pos hO]
      simp [tm_D]
    rw [if_neg hO, if_neg hO]
    by_cases hY : n < 25
    · rw [if_pos hY, if_pos hY]
      simp [tm_D]
    rw [if_neg hY, if_neg hY]
    simp [tm_D]
theorem tc_sT_mark {v : UInt64} : (tc_w ad cc u).set 0 (ad 0, .inr (4, [.ref (ad 1), .ref (ad 2), .ref (ad 3), .ref (ad 4), .ref (ad 5), .ref (ad 6), .int (u.2.1 9 0), .long (u.1 9 0), .int (u.2.1 10 0), .int (u.2.1 11 0), .int (u.2.1 12 0), .int (u.2.1 13 0), .double v, .double (u.2.2 1), .double (u.2.2 2)])) = tc_w ad cc (tm_D u 0 v) :=
  tm_set (by omega) (by
    simp [tc_ce, tm_D]) tc_uT_mark_o
theorem tc_uT_now_o {v : UInt64} : ∀ j, j < 36 → j ≠ 0 → tc_ce ad cc (tm_D u 1 v) j = tc_ce ad cc u j := by
  intro j hj hne
  match j, hj, hne with
  | 0, _, hne => exact absurd rfl hne
  | 1, _, hne => simp [tc_ce, tm_D]
  | 2, _, hne => simp [tc_ce, tm_D]
  | 3, _, hne => simp [tc_ce, tm_D]
  | 4, _, hne => simp [tc_ce, tm_D]
  | 5, _, hne => simp [tc_ce, tm_D]
  | 6, _, hne => simp [tc_ce, tm_D]
  | n + 7, hj, hne =>
    show tc_cb ad cc _ n = tc_cb ad cc u n
    unfold tc_cb
    by_cases hP : n < 2
    · rw [if_pos hP, if_pos hP]
      simp [tm_D]
    rw [if_neg hP, if_neg hP]
    by_cases hK : n < 6
    · rw [if_pos hK, if_pos hK]
      simp [tm_D]
    rw [if_neg hK, if_neg hK]
    by_cases hB : n < 14
    · rw [if_pos hB, if_pos hB]
      simp [tm_D]
    rw [if_neg hB, if_neg hB]
    by_cases hO : n < 22
    · rw [if_pos hO, if_pos hO]
      simp [tm_D]
    rw [if_neg hO, if_neg hO]
    by_cases hY : n < 25
    · rw [if_pos hY, if_pos hY]
      simp [tm_D]
    rw [if_neg hY, if_neg hY]
    simp [tm_D]
theorem tc_sT_now {v : UInt64} : (tc_w ad cc u).set 0 (ad 0, .inr (4, [.ref (ad 1), .ref (ad 2), .ref (ad 3), .ref (ad 4), .ref (ad 5), .ref (ad 6), .int (u.2.1 9 0), .long (u.1 9 0), .int (u.2.1 10 0), .int (u.2.1 11 0), .int (u.2.1 12 0), .int (u.2.1 13 0), .double (u.2.2 0), .double v, .double (u.2.2 2)])) = tc_w ad cc (tm_D u 1 v) :=
  tm_set (by omega) (by
    simp [tc_ce, tm_D]) tc_uT_now_o
theorem tc_uT_pace_o {v : UInt64} : ∀ j, j < 36 → j ≠ 0 → tc_ce ad cc (tm_D u 2 v) j = tc_ce ad cc u j := by
  intro j hj hne
  match j, hj, hne with
  | 0, _, hne => exact absurd rfl hne
  | 1, _, hne => simp [tc_ce, tm_D]
  | 2, _, hne => simp [tc_ce, tm_D]
  | 3, _, hne => simp [tc_ce, tm_D]
  | 4, _, hne => simp [tc_ce, tm_D]
  | 5, _, hne => simp [tc_ce, tm_D]
  | 6, _, hne => simp [tc_ce, tm_D]
  | n + 7, hj, hne =>
    show tc_cb ad cc _ n = tc_cb ad cc u n
    unfold tc_cb
    by_cases hP : n < 2
    · rw [if_pos hP, if_pos hP]
      simp [tm_D]
    rw [if_neg hP, if_neg hP]
    by_cases hK : n < 6
    · rw [if_pos hK, if_pos hK]
      simp [tm_D]
    rw [if_neg hK, if_neg hK]
    by_cases hB : n < 14
    · rw [if_pos hB, if_pos hB]
      simp [tm_D]
    rw [if_neg hB, if_neg hB]
    by_cases hO : n < 22
    · rw [if_pos hO, if_pos hO]
      simp [tm_D]
    rw [if_neg hO, if_neg hO]
    by_cases hY : n < 25
    · rw [if_pos hY, if_pos hY]
      simp [tm_D]
    rw [if_neg hY, if_neg hY]
    simp [tm_D]
theorem tc_sT_pace {v : UInt64} : (tc_w ad cc u).set 0 (ad 0, .inr (4, [.ref (ad 1), .ref (ad 2), .ref (ad 3), .ref (ad 4), .ref (ad 5), .ref (ad 6), .int (u.2.1 9 0), .long (u.1 9 0), .int (u.2.1 10 0), .int (u.2.1 11 0), .int (u.2.1 12 0), .int (u.2.1 13 0), .double (u.2.2 0), .double (u.2.2 1), .double v])) = tc_w ad cc (tm_D u 2 v) :=
  tm_set (by omega) (by
    simp [tc_ce, tm_D]) tc_uT_pace_o
theorem tc_uK_held_o {v : Int32} : ∀ j, j < 36 → j ≠ (k + 9) → tc_ce ad cc (tm_I u 0 k v) j = tc_ce ad cc u j := by
  intro j hj hne
  match j, hj, hne with
  | 0, _, hne => simp [tc_ce, tm_I]
  | 1, _, hne => simp [tc_ce, tm_I]
  | 2, _, hne => simp [tc_ce, tm_I]
  | 3, _, hne => simp [tc_ce, tm_I]
  | 4, _, hne => simp [tc_ce, tm_I]
  | 5, _, hne => simp [tc_ce, tm_I]
  | 6, _, hne => simp [tc_ce, tm_I]
  | n + 7, hj, hne =>
    show tc_cb ad cc _ n = tc_cb ad cc u n
    unfold tc_cb
    by_cases hP : n < 2
    · rw [if_pos hP, if_pos hP]
      simp [tm_I]
    rw [if_neg hP, if_neg hP]
    by_cases hK : n < 6
    · rw [if_pos hK, if_pos hK]
      have hz : ¬ n - 2 = k := by omega
      simp [tm_I, hz]
    rw [if_neg hK, if_neg hK]
    by_cases hB : n < 14
    · rw [if_pos hB, if_pos hB]
      simp [tm_I]
    rw [if_neg hB, if_neg hB]
    by_cases hO : n < 22
    · rw [if_pos hO, if_pos hO]
      simp [tm_I]
    rw [if_neg hO, if_neg hO]
    by_cases hY : n < 25
    · rw [if_pos hY, if_pos hY]
      simp [tm_I]
    rw [if_neg hY, if_neg hY]
    simp [tm_I]
theorem tc_sK_held {v : Int32} (hk : k < 4) : (tc_w ad cc u).set (k + 9) (ad (k + 9), .inr (2, [.int v, .long (u.1 2 k), .int (u.2.1 1 k), .long (u.1 3 k), .long (u.1 4 k), .int (u.2.1 2 k)])) = tc_w ad cc (tm_I u 0 k v) :=
  tm_set (by omega) (by
    rw [show tc_ce ad cc (tm_I u 0 k v) (k + 9) = _ from (tc_K hk)]; simp [tm_I]) tc_uK_held_o
theorem tc_uK_value_o {v : Int64} : ∀ j, j < 36 → j ≠ (k + 9) → tc_ce ad cc (tm_L u 2 k v) j = tc_ce ad cc u j := by
  intro j hj hne
  match j, hj, hne with
  | 0, _, hne => simp [tc_ce, tm_L]
  | 1, _, hne => simp [tc_ce, tm_L]
  | 2, _, hne => simp [tc_ce, tm_L]
  | 3, _, hne => simp [tc_ce, tm_L]
  | 4, _, hne => simp [tc_ce, tm_L]
  | 5, _, hne => simp [tc_ce, tm_L]
  | 6, _, hne => simp [tc_ce, tm_L]
  | n + 7, hj, hne =>
    show tc_cb ad cc _ n = tc_cb ad cc u n
    unfold tc_cb
    by_cases hP : n < 2
    · rw [if_pos hP, if_pos hP]
      simp [tm_L]
    rw [if_neg hP, if_neg hP]
    by_cases hK : n < 6
    · rw [if_pos hK, if_pos hK]
      have hz : ¬ n - 2 = k := by omega
      simp [tm_L, hz]
    rw [if_neg hK, if_neg hK]
    by_cases hB : n < 14
    · rw [if_pos hB, if_pos hB]
      simp [tm_L]
    rw [if_neg hB, if_neg hB]
    by_cases hO : n < 22
    · rw [if_pos hO, if_pos hO]
      simp [tm_L]
    rw [if_neg hO, if_neg hO]
    by_cases hY : n < 25
    · rw [if_pos hY, if_pos hY]
      simp [tm_L]
    rw [if_neg hY, if_neg hY]
    simp [tm_L]
theorem tc_sK_value {v : Int64} (hk : k < 4) : (tc_w ad cc u).set (k + 9) (ad (k + 9), .inr (2, [.int (u.2.1 0 k), .long v, .int (u.2.1 1 k), .long (u.1 3 k), .long (u.1 4 k), .int (u.2.1 2 k)])) = tc_w ad cc (tm_L u 2 k v) :=
  tm_set (by omega) (by
    rw [show tc_ce ad cc (tm_L u 2 k v) (k + 9) = _ from (tc_K hk)]; simp [tm_L]) tc_uK_value_o
theorem tc_uK_word_o {v : Int32} : ∀ j, j < 36 → j ≠ (k + 9) → tc_ce ad cc (tm_I u 1 k v) j = tc_ce ad cc u j := by
  intro j hj hne
  match j, hj, hne with
  | 0, _, hne => simp [tc_ce, tm_I]
  | 1, _, hne => simp [tc_ce, tm_I]
  | 2, _, hne => simp [tc_ce, tm_I]
  | 3, _, hne => simp [tc_ce, tm_I]
  | 4, _, hne => simp [tc_ce, tm_I]
  | 5, _, hne => simp [tc_ce, tm_I]
  | 6, _, hne => simp [tc_ce, tm_I]
  | n + 7, hj, hne =>
    show tc_cb ad cc _ n = tc_cb ad cc u n
    unfold tc_cb
    by_cases hP : n < 2
    · rw [if_pos hP, if_pos hP]
      simp [tm_I]
    rw [if_neg hP, if_neg hP]
    by_cases hK : n < 6
    · rw [if_pos hK, if_pos hK]
      have hz : ¬ n - 2 = k := by omega
      simp [tm_I, hz]
    rw [if_neg hK, if_neg hK]
    by_cases hB : n < 14
    · rw [if_pos hB, if_pos hB]
      simp [tm_I]
    rw [if_neg hB, if_neg hB]
    by_cases hO : n < 22
    · rw [if_pos hO, if_pos hO]
      simp [tm_I]
    rw [if_neg hO, if_neg hO]
    by_cases hY : n < 25
    · rw [if_pos hY, if_pos hY]
      simp [tm_I]
    rw [if_neg hY, if_neg hY]
    simp [tm_I]
theorem tc_sK_word {v : Int32} (hk : k < 4) : (tc_w ad cc u).set (k + 9) (ad (k + 9), .inr (2, [.int (u.2.1 0 k), .long (u.1 2 k), .int v, .long (u.1 3 k), .long (u.1 4 k), .int (u.2.1 2 k)])) = tc_w ad cc (tm_I u 1 k v) :=
  tm_set (by omega) (by
    rw [show tc_ce ad cc (tm_I u 1 k v) (k + 9) = _ from (tc_K hk)]; simp [tm_I]) tc_uK_word_o
theorem tc_uK_policy_o {v : Int64} : ∀ j, j < 36 → j ≠ (k + 9) → tc_ce ad cc (tm_L u 3 k v) j = tc_ce ad cc u j := by
  intro j hj hne
  match j, hj, hne with
  | 0, _, hne => simp [tc_ce, tm_L]
  | 1, _, hne => simp [tc_ce, tm_L]
  | 2, _, hne => simp [tc_ce, tm_L]
  | 3, _, hne => simp [tc_ce, tm_L]
  | 4, _, hne => simp [tc_ce, tm_L]
  | 5, _, hne => simp [tc_ce, tm_L]
  | 6, _, hne => simp [tc_ce, tm_L]
  | n + 7, hj, hne =>
    show tc_cb ad cc _ n = tc_cb ad cc u n
    unfold tc_cb
    by_cases hP : n < 2
    · rw [if_pos hP, if_pos hP]
      simp [tm_L]
    rw [if_neg hP, if_neg hP]
    by_cases hK : n < 6
    · rw [if_pos hK, if_pos hK]
      have hz : ¬ n - 2 = k := by omega
      simp [tm_L, hz]
    rw [if_neg hK, if_neg hK]
    by_cases hB : n < 14
    · rw [if_pos hB, if_pos hB]
      simp [tm_L]
    rw [if_neg hB, if_neg hB]
    by_cases hO : n < 22
    · rw [if_pos hO, if_pos hO]
      simp [tm_L]
    rw [if_neg hO, if_neg hO]
    by_cases hY : n < 25
    · rw [if_pos hY, if_pos hY]
      simp [tm_L]
    rw [if_neg hY, if_neg hY]
    simp [tm_L]
theorem tc_sK_policy {v : Int64} (hk : k < 4) : (tc_w ad cc u).set (k + 9) (ad (k + 9), .inr (2, [.int (u.2.1 0 k), .long (u.1 2 k), .int (u.2.1 1 k), .long v, .long (u.1 4 k), .int (u.2.1 2 k)])) = tc_w ad cc (tm_L u 3 k v) :=
  tm_set (by omega) (by
    rw [show tc_ce ad cc (tm_L u 3 k v) (k + 9) = _ from (tc_K hk)]; simp [tm_L]) tc_uK_policy_o
theorem tc_uK_secret_o {v : Int64} : ∀ j, j < 36 → j ≠ (k + 9) → tc_ce ad cc (tm_L u 4 k v) j = tc_ce ad cc u j := by
  intro j hj hne
  match j, hj, hne with
  | 0, _, hne => simp [tc_ce, tm_L]
  | 1, _, hne => simp [tc_ce, tm_L]
  | 2, _, hne => simp [tc_ce, tm_L]
  | 3, _, hne => simp [tc_ce, tm_L]
  | 4, _, hne => simp [tc_ce, tm_L]
  | 5, _, hne => simp [tc_ce, tm_L]
  | 6, _, hne => simp [tc_ce, tm_L]
  | n + 7, hj, hne =>
    show tc_cb ad cc _ n = tc_cb ad cc u n
    unfold tc_cb
    by_cases hP : n < 2
    · rw [if_pos hP, if_pos hP]
      simp [tm_L]
    rw [if_neg hP, if_neg hP]
    by_cases hK : n < 6
    · rw [if_pos hK, if_pos hK]
      have hz : ¬ n - 2 = k := by omega
      simp [tm_L, hz]
    rw [if_neg hK, if_neg hK]
    by_cases hB : n < 14
    · rw [if_pos hB, if_pos hB]
      simp [tm_L]
    rw [if_neg hB, if_neg hB]
    by_cases hO : n < 22
    · rw [if_pos hO, if_pos hO]
      simp [tm_L]
    rw [if_neg hO, if_neg hO]
    by_cases hY : n < 25
    · rw [if_pos hY, if_pos hY]
      simp [tm_L]
    rw [if_neg hY, if_neg hY]
    simp [tm_L]
theorem tc_sK_secret {v : Int64} (hk : k < 4) : (tc_w ad cc u).set (k + 9) (ad (k + 9), .inr (2, [.int (u.2.1 0 k), .long (u.1 2 k), .int (u.2.1 1 k), .long (u.1 3 k), .long v, .int (u.2.1 2 k)])) = tc_w ad cc (tm_L u 4 k v) :=
  tm_set (by omega) (by
    rw [show tc_ce ad cc (tm_L u 4 k v) (k + 9) = _ from (tc_K hk)]; simp [tm_L]) tc_uK_secret_o
theorem tc_uK_parent_o {v : Int32} : ∀ j, j < 36 → j ≠ (k + 9) → tc_ce ad cc (tm_I u 2 k v) j = tc_ce ad cc u j := by
  intro j hj hne
  match j, hj, hne with
  | 0, _, hne => simp [tc_ce, tm_I]
  | 1, _, hne => simp [tc_ce, tm_I]
  | 2, _, hne => simp [tc_ce, tm_I]
  | 3, _, hne => simp [tc_ce, tm_I]
  | 4, _, hne => simp [tc_ce, tm_I]
  | 5, _, hne => simp [tc_ce, tm_I]
  | 6, _, hne => simp [tc_ce, tm_I]
  | n + 7, hj, hne =>
    show tc_cb ad cc _ n = tc_cb ad cc u n
    unfold tc_cb
    by_cases hP : n < 2
    · rw [if_pos hP, if_pos hP]
      simp [tm_I]
    rw [if_neg hP, if_neg hP]
    by_cases hK : n < 6
    · rw [if_pos hK, if_pos hK]
      have hz : ¬ n - 2 = k := by omega
      simp [tm_I, hz]
    rw [if_neg hK, if_neg hK]
    by_cases hB : n < 14
    · rw [if_pos hB, if_pos hB]
      simp [tm_I]
    rw [if_neg hB, if_neg hB]
    by_cases hO : n < 22
    · rw [if_pos hO, if_pos hO]
      simp [tm_I]
    rw [if_neg hO, if_neg hO]
    by_cases hY : n < 25
    · rw [if_pos hY, if_pos hY]
      simp [tm_I]
    rw [if_neg hY, if_neg hY]
    simp [tm_I]
theorem tc_sK_parent {v : Int32} (hk : k < 4) : (tc_w ad cc u).set (k + 9) (ad (k + 9), .inr (2, [.int (u.2.1 0 k), .long (u.1 2 k), .int (u.2.1 1 k), .long (u.1 3 k), .long (u.1 4 k), .int v])) = tc_w ad cc (tm_I u 2 k v) :=
  tm_set (by omega) (by
    rw [show tc_ce ad cc (tm_I u 2 k v) (k + 9) = _ from (tc_K hk)]; simp [tm_I]) tc_uK_parent_o
theorem tc_uB_made_o {v : Int32} : ∀ j, j < 36 → j ≠ (k + 13) → tc_ce ad cc (tm_I u 3 k v) j = tc_ce ad cc u j := by
  intro j hj hne
  match j, hj, hne with
  | 0, _, hne => simp [tc_ce, tm_I]
  | 1, _, hne => simp [tc_ce, tm_I]
  | 2, _, hne => simp [tc_ce, tm_I]
  | 3, _, hne => simp [tc_ce, tm_I]
  | 4, _, hne => simp [tc_ce, tm_I]
  | 5, _, hne => simp [tc_ce, tm_I]
  | 6, _, hne => simp [tc_ce, tm_I]
  | n + 7, hj, hne =>
    show tc_cb ad cc _ n = tc_cb ad cc u n
    unfold tc_cb
    by_cases hP : n < 2
    · rw [if_pos hP, if_pos hP]
      simp [tm_I]
    rw [if_neg hP, if_neg hP]
    by_cases hK : n < 6
    · rw [if_pos hK, if_pos hK]
      simp [tm_I]
    rw [if_neg hK, if_neg hK]
    by_cases hB : n < 14
    · rw [if_pos hB, if_pos hB]
      have hz : ¬ n - 6 = k := by omega
      simp [tm_I, hz]
    rw [if_neg hB, if_neg hB]
    by_cases hO : n < 22
    · rw [if_pos hO, if_pos hO]
      simp [tm_I]
    rw [if_neg hO, if_neg hO]
    by_cases hY : n < 25
    · rw [if_pos hY, if_pos hY]
      simp [tm_I]
    rw [if_neg hY, if_neg hY]
    simp [tm_I]
theorem tc_sB_made {v : Int32} (hk : k < 8) : (tc_w ad cc u).set (k + 13) (ad (k + 13), .inr (0, [.int v, .ref (ad (k + 21))])) = tc_w ad cc (tm_I u 3 k v) :=
  tm_set (by omega) (by
    rw [show tc_ce ad cc (tm_I u 3 k v) (k + 13) = _ from (tc_B hk)]; simp [tm_I]) tc_uB_made_o
theorem tc_uY_digest_o {v : Int64} : ∀ j, j < 36 → j ≠ (k + 29) → tc_ce ad cc (tm_L u 6 k v) j = tc_ce ad cc u j := by
  intro j hj hne
  match j, hj, hne with
  | 0, _, hne => simp [tc_ce, tm_L]
  | 1, _, hne => simp [tc_ce, tm_L]
  | 2, _, hne => simp [tc_ce, tm_L]
  | 3, _, hne => simp [tc_ce, tm_L]
  | 4, _, hne => simp [tc_ce, tm_L]
  | 5, _, hne => simp [tc_ce, tm_L]
  | 6, _, hne => simp [tc_ce, tm_L]
  | n + 7, hj, hne =>
    show tc_cb ad cc _ n = tc_cb ad cc u n
    unfold tc_cb
    by_cases hP : n < 2
    · rw [if_pos hP, if_pos hP]
      simp [tm_L]
    rw [if_neg hP, if_neg hP]
    by_cases hK : n < 6
    · rw [if_pos hK, if_pos hK]
      simp [tm_L]
    rw [if_neg hK, if_neg hK]
    by_cases hB : n < 14
    · rw [if_pos hB, if_pos hB]
      simp [tm_L]
    rw [if_neg hB, if_neg hB]
    by_cases hO : n < 22
    · rw [if_pos hO, if_pos hO]
      simp [tm_L]
    rw [if_neg hO, if_neg hO]
    by_cases hY : n < 25
    · rw [if_pos hY, if_pos hY]
      have hz : ¬ n - 22 = k := by omega
      simp [tm_L, hz]
    rw [if_neg hY, if_neg hY]
    simp [tm_L]
theorem tc_sY_digest {v : Int64} (hk : k < 3) : (tc_w ad cc u).set (k + 29) (ad (k + 29), .inr (3, [.long v, .int (u.2.1 4 k), .int (u.2.1 5 k)])) = tc_w ad cc (tm_L u 6 k v) :=
  tm_set (by omega) (by
    rw [show tc_ce ad cc (tm_L u 6 k v) (k + 29) = _ from (tc_Y hk)]; simp [tm_L]) tc_uY_digest_o
theorem tc_uY_looked_o {v : Int32} : ∀ j, j < 36 → j ≠ (k + 29) → tc_ce ad cc (tm_I u 4 k v) j = tc_ce ad cc u j := by
  intro j hj hne
  match j, hj, hne with
  | 0, _, hne => simp [tc_ce, tm_I]
  | 1, _, hne => simp [tc_ce, tm_I]
  | 2, _, hne => simp [tc_ce, tm_I]
  | 3, _, hne => simp [tc_ce, tm_I]
  | 4, _, hne => simp [tc_ce, tm_I]
  | 5, _, hne => simp [tc_ce, tm_I]
  | 6, _, hne => simp [tc_ce, tm_I]
  | n + 7, hj, hne =>
    show tc_cb ad cc _ n = tc_cb ad cc u n
    unfold tc_cb
    by_cases hP : n < 2
    · rw [if_pos hP, if_pos hP]
      simp [tm_I]
    rw [if_neg hP, if_neg hP]
    by_cases hK : n < 6
    · rw [if_pos hK, if_pos hK]
      simp [tm_I]
    rw [if_neg hK, if_neg hK]
    by_cases hB : n < 14
    · rw [if_pos hB, if_pos hB]
      simp [tm_I]
    rw [if_neg hB, if_neg hB]
    by_cases hO : n < 22
    · rw [if_pos hO, if_pos hO]
      simp [tm_I]
    rw [if_neg hO, if_neg hO]
    by_cases hY : n < 25
    · rw [if_pos hY, if_pos hY]
      have hz : ¬ n - 22 = k := by omega
      simp [tm_I, hz]
    rw [if_neg hY, if_neg hY]
    simp [tm_I]
theorem tc_sY_looked {v : Int32} (hk : k < 3) : (tc_w ad cc u).set (k + 29) (ad (k + 29), .inr (3, [.long (u.1 6 k), .int v, .int (u.2.1 5 k)])) = tc_w ad cc (tm_I u 4 k v) :=
  tm_set (by omega) (by
    rw [show tc_ce ad cc (tm_I u 4 k v) (k + 29) = _ from (tc_Y hk)]; simp [tm_I]) tc_uY_looked_o
theorem tc_uY_countSeen_o {v : Int32} : ∀ j, j < 36 → j ≠ (k + 29) → tc_ce ad cc (tm_I u 5 k v) j = tc_ce ad cc u j := by
  intro j hj hne
  match j, hj, hne with
  | 0, _, hne => simp [tc_ce, tm_I]
  | 1, _, hne => simp [tc_ce, tm_I]
  | 2, _, hne => simp [tc_ce, tm_I]
  | 3, _, hne => simp [tc_ce, tm_I]
  | 4, _, hne => simp [tc_ce, tm_I]
  | 5, _, hne => simp [tc_ce, tm_I]
  | 6, _, hne => simp [tc_ce, tm_I]
  | n + 7, hj, hne =>
    show tc_cb ad cc _ n = tc_cb ad cc u n
    unfold tc_cb
    by_cases hP : n < 2
    · rw [if_pos hP, if_pos hP]
      simp [tm_I]
    rw [if_neg hP, if_neg hP]
    by_cases hK : n < 6
    · rw [if_pos hK, if_pos hK]
      simp [tm_I]
    rw [if_neg hK, if_neg hK]
    by_cases hB : n < 14
    · rw [if_pos hB, if_pos hB]
      simp [tm_I]
    rw [if_neg hB, if_neg hB]
    by_cases hO : n < 22
    · rw [if_pos hO, if_pos hO]
      simp [tm_I]
    rw [if_neg hO, if_neg hO]
    by_cases hY : n < 25
    · rw [if_pos hY, if_pos hY]
      have hz : ¬ n - 22 = k := by omega
      simp [tm_I, hz]
    rw [if_neg hY, if_neg hY]
    simp [tm_I]
theorem tc_sY_countSeen {v : Int32} (hk : k < 3) : (tc_w ad cc u).set (k + 29) (ad (k + 29), .inr (3, [.long (u.1 6 k), .int (u.2.1 4 k), .int v])) = tc_w ad cc (tm_I u 5 k v) :=
  tm_set (by omega) (by
    rw [show tc_ce ad cc (tm_I u 5 k v) (k + 29) = _ from (tc_Y hk)]; simp [tm_I]) tc_uY_countSeen_o
theorem tc_uX_defined_o {v : Int32} : ∀ j, j < 36 → j ≠ (k + 32) → tc_ce ad cc (tm_I u 6 k v) j = tc_ce ad cc u j := by
  intro j hj hne
  match j, hj, hne with
  | 0, _, hne => simp [tc_ce, tm_I]
  | 1, _, hne => simp [tc_ce, tm_I]
  | 2, _, hne => simp [tc_ce, tm_I]
  | 3, _, hne => simp [tc_ce, tm_I]
  | 4, _, hne => simp [tc_ce, tm_I]
  | 5, _, hne => simp [tc_ce, tm_I]
  | 6, _, hne => simp [tc_ce, tm_I]
  | n + 7, hj, hne =>
    show tc_cb ad cc _ n = tc_cb ad cc u n
    unfold tc_cb
    by_cases hP : n < 2
    · rw [if_pos hP, if_pos hP]
      simp [tm_I]
    rw [if_neg hP, if_neg hP]
    by_cases hK : n < 6
    · rw [if_pos hK, if_pos hK]
      simp [tm_I]
    rw [if_neg hK, if_neg hK]
    by_cases hB : n < 14
    · rw [if_pos hB, if_pos hB]
      simp [tm_I]
    rw [if_neg hB, if_neg hB]
    by_cases hO : n < 22
    · rw [if_pos hO, if_pos hO]
      simp [tm_I]
    rw [if_neg hO, if_neg hO]
    by_cases hY : n < 25
    · rw [if_pos hY, if_pos hY]
      simp [tm_I]
    rw [if_neg hY, if_neg hY]
    have hz : ¬ n - 25 = k := by omega
    simp [tm_I, hz]
theorem tc_sX_defined {v : Int32} (hk : k < 4) : (tc_w ad cc u).set (k + 32) (ad (k + 32), .inr (1, [.int v, .int (u.2.1 7 k), .long (u.1 7 k), .int (u.2.1 8 k), .long (u.1 8 k)])) = tc_w ad cc (tm_I u 6 k v) :=
  tm_set (by omega) (by
    rw [show tc_ce ad cc (tm_I u 6 k v) (k + 32) = _ from tc_X]; simp [tm_I]) tc_uX_defined_o
theorem tc_uX_counter_o {v : Int32} : ∀ j, j < 36 → j ≠ (k + 32) → tc_ce ad cc (tm_I u 7 k v) j = tc_ce ad cc u j := by
  intro j hj hne
  match j, hj, hne with
  | 0, _, hne => simp [tc_ce, tm_I]
  | 1, _, hne => simp [tc_ce, tm_I]
  | 2, _, hne => simp [tc_ce, tm_I]
  | 3, _, hne => simp [tc_ce, tm_I]
  | 4, _, hne => simp [tc_ce, tm_I]
  | 5, _, hne => simp [tc_ce, tm_I]
  | 6, _, hne => simp [tc_ce, tm_I]
  | n + 7, hj, hne =>
    show tc_cb ad cc _ n = tc_cb ad cc u n
    unfold tc_cb
    by_cases hP : n < 2
    · rw [if_pos hP, if_pos hP]
      simp [tm_I]
    rw [if_neg hP, if_neg hP]
    by_cases hK : n < 6
    · rw [if_pos hK, if_pos hK]
      simp [tm_I]
    rw [if_neg hK, if_neg hK]
    by_cases hB : n < 14
    · rw [if_pos hB, if_pos hB]
      simp [tm_I]
    rw [if_neg hB, if_neg hB]
    by_cases hO : n < 22
    · rw [if_pos hO, if_pos hO]
      simp [tm_I]
    rw [if_neg hO, if_neg hO]
    by_cases hY : n < 25
    · rw [if_pos hY, if_pos hY]
      simp [tm_I]
    rw [if_neg hY, if_neg hY]
    have hz : ¬ n - 25 = k := by omega
    simp [tm_I, hz]
theorem tc_sX_counter {v : Int32} (hk : k < 4) : (tc_w ad cc u).set (k + 32) (ad (k + 32), .inr (1, [.int (u.2.1 6 k), .int v, .long (u.1 7 k), .int (u.2.1 8 k), .long (u.1 8 k)])) = tc_w ad cc (tm_I u 7 k v) :=
  tm_set (by omega) (by
    rw [show tc_ce ad cc (tm_I u 7 k v) (k + 32) = _ from tc_X]; simp [tm_I]) tc_uX_counter_o
theorem tc_uX_policy_o {v : Int64} : ∀ j, j < 36 → j ≠ (k + 32) → tc_ce ad cc (tm_L u 7 k v) j = tc_ce ad cc u j := by
  intro j hj hne
  match j, hj, hne with
  | 0, _, hne => simp [tc_ce, tm_L]
  | 1, _, hne => simp [tc_ce, tm_L]
  | 2, _, hne => simp [tc_ce, tm_L]
  | 3, _, hne => simp [tc_ce, tm_L]
  | 4, _, hne => simp [tc_ce, tm_L]
  | 5, _, hne => simp [tc_ce, tm_L]
  | 6, _, hne => simp [tc_ce, tm_L]
  | n + 7, hj, hne =>
    show tc_cb ad cc _ n = tc_cb ad cc u n
    unfold tc_cb
    by_cases hP : n < 2
    · rw [if_pos hP, if_pos hP]
      simp [tm_L]
    rw [if_neg hP, if_neg hP]
    by_cases hK : n < 6
    · rw [if_pos hK, if_pos hK]
      simp [tm_L]
    rw [if_neg hK, if_neg hK]
    by_cases hB : n < 14
    · rw [if_pos hB, if_pos hB]
      simp [tm_L]
    rw [if_neg hB, if_neg hB]
    by_cases hO : n < 22
    · rw [if_pos hO, if_pos hO]
      simp [tm_L]
    rw [if_neg hO, if_neg hO]
    by_cases hY : n < 25
    · rw [if_pos hY, if_pos hY]
      simp [tm_L]
    rw [if_neg hY, if_neg hY]
    have hz : ¬ n - 25 = k := by omega
    simp [tm_L, hz]
theorem tc_sX_policy {v : Int64} (hk : k < 4) : (tc_w ad cc u).set (k + 32) (ad (k + 32), .inr (1, [.int (u.2.1 6 k), .int (u.2.1 7 k), .long v, .int (u.2.1 8 k), .long (u.1 8 k)])) = tc_w ad cc (tm_L u 7 k v) :=
  tm_set (by omega) (by
    rw [show tc_ce ad cc (tm_L u 7 k v) (k + 32) = _ from tc_X]; simp [tm_L]) tc_uX_policy_o
theorem tc_uX_written_o {v : Int32} : ∀ j, j < 36 → j ≠ (k + 32) → tc_ce ad cc (tm_I u 8 k v) j = tc_ce ad cc u j := by
  intro j hj hne
  match j, hj, hne with
  | 0, _, hne => simp [tc_ce, tm_I]
  | 1, _, hne => simp [tc_ce, tm_I]
  | 2, _, hne => simp [tc_ce, tm_I]
  | 3, _, hne => simp [tc_ce, tm_I]
  | 4, _, hne => simp [tc_ce, tm_I]
  | 5, _, hne => simp [tc_ce, tm_I]
  | 6, _, hne => simp [tc_ce, tm_I]
  | n + 7, hj, hne =>
    show tc_cb ad cc _ n = tc_cb ad cc u n
    unfold tc_cb
    by_cases hP : n < 2
    · rw [if_pos hP, if_pos hP]
      simp [tm_I]
    rw [if_neg hP, if_neg hP]
    by_cases hK : n < 6
    · rw [if_pos hK, if_pos hK]
      simp [tm_I]
    rw [if_neg hK, if_neg hK]
    by_cases hB : n < 14
    · rw [if_pos hB, if_pos hB]
      simp [tm_I]
    rw [if_neg hB, if_neg hB]
    by_cases hO : n < 22
    · rw [if_pos hO, if_pos hO]
      simp [tm_I]
    rw [if_neg hO, if_neg hO]
    by_cases hY : n < 25
    · rw [if_pos hY, if_pos hY]
      simp [tm_I]
    rw [if_neg hY, if_neg hY]
    have hz : ¬ n - 25 = k := by omega
    simp [tm_I, hz]
theorem tc_sX_written {v : Int32} (hk : k < 4) : (tc_w ad cc u).set (k + 32) (ad (k + 32), .inr (1, [.int (u.2.1 6 k), .int (u.2.1 7 k), .long (u.1 7 k), .int v, .long (u.1 8 k)])) = tc_w ad cc (tm_I u 8 k v) :=
  tm_set (by omega) (by
    rw [show tc_ce ad cc (tm_I u 8 k v) (k + 32) = _ from tc_X]; simp [tm_I]) tc_uX_written_o
theorem tc_uX_value_o {v : Int64} : ∀ j, j < 36 → j ≠ (k + 32) → tc_ce ad cc (tm_L u 8 k v) j = tc_ce ad cc u j := by
  intro j hj hne
  match j, hj, hne with
  | 0, _, hne => simp [tc_ce, tm_L]
  | 1, _, hne => simp [tc_ce, tm_L]
  | 2, _, hne => simp [tc_ce, tm_L]
  | 3, _, hne => simp [tc_ce, tm_L]
  | 4, _, hne => simp [tc_ce, tm_L]
  | 5, _, hne => simp [tc_ce, tm_L]
  | 6, _, hne => simp [tc_ce, tm_L]
  | n + 7, hj, hne =>
    show tc_cb ad cc _ n = tc_cb ad cc u n
    unfold tc_cb
    by_cases hP : n < 2
    · rw [if_pos hP, if_pos hP]
      simp [tm_L]
    rw [if_neg hP, if_neg hP]
    by_cases hK : n < 6
    · rw [if_pos hK, if_pos hK]
      simp [tm_L]
    rw [if_neg hK, if_neg hK]
    by_cases hB : n < 14
    · rw [if_pos hB, if_pos hB]
      simp [tm_L]
    rw [if_neg hB, if_neg hB]
    by_cases hO : n < 22
    · rw [if_pos hO, if_pos hO]
      simp [tm_L]
    rw [if_neg hO, if_neg hO]
    by_cases hY : n < 25
    · rw [if_pos hY, if_pos hY]
      simp [tm_L]
    rw [if_neg hY, if_neg hY]
    have hz : ¬ n - 25 = k := by omega
    simp [tm_L, hz]
theorem tc_sX_value {v : Int64} (hk : k < 4) : (tc_w ad cc u).set (k + 32) (ad (k + 32), .inr (1, [.int (u.2.1 6 k), .int (u.2.1 7 k), .long (u.1 7 k), .int (u.2.1 8 k), .long v])) = tc_w ad cc (tm_L u 8 k v) :=
  tm_set (by omega) (by
    rw [show tc_ce ad cc (tm_L u 8 k v) (k + 32) = _ from tc_X]; simp [tm_L]) tc_uX_value_o
theorem tc_u_seed_o {j0 : Nat} {v : Int64} : ∀ j, j < 36 → j ≠ 1 → tc_ce ad cc (tm_L u 0 j0 v) j = tc_ce ad cc u j := by
  intro j hj hne
  match j, hj, hne with
  | 0, _, hne => simp [tc_ce, tm_L]
  | 1, _, hne => exact absurd rfl hne
  | 2, _, hne => simp [tc_ce, tm_L]
  | 3, _, hne => simp [tc_ce, tm_L]
  | 4, _, hne => simp [tc_ce, tm_L]
  | 5, _, hne => simp [tc_ce, tm_L]
  | 6, _, hne => simp [tc_ce, tm_L]
  | n + 7, hj, hne =>
    show tc_cb ad cc _ n = tc_cb ad cc u n
    unfold tc_cb
    by_cases hP : n < 2
    · rw [if_pos hP, if_pos hP]
      simp [tm_L]
    rw [if_neg hP, if_neg hP]
    by_cases hK : n < 6
    · rw [if_pos hK, if_pos hK]
      simp [tm_L]
    rw [if_neg hK, if_neg hK]
    by_cases hB : n < 14
    · rw [if_pos hB, if_pos hB]
      simp [tm_L]
    rw [if_neg hB, if_neg hB]
    by_cases hO : n < 22
    · rw [if_pos hO, if_pos hO]
      simp [tm_L]
    rw [if_neg hO, if_neg hO]
    by_cases hY : n < 25
    · rw [if_pos hY, if_pos hY]
      simp [tm_L]
    rw [if_neg hY, if_neg hY]
    simp [tm_L]
theorem tc_u_pcr_o {j0 : Nat} {v : Int64} (hj : j0 < 8) : ∀ j, j < 36 → j ≠ (k + 7) → tc_ce ad cc (tm_L u 1 (8 * k + j0) v) j = tc_ce ad cc u j := by
  intro j hj hne
  match j, hj, hne with
  | 0, _, hne => simp [tc_ce, tm_L]
  | 1, _, hne => simp [tc_ce, tm_L]
  | 2, _, hne => simp [tc_ce, tm_L]
  | 3, _, hne => simp [tc_ce, tm_L]
  | 4, _, hne => simp [tc_ce, tm_L]
  | 5, _, hne => simp [tc_ce, tm_L]
  | 6, _, hne => simp [tc_ce, tm_L]
  | n + 7, hj, hne =>
    show tc_cb ad cc _ n = tc_cb ad cc u n
    unfold tc_cb
    by_cases hP : n < 2
    · rw [if_pos hP, if_pos hP]
      simp only [tm_L]; congr; funext i; by_cases hi : i < 8 <;> simp [hi]; intro q; omega
    rw [if_neg hP, if_neg hP]
    by_cases hK : n < 6
    · rw [if_pos hK, if_pos hK]
      simp [tm_L]
    rw [if_neg hK, if_neg hK]
    by_cases hB : n < 14
    · rw [if_pos hB, if_pos hB]
      simp [tm_L]
    rw [if_neg hB, if_neg hB]
    by_cases hO : n < 22
    · rw [if_pos hO, if_pos hO]
      simp [tm_L]
    rw [if_neg hO, if_neg hO]
    by_cases hY : n < 25
    · rw [if_pos hY, if_pos hY]
      simp [tm_L]
    rw [if_neg hY, if_neg hY]
    simp [tm_L]
theorem tc_u_blob_o {j0 : Nat} {v : Int64} (hj : j0 < 4) : ∀ j, j < 36 → j ≠ (k + 21) → tc_ce ad cc (tm_L u 5 (4 * k + j0) v) j = tc_ce ad cc u j := by
  intro j hj hne
  match j, hj, hne with
  | 0, _, hne => simp [tc_ce, tm_L]
  | 1, _, hne => simp [tc_ce, tm_L]
  | 2, _, hne => simp [tc_ce, tm_L]
  | 3, _, hne => simp [tc_ce, tm_L]
  | 4, _, hne => simp [tc_ce, tm_L]
  | 5, _, hne => simp [tc_ce, tm_L]
  | 6, _, hne => simp [tc_ce, tm_L]
  | n + 7, hj, hne =>
    show tc_cb ad cc _ n = tc_cb ad cc u n
    unfold tc_cb
    by_cases hP : n < 2
    · rw [if_pos hP, if_pos hP]
      simp [tm_L]
    rw [if_neg hP, if_neg hP]
    by_cases hK : n < 6
    · rw [if_pos hK, if_pos hK]
      simp [tm_L]
    rw [if_neg hK, if_neg hK]
    by_cases hB : n < 14
    · rw [if_pos hB, if_pos hB]
      simp [tm_L]
    rw [if_neg hB, if_neg hB]
    by_cases hO : n < 22
    · rw [if_pos hO, if_pos hO]
      simp only [tm_L]; congr; funext i; by_cases hi : i < 4 <;> simp [hi]; intro q; omega
    rw [if_neg hO, if_neg hO]
    by_cases hY : n < 25
    · rw [if_pos hY, if_pos hY]
      simp [tm_L]
    rw [if_neg hY, if_neg hY]
    simp [tm_L]
theorem tc_s_seed {j0 : Nat} {v : Int64} : (tc_w ad cc u).set 1 (ad 1, .inl (cc 0, 3, .inr (.inl (vp_updL (u.1 0) j0 v)))) = tc_w ad cc (tm_L u 0 j0 v) :=
  tm_set (by omega) (by
    show Sum.inl (cc 0, 3, Sum.inr (Sum.inl ((tm_L u 0 j0 v).1 0))) = _
    congr; funext i; simp [tm_L, vp_updL]) tc_u_seed_o
theorem tc_s_pcr {j0 : Nat} {v : Int64} (hk : k < 2) (hj : j0 < 8) : (tc_w ad cc u).set (k + 7) (ad (k + 7), .inl (cc 0, 8, .inr (.inl (vp_updL (fun i => if i < 8 then u.1 1 (8 * k + i) else 0) j0 v)))) = tc_w ad cc (tm_L u 1 (8 * k + j0) v) :=
  tm_set (by omega) (by
    rw [tc_P hk]
    congr; funext i
    by_cases h1 : i = j0
    · subst h1; simp [tm_L, vp_updL, hj]
    · by_cases hi : i < 8 <;> simp [tm_L, vp_updL, h1, hi]) (tc_u_pcr_o hj)
theorem tc_s_blob {j0 : Nat} {v : Int64} (hk : k < 8) (hj : j0 < 4) : (tc_w ad cc u).set (k + 21) (ad (k + 21), .inl (cc 0, 4, .inr (.inl (vp_updL (fun i => if i < 4 then u.1 5 (4 * k + i) else 0) j0 v)))) = tc_w ad cc (tm_L u 5 (4 * k + j0) v) :=
  tm_set (by omega) (by
    rw [tc_O hk]
    congr; funext i
    by_cases h1 : i = j0
    · subst h1; simp [tm_L, vp_updL, hj]
    · by_cases hi : i < 4 <;> simp [tm_L, vp_updL, h1, hi]) (tc_u_blob_o hj)
end TCA
