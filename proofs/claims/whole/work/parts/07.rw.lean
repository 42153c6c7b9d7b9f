/-! THE REFERENCE: its object and 18 arrays -/
def tr_ce (ad : Nat → Nat) (cc : Nat → ClassId) (u : tm_S) : Nat → va_E
  | 0 => .inr (5, [.ref (ad 1), .ref (ad 2), .ref (ad 3), .ref (ad 4), .ref (ad 5), .ref (ad 6), .ref (ad 7), .ref (ad 8), .ref (ad 9), .ref (ad 10), .ref (ad 11), .ref (ad 12), .ref (ad 13), .ref (ad 14), .ref (ad 15), .ref (ad 16), .ref (ad 17), .ref (ad 18), .int (u.2.1 9 0), .int (u.2.1 13 0), .int (u.2.1 10 0), .int (u.2.1 12 0), .int (u.2.1 14 0), .int (u.2.1 11 0), .long (u.1 9 0), .double (u.2.2 1), .double (u.2.2 0), .double (u.2.2 2)])
  | 1 => .inl (cc 0, 3, .inr (.inl (u.1 0)))
  | 2 => .inl (cc 0, 16, .inr (.inl (u.1 1)))
  | 3 => .inl (cc 0, 3, .inr (.inl (u.1 6)))
  | 4 => .inl (cc 0, 32, .inr (.inl (u.1 5)))
  | 5 => .inl (cc 0, 4, .inr (.inl (u.1 8)))
  | 6 => .inl (cc 0, 4, .inr (.inl (u.1 7)))
  | 7 => .inl (cc 0, 4, .inr (.inl (u.1 2)))
  | 8 => .inl (cc 0, 4, .inr (.inl (u.1 3)))
  | 9 => .inl (cc 0, 4, .inr (.inl (u.1 4)))
  | 10 => .inl (cc 1, 4, .inl (u.2.1 1))
  | 11 => .inl (cc 1, 3, .inl (u.2.1 5))
  | 12 => .inl (cc 2, 4, .inl (u.2.1 0))
  | 13 => .inl (cc 2, 4, .inl (u.2.1 2))
  | 14 => .inl (cc 2, 8, .inl (u.2.1 3))
  | 15 => .inl (cc 2, 3, .inl (u.2.1 4))
  | 16 => .inl (cc 2, 4, .inl (u.2.1 6))
  | 17 => .inl (cc 2, 4, .inl (u.2.1 7))
  | _ => .inl (cc 2, 4, .inl (u.2.1 8))
abbrev tr_w (ad : Nat → Nat) (cc : Nat → ClassId) (u : tm_S) : va_W := tm_w 19 ad (tr_ce ad cc u)
def tr_ty (cc : Nat → ClassId) : List (ClassId × FieldType) := [(cc 0, .long), (cc 1, .int), (cc 2, .boolean)]
section TRA
variable {ad : Nat → Nat} {cc : Nat → ClassId} {u : tm_S}
theorem tr_u_pcrCount_o {v : Int32} : ∀ q, q < 19 → q ≠ 0 → tr_ce ad cc (tm_I u 9 0 v) q = tr_ce ad cc u q := by
  intro q hj hne
  match q, hj, hne with
  | 0, _, hne => exact absurd rfl hne
  | 1, _, hne => simp [tr_ce, tm_I]
  | 2, _, hne => simp [tr_ce, tm_I]
  | 3, _, hne => simp [tr_ce, tm_I]
  | 4, _, hne => simp [tr_ce, tm_I]
  | 5, _, hne => simp [tr_ce, tm_I]
  | 6, _, hne => simp [tr_ce, tm_I]
  | 7, _, hne => simp [tr_ce, tm_I]
  | 8, _, hne => simp [tr_ce, tm_I]
  | 9, _, hne => simp [tr_ce, tm_I]
  | 10, _, hne => simp [tr_ce, tm_I]
  | 11, _, hne => simp [tr_ce, tm_I]
  | 12, _, hne => simp [tr_ce, tm_I]
  | 13, _, hne => simp [tr_ce, tm_I]
  | 14, _, hne => simp [tr_ce, tm_I]
  | 15, _, hne => simp [tr_ce, tm_I]
  | 16, _, hne => simp [tr_ce, tm_I]
  | 17, _, hne => simp [tr_ce, tm_I]
  | 18, _, hne => simp [tr_ce, tm_I]
  | n + 19, hj, _ => exact absurd hj (by omega)
theorem tr_s_pcrCount {v : Int32} : (tr_w ad cc u).set 0 (ad 0, .inr (5, [.ref (ad 1), .ref (ad 2), .ref (ad 3), .ref (ad 4), .ref (ad 5), .ref (ad 6), .ref (ad 7), .ref (ad 8), .ref (ad 9), .ref (ad 10), .ref (ad 11), .ref (ad 12), .ref (ad 13), .ref (ad 14), .ref (ad 15), .ref (ad 16), .ref (ad 17), .ref (ad 18), .int v, .int (u.2.1 13 0), .int (u.2.1 10 0), .int (u.2.1 12 0), .int (u.2.1 14 0), .int (u.2.1 11 0), .long (u.1 9 0), .double (u.2.2 1), .double (u.2.2 0), .double (u.2.2 2)])) = tr_w ad cc (tm_I u 9 0 v) :=
  tm_set (by omega) (by simp [tr_ce, tm_I]) tr_u_pcrCount_o
theorem tr_u_guesses_o {v : Int32} : ∀ q, q < 19 → q ≠ 0 → tr_ce ad cc (tm_I u 13 0 v) q = tr_ce ad cc u q := by
  intro q hj hne
  match q, hj, hne with
  | 0, _, hne => exact absurd rfl hne
  | 1, _, hne => simp [tr_ce, tm_I]
  | 2, _, hne => simp [tr_ce, tm_I]
  | 3, _, hne => simp [tr_ce, tm_I]
  | 4, _, hne => simp [tr_ce, tm_I]
  | 5, _, hne => simp [tr_ce, tm_I]
  | 6, _, hne => simp [tr_ce, tm_I]
  | 7, _, hne => simp [tr_ce, tm_I]
  | 8, _, hne => simp [tr_ce, tm_I]
  | 9, _, hne => simp [tr_ce, tm_I]
  | 10, _, hne => simp [tr_ce, tm_I]
  | 11, _, hne => simp [tr_ce, tm_I]
  | 12, _, hne => simp [tr_ce, tm_I]
  | 13, _, hne => simp [tr_ce, tm_I]
  | 14, _, hne => simp [tr_ce, tm_I]
  | 15, _, hne => simp [tr_ce, tm_I]
  | 16, _, hne => simp [tr_ce, tm_I]
  | 17, _, hne => simp [tr_ce, tm_I]
  | 18, _, hne => simp [tr_ce, tm_I]
  | n + 19, hj, _ => exact absurd hj (by omega)
theorem tr_s_guesses {v : Int32} : (tr_w ad cc u).set 0 (ad 0, .inr (5, [.ref (ad 1), .ref (ad 2), .ref (ad 3), .ref (ad 4), .ref (ad 5), .ref (ad 6), .ref (ad 7), .ref (ad 8), .ref (ad 9), .ref (ad 10), .ref (ad 11), .ref (ad 12), .ref (ad 13), .ref (ad 14), .ref (ad 15), .ref (ad 16), .ref (ad 17), .ref (ad 18), .int (u.2.1 9 0), .int v, .int (u.2.1 10 0), .int (u.2.1 12 0), .int (u.2.1 14 0), .int (u.2.1 11 0), .long (u.1 9 0), .double (u.2.2 1), .double (u.2.2 0), .double (u.2.2 2)])) = tr_w ad cc (tm_I u 13 0 v) :=
  tm_set (by omega) (by simp [tr_ce, tm_I]) tr_u_guesses_o
theorem tr_u_power_o {v : Int32} : ∀ q, q < 19 → q ≠ 0 → tr_ce ad cc (tm_I u 10 0 v) q = tr_ce ad cc u q := by
  intro q hj hne
  match q, hj, hne with
  | 0, _, hne => exact absurd rfl hne
  | 1, _, hne => simp [tr_ce, tm_I]
  | 2, _, hne => simp [tr_ce, tm_I]
  | 3, _, hne => simp [tr_ce, tm_I]
  | 4, _, hne => simp [tr_ce, tm_I]
  | 5, _, hne => simp [tr_ce, tm_I]
  | 6, _, hne => simp [tr_ce, tm_I]
  | 7, _, hne => simp [tr_ce, tm_I]
  | 8, _, hne => simp [tr_ce, tm_I]
  | 9, _, hne => simp [tr_ce, tm_I]
  | 10, _, hne => simp [tr_ce, tm_I]
  | 11, _, hne => simp [tr_ce, tm_I]
  | 12, _, hne => simp [tr_ce, tm_I]
  | 13, _, hne => simp [tr_ce, tm_I]
  | 14, _, hne => simp [tr_ce, tm_I]
  | 15, _, hne => simp [tr_ce, tm_I]
  | 16, _, hne => simp [tr_ce, tm_I]
  | 17, _, hne => simp [tr_ce, tm_I]
  | 18, _, hne => simp [tr_ce, tm_I]
  | n + 19, hj, _ => exact absurd hj (by omega)
theorem tr_s_power {v : Int32} : (tr_w ad cc u).set 0 (ad 0, .inr (5, [.ref (ad 1), .ref (ad 2), .ref (ad 3), .ref (ad 4), .ref (ad 5), .ref (ad 6), .ref (ad 7), .ref (ad 8), .ref (ad 9), .ref (ad 10), .ref (ad 11), .ref (ad 12), .ref (ad 13), .ref (ad 14), .ref (ad 15), .ref (ad 16), .ref (ad 17), .ref (ad 18), .int (u.2.1 9 0), .int (u.2.1 13 0), .int v, .int (u.2.1 12 0), .int (u.2.1 14 0), .int (u.2.1 11 0), .long (u.1 9 0), .double (u.2.2 1), .double (u.2.2 0), .double (u.2.2 2)])) = tr_w ad cc (tm_I u 10 0 v) :=
  tm_set (by omega) (by simp [tr_ce, tm_I]) tr_u_power_o
theorem tr_u_losses_o {v : Int32} : ∀ q, q < 19 → q ≠ 0 → tr_ce ad cc (tm_I u 12 0 v) q = tr_ce ad cc u q := by
  intro q hj hne
  match q, hj, hne with
  | 0, _, hne => exact absurd rfl hne
  | 1, _, hne => simp [tr_ce, tm_I]
  | 2, _, hne => simp [tr_ce, tm_I]
  | 3, _, hne => simp [tr_ce, tm_I]
  | 4, _, hne => simp [tr_ce, tm_I]
  | 5, _, hne => simp [tr_ce, tm_I]
  | 6, _, hne => simp [tr_ce, tm_I]
  | 7, _, hne => simp [tr_ce, tm_I]
  | 8, _, hne => simp [tr_ce, tm_I]
  | 9, _, hne => simp [tr_ce, tm_I]
  | 10, _, hne => simp [tr_ce, tm_I]
  | 11, _, hne => simp [tr_ce, tm_I]
  | 12, _, hne => simp [tr_ce, tm_I]
  | 13, _, hne => simp [tr_ce, tm_I]
  | 14, _, hne => simp [tr_ce, tm_I]
  | 15, _, hne => simp [tr_ce, tm_I]
  | 16, _, hne => simp [tr_ce, tm_I]
  | 17, _, hne => simp [tr_ce, tm_I]
  | 18, _, hne => simp [tr_ce, tm_I]
  | n + 19, hj, _ => exact absurd hj (by omega)
theorem tr_s_losses {v : Int32} : (tr_w ad cc u).set 0 (ad 0, .inr (5, [.ref (ad 1), .ref (ad 2), .ref (ad 3), .ref (ad 4), .ref (ad 5), .ref (ad 6), .ref (ad 7), .ref (ad 8), .ref (ad 9), .ref (ad 10), .ref (ad 11), .ref (ad 12), .ref (ad 13), .ref (ad 14), .ref (ad 15), .ref (ad 16), .ref (ad 17), .ref (ad 18), .int (u.2.1 9 0), .int (u.2.1 13 0), .int (u.2.1 10 0), .int v, .int (u.2.1 14 0), .int (u.2.1 11 0), .long (u.1 9 0), .double (u.2.2 1), .double (u.2.2 0), .double (u.2.2 2)])) = tr_w ad cc (tm_I u 12 0 v) :=
  tm_set (by omega) (by simp [tr_ce, tm_I]) tr_u_losses_o
theorem tr_u_thrown_o {v : Int32} : ∀ q, q < 19 → q ≠ 0 → tr_ce ad cc (tm_I u 14 0 v) q = tr_ce ad cc u q := by
  intro q hj hne
  match q, hj, hne with
  | 0, _, hne => exact absurd rfl hne
  | 1, _, hne => simp [tr_ce, tm_I]
  | 2, _, hne => simp [tr_ce, tm_I]
  | 3, _, hne => simp [tr_ce, tm_I]
  | 4, _, hne => simp [tr_ce, tm_I]
  | 5, _, hne => simp [tr_ce, tm_I]
  | 6, _, hne => simp [tr_ce, tm_I]
  | 7, _, hne => simp [tr_ce, tm_I]
  | 8, _, hne => simp [tr_ce, tm_I]
  | 9, _, hne => simp [tr_ce, tm_I]
  | 10, _, hne => simp [tr_ce, tm_I]
  | 11, _, hne => simp [tr_ce, tm_I]
  | 12, _, hne => simp [tr_ce, tm_I]
  | 13, _, hne => simp [tr_ce, tm_I]
  | 14, _, hne => simp [tr_ce, tm_I]
  | 15, _, hne => simp [tr_ce, tm_I]
  | 16, _, hne => simp [tr_ce, tm_I]
  | 17, _, hne => simp [tr_ce, tm_I]
  | 18, _, hne => simp [tr_ce, tm_I]
  | n + 19, hj, _ => exact absurd hj (by omega)
theorem tr_s_thrown {v : Int32} : (tr_w ad cc u).set 0 (ad 0, .inr (5, [.ref (ad 1), .ref (ad 2), .ref (ad 3), .ref (ad 4), .ref (ad 5), .ref (ad 6), .ref (ad 7), .ref (ad 8), .ref (ad 9), .ref (ad 10), .ref (ad 11), .ref (ad 12), .ref (ad 13), .ref (ad 14), .ref (ad 15), .ref (ad 16), .ref (ad 17), .ref (ad 18), .int (u.2.1 9 0), .int (u.2.1 13 0), .int (u.2.1 10 0), .int (u.2.1 12 0), .int v, .int (u.2.1 11 0), .long (u.1 9 0), .double (u.2.2 1), .double (u.2.2 0), .double (u.2.2 2)])) = tr_w ad cc (tm_I u 14 0 v) :=
  tm_set (by omega) (by simp [tr_ce, tm_I]) tr_u_thrown_o
theorem tr_u_lost_o {v : Int32} : ∀ q, q < 19 → q ≠ 0 → tr_ce ad cc (tm_I u 11 0 v) q = tr_ce ad cc u q := by
  intro q hj hne
  match q, hj, hne with
  | 0, _, hne => exact absurd rfl hne
  | 1, _, hne => simp [tr_ce, tm_I]
  | 2, _, hne => simp [tr_ce, tm_I]
  | 3, _, hne => simp [tr_ce, tm_I]
  | 4, _, hne => simp [tr_ce, tm_I]
  | 5, _, hne => simp [tr_ce, tm_I]
  | 6, _, hne => simp [tr_ce, tm_I]
  | 7, _, hne => simp [tr_ce, tm_I]
  | 8, _, hne => simp [tr_ce, tm_I]
  | 9, _, hne => simp [tr_ce, tm_I]
  | 10, _, hne => simp [tr_ce, tm_I]
  | 11, _, hne => simp [tr_ce, tm_I]
  | 12, _, hne => simp [tr_ce, tm_I]
  | 13, _, hne => simp [tr_ce, tm_I]
  | 14, _, hne => simp [tr_ce, tm_I]
  | 15, _, hne => simp [tr_ce, tm_I]
  | 16, _, hne => simp [tr_ce, tm_I]
  | 17, _, hne => simp [tr_ce, tm_I]
  | 18, _, hne => simp [tr_ce, tm_I]
  | n + 19, hj, _ => exact absurd hj (by omega)
theorem tr_s_lost {v : Int32} : (tr_w ad cc u).set 0 (ad 0, .inr (5, [.ref (ad 1), .ref (ad 2), .ref (ad 3), .ref (ad 4), .ref (ad 5), .ref (ad 6), .ref (ad 7), .ref (ad 8), .ref (ad 9), .ref (ad 10), .ref (ad 11), .ref (ad 12), .ref (ad 13), .ref (ad 14), .ref (ad 15), .ref (ad 16), .ref (ad 17), .ref (ad 18), .int (u.2.1 9 0), .int (u.2.1 13 0), .int (u.2.1 10 0), .int (u.2.1 12 0), .int (u.2.1 14 0), .int v, .long (u.1 9 0), .double (u.2.2 1), .double (u.2.2 0), .double (u.2.2 2)])) = tr_w ad cc (tm_I u 11 0 v) :=
  tm_set (by omega) (by simp [tr_ce, tm_I]) tr_u_lost_o
theorem tr_u_highest_o {v : Int64} : ∀ q, q < 19 → q ≠ 0 → tr_ce ad cc (tm_L u 9 0 v) q = tr_ce ad cc u q := by
  intro q hj hne
  match q, hj, hne with
  | 0, _, hne => exact absurd rfl hne
  | 1, _, hne => simp [tr_ce, tm_L]
  | 2, _, hne => simp [tr_ce, tm_L]
  | 3, _, hne => simp [tr_ce, tm_L]
  | 4, _, hne => simp [tr_ce, tm_L]
  | 5, _, hne => simp [tr_ce, tm_L]
  | 6, _, hne => simp [tr_ce, tm_L]
  | 7, _, hne => simp [tr_ce, tm_L]
  | 8, _, hne => simp [tr_ce, tm_L]
  | 9, _, hne => simp [tr_ce, tm_L]
  | 10, _, hne => simp [tr_ce, tm_L]
  | 11, _, hne => simp [tr_ce, tm_L]
  | 12, _, hne => simp [tr_ce, tm_L]
  | 13, _, hne => simp [tr_ce, tm_L]
  | 14, _, hne => simp [tr_ce, tm_L]
  | 15, _, hne => simp [tr_ce, tm_L]
  | 16, _, hne => simp [tr_ce, tm_L]
  | 17, _, hne => simp [tr_ce, tm_L]
  | 18, _, hne => simp [tr_ce, tm_L]
  | n + 19, hj, _ => exact absurd hj (by omega)
theorem tr_s_highest {v : Int64} : (tr_w ad cc u).set 0 (ad 0, .inr (5, [.ref (ad 1), .ref (ad 2), .ref (ad 3), .ref (ad 4), .ref (ad 5), .ref (ad 6), .ref (ad 7), .ref (ad 8), .ref (ad 9), .ref (ad 10), .ref (ad 11), .ref (ad 12), .ref (ad 13), .ref (ad 14), .ref (ad 15), .ref (ad 16), .ref (ad 17), .ref (ad 18), .int (u.2.1 9 0), .int (u.2.1 13 0), .int (u.2.1 10 0), .int (u.2.1 12 0), .int (u.2.1 14 0), .int (u.2.1 11 0), .long v, .double (u.2.2 1), .double (u.2.2 0), .double (u.2.2 2)])) = tr_w ad cc (tm_L u 9 0 v) :=
  tm_set (by omega) (by simp [tr_ce, tm_L]) tr_u_highest_o
theorem tr_u_clock_o {v : UInt64} : ∀ q, q < 19 → q ≠ 0 → tr_ce ad cc (tm_D u 1 v) q = tr_ce ad cc u q := by
  intro q hj hne
  match q, hj, hne with
  | 0, _, hne => exact absurd rfl hne
  | 1, _, hne => simp [tr_ce, tm_D]
  | 2, _, hne => simp [tr_ce, tm_D]
  | 3, _, hne => simp [tr_ce, tm_D]
  | 4, _, hne => simp [tr_ce, tm_D]
  | 5, _, hne => simp [tr_ce, tm_D]
  | 6, _, hne => simp [tr_ce, tm_D]
  | 7, _, hne => simp [tr_ce, tm_D]
  | 8, _, hne => simp [tr_ce, tm_D]
  | 9, _, hne => simp [tr_ce, tm_D]
  | 10, _, hne => simp [tr_ce, tm_D]
  | 11, _, hne => simp [tr_ce, tm_D]
  | 12, _, hne => simp [tr_ce, tm_D]
  | 13, _, hne => simp [tr_ce, tm_D]
  | 14, _, hne => simp [tr_ce, tm_D]
  | 15, _, hne => simp [tr_ce, tm_D]
  | 16, _, hne => simp [tr_ce, tm_D]
  | 17, _, hne => simp [tr_ce, tm_D]
  | 18, _, hne => simp [tr_ce, tm_D]
  | n + 19, hj, _ => exact absurd hj (by omega)
theorem tr_s_clock {v : UInt64} : (tr_w ad cc u).set 0 (ad 0, .inr (5, [.ref (ad 1), .ref (ad 2), .ref (ad 3), .ref (ad 4), .ref (ad 5), .ref (ad 6), .ref (ad 7), .ref (ad 8), .ref (ad 9), .ref (ad 10), .ref (ad 11), .ref (ad 12), .ref (ad 13), .ref (ad 14), .ref (ad 15), .ref (ad 16), .ref (ad 17), .ref (ad 18), .int (u.2.1 9 0), .int (u.2.1 13 0), .int (u.2.1 10 0), .int (u.2.1 12 0), .int (u.2.1 14 0), .int (u.2.1 11 0), .long (u.1 9 0), .double v, .double (u.2.2 0), .double (u.2.2 2)])) = tr_w ad cc (tm_D u 1 v) :=
  tm_set (by omega) (by simp [tr_ce, tm_D]) tr_u_clock_o
theorem tr_u_mark_o {v : UInt64} : ∀ q, q < 19 → q ≠ 0 → tr_ce ad cc (tm_D u 0 v) q = tr_ce ad cc u q := by
  intro q hj hne
  match q, hj, hne with
  | 0, _, hne => exact absurd rfl hne
  | 1, _, hne => simp [tr_ce, tm_D]
  | 2, _, hne => simp [tr_ce, tm_D]
  | 3, _, hne => simp [tr_ce, tm_D]
  | 4, _, hne => simp [tr_ce, tm_D]
  | 5, _, hne => simp [tr_ce, tm_D]
  | 6, _, hne => simp [tr_ce, tm_D]
  | 7, _, hne => simp [tr_ce, tm_D]
  | 8, _, hne => simp [tr_ce, tm_D]
  | 9, _, hne => simp [tr_ce, tm_D]
  | 10, _, hne => simp [tr_ce, tm_D]
  | 11, _, hne => simp [tr_ce, tm_D]
  | 12, _, hne => simp [tr_ce, tm_D]
  | 13, _, hne => simp [tr_ce, tm_D]
  | 14, _, hne => simp [tr_ce, tm_D]
  | 15, _, hne => simp [tr_ce, tm_D]
  | 16, _, hne => simp [tr_ce, tm_D]
  | 17, _, hne => simp [tr_ce, tm_D]
  | 18, _, hne => simp [tr_ce, tm_D]
  | n + 19, hj, _ => exact absurd hj (by omega)
theorem tr_s_mark {v : UInt64} : (tr_w ad cc u).set 0 (ad 0, .inr (5, [.ref (ad 1), .ref (ad 2), .ref (ad 3), .ref (ad 4), .ref (ad 5), .ref (ad 6), .ref (ad 7), .ref (ad 8), .ref (ad 9), .ref (ad 10), .ref (ad 11), .ref (ad 12), .ref (ad 13), .ref (ad 14), .ref (ad 15), .ref (ad 16), .ref (ad 17), .ref (ad 18), .int (u.2.1 9 0), .int (u.2.1 13 0), .int (u.2.1 10 0), .int (u.2.1 12 0), .int (u.2.1 14 0), .int (u.2.1 11 0), .long (u.1 9 0), .double (u.2.2 1), .double v, .double (u.2.2 2)])) = tr_w ad cc (tm_D u 0 v) :=
  tm_set (by omega) (by simp [tr_ce, tm_D]) tr_u_mark_o
theorem tr_u_rate_o {v : UInt64} : ∀ q, q < 19 → q ≠ 0 → tr_ce ad cc (tm_D u 2 v) q = tr_ce ad cc u q := by
  intro q hj hne
  match q, hj, hne with
  | 0, _, hne => exact absurd rfl hne
  | 1, _, hne => simp [tr_ce, tm_D]
  | 2, _, hne => simp [tr_ce, tm_D]
  | 3, _, hne => simp [tr_ce, tm_D]
  | 4, _, hne => simp [tr_ce, tm_D]
  | 5, _, hne => simp [tr_ce, tm_D]
  | 6, _, hne => simp [tr_ce, tm_D]
  | 7, _, hne => simp [tr_ce, tm_D]
  | 8, _, hne => simp [tr_ce, tm_D]
  | 9, _, hne => simp [tr_ce, tm_D]
  | 10, _, hne => simp [tr_ce, tm_D]
  | 11, _, hne => simp [tr_ce, tm_D]
  | 12, _, hne => simp [tr_ce, tm_D]
  | 13, _, hne => simp [tr_ce, tm_D]
  | 14, _, hne => simp [tr_ce, tm_D]
  | 15, _, hne => simp [tr_ce, tm_D]
  | 16, _, hne => simp [tr_ce, tm_D]
  | 17, _, hne => simp [tr_ce, tm_D]
  | 18, _, hne => simp [tr_ce, tm_D]
  | n + 19, hj, _ => exact absurd hj (by omega)
theorem tr_s_rate {v : UInt64} : (tr_w ad cc u).set 0 (ad 0, .inr (5, [.ref (ad 1), .ref (ad 2), .ref (ad 3), .ref (ad 4), .ref (ad 5), .ref (ad 6), .ref (ad 7), .ref (ad 8), .ref (ad 9), .ref (ad 10), .ref (ad 11), .ref (ad 12), .ref (ad 13), .ref (ad 14), .ref (ad 15), .ref (ad 16), .ref (ad 17), .ref (ad 18), .int (u.2.1 9 0), .int (u.2.1 13 0), .int (u.2.1 10 0), .int (u.2.1 12 0), .int (u.2.1 14 0), .int (u.2.1 11 0), .long (u.1 9 0), .double (u.2.2 1), .double (u.2.2 0), .double v])) = tr_w ad cc (tm_D u 2 v) :=
  tm_set (by omega) (by simp [tr_ce, tm_D]) tr_u_rate_o
theorem tr_u_seed_o {j : Nat} {v : Int64} : ∀ q, q < 19 → q ≠ 1 → tr_ce ad cc (tm_L u 0 j v) q = tr_ce ad cc u q := by
  intro q hj hne
  match q, hj, hne with
  | 0, _, hne => simp [tr_ce, tm_L]
  | 1, _, hne => exact absurd rfl hne
  | 2, _, hne => simp [tr_ce, tm_L]
  | 3, _, hne => simp [tr_ce, tm_L]
  | 4, _, hne => simp [tr_ce, tm_L]
  | 5, _, hne => simp [tr_ce, tm_L]
  | 6, _, hne => simp [tr_ce, tm_L]
  | 7, _, hne => simp [tr_ce, tm_L]
  | 8, _, hne => simp [tr_ce, tm_L]
  | 9, _, hne => simp [tr_ce, tm_L]
  | 10, _, hne => simp [tr_ce, tm_L]
  | 11, _, hne => simp [tr_ce, tm_L]
  | 12, _, hne => simp [tr_ce, tm_L]
  | 13, _, hne => simp [tr_ce, tm_L]
  | 14, _, hne => simp [tr_ce, tm_L]
  | 15, _, hne => simp [tr_ce, tm_L]
  | 16, _, hne => simp [tr_ce, tm_L]
  | 17, _, hne => simp [tr_ce, tm_L]
  | 18, _, hne => simp [tr_ce, tm_L]
  | n + 19, hj, _ => exact absurd hj (by omega)
theorem tr_s_seed {j : Nat} {v : Int64} : (tr_w ad cc u).set 1 (ad 1, .inl (cc 0, 3, .inr (.inl (vp_updL (u.1 0) j v)))) = tr_w ad cc (tm_L u 0 j v) :=
  tm_set (by omega) (by
    simp only [tr_ce]
    congr; funext i; simp [tm_L, vp_updL]) tr_u_seed_o
theorem tr_u_pcr_o {j : Nat} {v : Int64} : ∀ q, q < 19 → q ≠ 2 → tr_ce ad cc (tm_L u 1 j v) q = tr_ce ad cc u q := by
  intro q hj hne
  match q, hj, hne with
  | 0, _, hne => simp [tr_ce, tm_L]
  | 1, _, hne => simp [tr_ce, tm_L]
  | 2, _, hne => exact absurd rfl hne
  | 3, _, hne => simp [tr_ce, tm_L]
  | 4, _, hne => simp [tr_ce, tm_L]
  | 5, _, hne => simp [tr_ce, tm_L]
  | 6, _, hne => simp [tr_ce, tm_L]
  | 7, _, hne => simp [tr_ce, tm_L]
  | 8, _, hne => simp [tr_ce, tm_L]
  | 9, _, hne => simp [tr_ce, tm_L]
  | 10, _, hne => simp [tr_ce, tm_L]
  | 11, _, hne => simp [tr_ce, tm_L]
  | 12, _, hne => simp [tr_ce, tm_L]
  | 13, _, hne => simp [tr_ce, tm_L]
  | 14, _, hne => simp [tr_ce, tm_L]
  | 15, _, hne => simp [tr_ce, tm_L]
  | 16, _, hne => simp [tr_ce, tm_L]
  | 17, _, hne => simp [tr_ce, tm_L]
  | 18, _, hne => simp [tr_ce, tm_L]
  | n + 19, hj, _ => exact absurd hj (by omega)
theorem tr_s_pcr {j : Nat} {v : Int64} : (tr_w ad cc u).set 2 (ad 2, .inl (cc 0, 16, .inr (.inl (vp_updL (u.1 1) j v)))) = tr_w ad cc (tm_L u 1 j v) :=
  tm_set (by omega) (by
    simp only [tr_ce]
    congr; funext i; simp [tm_L, vp_updL]) tr_u_pcr_o
theorem tr_u_digest_o {j : Nat} {v : Int64} : ∀ q, q < 19 → q ≠ 3 → tr_ce ad cc (tm_L u 6 j v) q = tr_ce ad cc u q := by
  intro q hj hne
  match q, hj, hne with
  | 0, _, hne => simp [tr_ce, tm_L]
  | 1, _, hne => simp [tr_ce, tm_L]
  | 2, _, hne => simp [tr_ce, tm_L]
  | 3, _, hne => exact absurd rfl hne
  | 4, _, hne => simp [tr_ce, tm_L]
  | 5, _, hne => simp [tr_ce, tm_L]
  | 6, _, hne => simp [tr_ce, tm_L]
  | 7, _, hne => simp [tr_ce, tm_L]
  | 8, _, hne => simp [tr_ce, tm_L]
  | 9, _, hne => simp [tr_ce, tm_L]
  | 10, _, hne => simp [tr_ce, tm_L]
  | 11, _, hne => simp [tr_ce, tm_L]
  | 12, _, hne => simp [tr_ce, tm_L]
  | 13, _, hne => simp [tr_ce, tm_L]
  | 14, _, hne => simp [tr_ce, tm_L]
  | 15, _, hne => simp [tr_ce, tm_L]
  | 16, _, hne => simp [tr_ce, tm_L]
  | 17, _, hne => simp [tr_ce, tm_L]
  | 18, _, hne => simp [tr_ce, tm_L]
  | n + 19, hj, _ => exact absurd hj (by omega)
theorem tr_s_digest {j : Nat} {v : Int64} : (tr_w ad cc u).set 3 (ad 3, .inl (cc 0, 3, .inr (.inl (vp_updL (u.1 6) j v)))) = tr_w ad cc (tm_L u 6 j v) :=
  tm_set (by omega) (by
    simp only [tr_ce]
    congr; funext i; simp [tm_L, vp_updL]) tr_u_digest_o
theorem tr_u_blob_o {j : Nat} {v : Int64} : ∀ q, q < 19 → q ≠ 4 → tr_ce ad cc (tm_L u 5 j v) q = tr_ce ad cc u q := by
  intro q hj hne
  match q, hj, hne with
  | 0, _, hne => simp [tr_ce, tm_L]
  | 1, _, hne => simp [tr_ce, tm_L]
  | 2, _, hne => simp [tr_ce, tm_L]
  | 3, _, hne => simp [tr_ce, tm_L]
  | 4, _, hne => exact absurd rfl hne
  | 5, _, hne => simp [tr_ce, tm_L]
  | 6, _, hne => simp [tr_ce, tm_L]
  | 7, _, hne => simp [tr_ce, tm_L]
  | 8, _, hne => simp [tr_ce, tm_L]
  | 9, _, hne => simp [tr_ce, tm_L]
  | 10, _, hne => simp [tr_ce, tm_L]
  | 11, _, hne => simp [tr_ce, tm_L]
  | 12, _, hne => simp [tr_ce, tm_L]
  | 13, _, hne => simp [tr_ce, tm_L]
  | 14, _, hne => simp [tr_ce, tm_L]
  | 15, _, hne => simp [tr_ce, tm_L]
  | 16, _, hne => simp [tr_ce, tm_L]
  | 17, _, hne => simp [tr_ce, tm_L]
  | 18, _, hne => simp [tr_ce, tm_L]
  | n + 19, hj, _ => exact absurd hj (by omega)
theorem tr_s_blob {j : Nat} {v : Int64} : (tr_w ad cc u).set 4 (ad 4, .inl (cc 0, 32, .inr (.inl (vp_updL (u.1 5) j v)))) = tr_w ad cc (tm_L u 5 j v) :=
  tm_set (by omega) (by
    simp only [tr_ce]
    congr; funext i; simp [tm_L, vp_updL]) tr_u_blob_o
theorem tr_u_cell_o {j : Nat} {v : Int64} : ∀ q, q < 19 → q ≠ 5 → tr_ce ad cc (tm_L u 8 j v) q = tr_ce ad cc u q := by
  intro q hj hne
  match q, hj, hne with
  | 0, _, hne => simp [tr_ce, tm_L]
  | 1, _, hne => simp [tr_ce, tm_L]
  | 2, _, hne => simp [tr_ce, tm_L]
  | 3, _, hne => simp [tr_ce, tm_L]
  | 4, _, hne => simp [tr_ce, tm_L]
  | 5, _, hne => exact absurd rfl hne
  | 6, _, hne => simp [tr_ce, tm_L]
  | 7, _, hne => simp [tr_ce, tm_L]
  | 8, _, hne => simp [tr_ce, tm_L]
  | 9, _, hne => simp [tr_ce, tm_L]
  | 10, _, hne => simp [tr_ce, tm_L]
  | 11, _, hne => simp [tr_ce, tm_L]
  | 12, _, hne => simp [tr_ce, tm_L]
  | 13, _, hne => simp [tr_ce, tm_L]
  | 14, _, hne => simp [tr_ce, tm_L]
  | 15, _, hne => simp [tr_ce, tm_L]
  | 16, _, hne => simp [tr_ce, tm_L]
  | 17, _, hne => simp [tr_ce, tm_L]
  | 18, _, hne => simp [tr_ce, tm_L]
  | n + 19, hj, _ => exact absurd hj (by omega)
theorem tr_s_cell {j : Nat} {v : Int64} : (tr_w ad cc u).set 5 (ad 5, .inl (cc 0, 4, .inr (.inl (vp_updL (u.1 8) j v)))) = tr_w ad cc (tm_L u 8 j v) :=
  tm_set (by omega) (by
    simp only [tr_ce]
    congr; funext i; simp [tm_L, vp_updL]) tr_u_cell_o
theorem tr_u_cellPolicy_o {j : Nat} {v : Int64} : ∀ q, q < 19 → q ≠ 6 → tr_ce ad cc (tm_L u 7 j v) q = tr_ce ad cc u q := by
  intro q hj hne
  match q, hj, hne with
  | 0, _, hne => simp [tr_ce, tm_L]
  | 1, _, hne => simp [tr_ce, tm_L]
  | 2, _, hne => simp [tr_ce, tm_L]
  | 3, _, hne => simp [tr_ce, tm_L]
  | 4, _, hne => simp [tr_ce, tm_L]
  | 5, _, hne => simp [tr_ce, tm_L]
  | 6, _, hne => exact absurd rfl hne
  | 7, _, hne => simp [tr_ce, tm_L]
  | 8, _, hne => simp [tr_ce, tm_L]
  | 9, _, hne => simp [tr_ce, tm_L]
  | 10, _, hne => simp [tr_ce, tm_L]
  | 11, _, hne => simp [tr_ce, tm_L]
  | 12, _, hne => simp [tr_ce, tm_L]
  | 13, _, hne => simp [tr_ce, tm_L]
  | 14, _, hne => simp [tr_ce, tm_L]
  | 15, _, hne => simp [tr_ce, tm_L]
  | 16, _, hne => simp [tr_ce, tm_L]
  | 17, _, hne => simp [tr_ce, tm_L]
  | 18, _, hne => simp [tr_ce, tm_L]
  | n + 19, hj, _ => exact absurd hj (by omega)
theorem tr_s_cellPolicy {j : Nat} {v : Int64} : (tr_w ad cc u).set 6 (ad 6, .inl (cc 0, 4, .inr (.inl (vp_updL (u.1 7) j v)))) = tr_w ad cc (tm_L u 7 j v) :=
  tm_set (by omega) (by
    simp only [tr_ce]
    congr; funext i; simp [tm_L, vp_updL]) tr_u_cellPolicy_o
theorem tr_u_keyValue_o {j : Nat} {v : Int64} : ∀ q, q < 19 → q ≠ 7 → tr_ce ad cc (tm_L u 2 j v) q = tr_ce ad cc u q := by
  intro q hj hne
  match q, hj, hne with
  | 0, _, hne => simp [tr_ce, tm_L]
  | 1, _, hne => simp [tr_ce, tm_L]
  | 2, _, hne => simp [tr_ce, tm_L]
  | 3, _, hne => simp [tr_ce, tm_L]
  | 4, _, hne => simp [tr_ce, tm_L]
  | 5, _, hne => simp [tr_ce, tm_L]
  | 6, _, hne => simp [tr_ce, tm_L]
  | 7, _, hne => exact absurd rfl hne
  | 8, _, hne => simp [tr_ce, tm_L]
  | 9, _, hne => simp [tr_ce, tm_L]
  | 10, _, hne => simp [tr_ce, tm_L]
  | 11, _, hne => simp [tr_ce, tm_L]
  | 12, _, hne => simp [tr_ce, tm_L]
  | 13, _, hne => simp [tr_ce, tm_L]
  | 14, _, hne => simp [tr_ce, tm_L]
  | 15, _, hne => simp [tr_ce, tm_L]
  | 16, _, hne => simp [tr_ce, tm_L]
  | 17, _, hne => simp [tr_ce, tm_L]
  | 18, _, hne => simp [tr_ce, tm_L]
  | n + 19, hj, _ => exact absurd hj (by omega)
theorem tr_s_keyValue {j : Nat} {v : Int64} : (tr_w ad cc u).set 7 (ad 7, .inl (cc 0, 4, .inr (.inl (vp_updL (u.1 2) j v)))) = tr_w ad cc (tm_L u 2 j v) :=
  tm_set (by omega) (by
    simp only [tr_ce]
    congr; funext i; simp [tm_L, vp_updL]) tr_u_keyValue_o
theorem tr_u_policy_o {j : Nat} {v : Int64} : ∀ q, q < 19 → q ≠ 8 → tr_ce ad cc (tm_L u 3 j v) q = tr_ce ad cc u q := by
  intro q hj hne
  match q, hj, hne with
  | 0, _, hne => simp [tr_ce, tm_L]
  | 1, _, hne => simp [tr_ce, tm_L]
  | 2, _, hne => simp [tr_ce, tm_L]
  | 3, _, hne => simp [tr_ce, tm_L]
  | 4, _, hne => simp [tr_ce, tm_L]
  | 5, _, hne => simp [tr_ce, tm_L]
  | 6, _, hne => simp [tr_ce, tm_L]
  | 7, _, hne => simp [tr_ce, tm_L]
  | 8, _, hne => exact absurd rfl hne
  | 9, _, hne => simp [tr_ce, tm_L]
  | 10, _, hne => simp [tr_ce, tm_L]
  | 11, _, hne => simp [tr_ce, tm_L]
  | 12, _, hne => simp [tr_ce, tm_L]
  | 13, _, hne => simp [tr_ce, tm_L]
  | 14, _, hne => simp [tr_ce, tm_L]
  | 15, _, hne => simp [tr_ce, tm_L]
  | 16, _, hne => simp [tr_ce, tm_L]
  | 17, _, hne => simp [tr_ce, tm_L]
  | 18, _, hne => simp [tr_ce, tm_L]
  | n + 19, hj, _ => exact absurd hj (by omega)
theorem tr_s_policy {j : Nat} {v : Int64} : (tr_w ad cc u).set 8 (ad 8, .inl (cc 0, 4, .inr (.inl (vp_updL (u.1 3) j v)))) = tr_w ad cc (tm_L u 3 j v) :=
  tm_set (by omega) (by
    simp only [tr_ce]
    congr; funext i; simp [tm_L, vp_updL]) tr_u_policy_o
theorem tr_u_secret_o {j : Nat} {v : Int64} : ∀ q, q < 19 → q ≠ 9 → tr_ce ad cc (tm_L u 4 j v) q = tr_ce ad cc u q := by
  intro q hj hne
  match q, hj, hne with
  | 0, _, hne => simp [tr_ce, tm_L]
  | 1, _, hne => simp [tr_ce, tm_L]
  | 2, _, hne => simp [tr_ce, tm_L]
  | 3, _, hne => simp [tr_ce, tm_L]
  | 4, _, hne => simp [tr_ce, tm_L]
  | 5, _, hne => simp [tr_ce, tm_L]
  | 6, _, hne => simp [tr_ce, tm_L]
  | 7, _, hne => simp [tr_ce, tm_L]
  | 8, _, hne => simp [tr_ce, tm_L]
  | 9, _, hne => exact absurd rfl hne
  | 10, _, hne => simp [tr_ce, tm_L]
  | 11, _, hne => simp [tr_ce, tm_L]
  | 12, _, hne => simp [tr_ce, tm_L]
  | 13, _, hne => simp [tr_ce, tm_L]
  | 14, _, hne => simp [tr_ce, tm_L]
  | 15, _, hne => simp [tr_ce, tm_L]
  | 16, _, hne => simp [tr_ce, tm_L]
  | 17, _, hne => simp [tr_ce, tm_L]
  | 18, _, hne => simp [tr_ce, tm_L]
  | n + 19, hj, _ => exact absurd hj (by omega)
theorem tr_s_secret {j : Nat} {v : Int64} : (tr_w ad cc u).set 9 (ad 9, .inl (cc 0, 4, .inr (.inl (vp_updL (u.1 4) j v)))) = tr_w ad cc (tm_L u 4 j v) :=
  tm_set (by omega) (by
    simp only [tr_ce]
    congr; funext i; simp [tm_L, vp_updL]) tr_u_secret_o
theorem tr_u_word_o {j : Nat} {v : Int32} : ∀ q, q < 19 → q ≠ 10 → tr_ce ad cc (tm_I u 1 j v) q = tr_ce ad cc u q := by
  intro q hj hne
  match q, hj, hne with
  | 0, _, hne => simp [tr_ce, tm_I]
  | 1, _, hne => simp [tr_ce, tm_I]
  | 2, _, hne => simp [tr_ce, tm_I]
  | 3, _, hne => simp [tr_ce, tm_I]
  | 4, _, hne => simp [tr_ce, tm_I]
  | 5, _, hne => simp [tr_ce, tm_I]
  | 6, _, hne => simp [tr_ce, tm_I]
  | 7, _, hne => simp [tr_ce, tm_I]
  | 8, _, hne => simp [tr_ce, tm_I]
  | 9, _, hne => simp [tr_ce, tm_I]
  | 10, _, hne => exact absurd rfl hne
  | 11, _, hne => simp [tr_ce, tm_I]
  | 12, _, hne => simp [tr_ce, tm_I]
  | 13, _, hne => simp [tr_ce, tm_I]
  | 14, _, hne => simp [tr_ce, tm_I]
  | 15, _, hne => simp [tr_ce, tm_I]
  | 16, _, hne => simp [tr_ce, tm_I]
  | 17, _, hne => simp [tr_ce, tm_I]
  | 18, _, hne => simp [tr_ce, tm_I]
  | n + 19, hj, _ => exact absurd hj (by omega)
theorem tr_s_word {j : Nat} {v : Int32} : (tr_w ad cc u).set 10 (ad 10, .inl (cc 1, 4, .inl (upd (u.2.1 1) j v))) = tr_w ad cc (tm_I u 1 j v) :=
  tm_set (by omega) (by
    simp only [tr_ce]
    congr; funext i; simp [tm_I, upd]) tr_u_word_o
theorem tr_u_seen_o {j : Nat} {v : Int32} : ∀ q, q < 19 → q ≠ 11 → tr_ce ad cc (tm_I u 5 j v) q = tr_ce ad cc u q := by
  intro q hj hne
  match q, hj, hne with
  | 0, _, hne => simp [tr_ce, tm_I]
  | 1, _, hne => simp [tr_ce, tm_I]
  | 2, _, hne => simp [tr_ce, tm_I]
  | 3, _, hne => simp [tr_ce, tm_I]
  | 4, _, hne => simp [tr_ce, tm_I]
  | 5, _, hne => simp [tr_ce, tm_I]
  | 6, _, hne => simp [tr_ce, tm_I]
  | 7, _, hne => simp [tr_ce, tm_I]
  | 8, _, hne => simp [tr_ce, tm_I]
  | 9, _, hne => simp [tr_ce, tm_I]
  | 10, _, hne => simp [tr_ce, tm_I]
  | 11, _, hne => exact absurd rfl hne
  | 12, _, hne => simp [tr_ce, tm_I]
  | 13, _, hne => simp [tr_ce, tm_I]
  | 14, _, hne => simp [tr_ce, tm_I]
  | 15, _, hne => simp [tr_ce, tm_I]
  | 16, _, hne => simp [tr_ce, tm_I]
  | 17, _, hne => simp [tr_ce, tm_I]
  | 18, _, hne => simp [tr_ce, tm_I]
  | n + 19, hj, _ => exact absurd hj (by omega)
theorem tr_s_seen {j : Nat} {v : Int32} : (tr_w ad cc u).set 11 (ad 11, .inl (cc 1, 3, .inl (upd (u.2.1 5) j v))) = tr_w ad cc (tm_I u 5 j v) :=
  tm_set (by omega) (by
    simp only [tr_ce]
    congr; funext i; simp [tm_I, upd]) tr_u_seen_o
theorem tr_u_used_o {j : Nat} {v : Int32} : ∀ q, q < 19 → q ≠ 12 → tr_ce ad cc (tm_I u 0 j v) q = tr_ce ad cc u q := by
  intro q hj hne
  match q, hj, hne with
  | 0, _, hne => simp [tr_ce, tm_I]
  | 1, _, hne => simp [tr_ce, tm_I]
  | 2, _, hne => simp [tr_ce, tm_I]
  | 3, _, hne => simp [tr_ce, tm_I]
  | 4, _, hne => simp [tr_ce, tm_I]
  | 5, _, hne => simp [tr_ce, tm_I]
  | 6, _, hne => simp [tr_ce, tm_I]
  | 7, _, hne => simp [tr_ce, tm_I]
  | 8, _, hne => simp [tr_ce, tm_I]
  | 9, _, hne => simp [tr_ce, tm_I]
  | 10, _, hne => simp [tr_ce, tm_I]
  | 11, _, hne => simp [tr_ce, tm_I]
  | 12, _, hne => exact absurd rfl hne
  | 13, _, hne => simp [tr_ce, tm_I]
  | 14, _, hne => simp [tr_ce, tm_I]
  | 15, _, hne => simp [tr_ce, tm_I]
  | 16, _, hne => simp [tr_ce, tm_I]
  | 17, _, hne => simp [tr_ce, tm_I]
  | 18, _, hne => simp [tr_ce, tm_I]
  | n + 19, hj, _ => exact absurd hj (by omega)
theorem tr_s_used {j : Nat} {v : Int32} : (tr_w ad cc u).set 12 (ad 12, .inl (cc 2, 4, .inl (upd (u.2.1 0) j v))) = tr_w ad cc (tm_I u 0 j v) :=
  tm_set (by omega) (by
    simp only [tr_ce]
    congr; funext i; simp [tm_I, upd]) tr_u_used_o
theorem tr_u_isParent_o {j : Nat} {v : Int32} : ∀ q, q < 19 → q ≠ 13 → tr_ce ad cc (tm_I u 2 j v) q = tr_ce ad cc u q := by
  intro q hj hne
  match q, hj, hne with
  | 0, _, hne => simp [tr_ce, tm_I]
  | 1, _, hne => simp [tr_ce, tm_I]
  | 2, _, hne => simp [tr_ce, tm_I]
  | 3, _, hne => simp [tr_ce, tm_I]
  | 4, _, hne => simp [tr_ce, tm_I]
  | 5, _, hne => simp [tr_ce, tm_I]
  | 6, _, hne => simp [tr_ce, tm_I]
  | 7, _, hne => simp [tr_ce, tm_I]
  | 8, _, hne => simp [tr_ce, tm_I]
  | 9, _, hne => simp [tr_ce, tm_I]
  | 10, _, hne => simp [tr_ce, tm_I]
  | 11, _, hne => simp [tr_ce, tm_I]
  | 12, _, hne => simp [tr_ce, tm_I]
  | 13, _, hne => exact absurd rfl hne
  | 14, _, hne => simp [tr_ce, tm_I]
  | 15, _, hne => simp [tr_ce, tm_I]
  | 16, _, hne => simp [tr_ce, tm_I]
  | 17, _, hne => simp [tr_ce, tm_I]
  | 18, _, hne => simp [tr_ce, tm_I]
  | n + 19, hj, _ => exact absurd hj (by omega)
theorem tr_s_isParent {j : Nat} {v : Int32} : (tr_w ad cc u).set 13 (ad 13, .inl (cc 2, 4, .inl (upd (u.2.1 2) j v))) = tr_w ad cc (tm_I u 2 j v) :=
  tm_set (by omega) (by
    simp only [tr_ce]
    congr; funext i; simp [tm_I, upd]) tr_u_isParent_o
theorem tr_u_there_o {j : Nat} {v : Int32} : ∀ q, q < 19 → q ≠ 14 → tr_ce ad cc (tm_I u 3 j v) q = tr_ce ad cc u q := by
  intro q hj hne
  match q, hj, hne with
  | 0, _, hne => simp [tr_ce, tm_I]
  | 1, _, hne => simp [tr_ce, tm_I]
  | 2, _, hne => simp [tr_ce, tm_I]
  | 3, _, hne => simp [tr_ce, tm_I]
  | 4, _, hne => simp [tr_ce, tm_I]
  | 5, _, hne => simp [tr_ce, tm_I]
  | 6, _, hne => simp [tr_ce, tm_I]
  | 7, _, hne => simp [tr_ce, tm_I]
  | 8, _, hne => simp [tr_ce, tm_I]
  | 9, _, hne => simp [tr_ce, tm_I]
  | 10, _, hne => simp [tr_ce, tm_I]
  | 11, _, hne => simp [tr_ce, tm_I]
  | 12, _, hne => simp [tr_ce, tm_I]
  | 13, _, hne => simp [tr_ce, tm_I]
  | 14, _, hne => exact absurd rfl hne
  | 15, _, hne => simp [tr_ce, tm_I]
  | 16, _, hne => simp [tr_ce, tm_I]
  | 17, _, hne => simp [tr_ce, tm_I]
  | 18, _, hne => simp [tr_ce, tm_I]
  | n + 19, hj, _ => exact absurd hj (by omega)
theorem tr_s_there {j : Nat} {v : Int32} : (tr_w ad cc u).set 14 (ad 14, .inl (cc 2, 8, .inl (upd (u.2.1 3) j v))) = tr_w ad cc (tm_I u 3 j v) :=
  tm_set (by omega) (by
    simp only [tr_ce]
    congr; funext i; simp [tm_I, upd]) tr_u_there_o
theorem tr_u_looked_o {j : Nat} {v : Int32} : ∀ q, q < 19 → q ≠ 15 → tr_ce ad cc (tm_I u 4 j v) q = tr_ce ad cc u q := by
  intro q hj hne
  match q, hj, hne with
  | 0, _, hne => simp [tr_ce, tm_I]
  | 1, _, hne => simp [tr_ce, tm_I]
  | 2, _, hne => simp [tr_ce, tm_I]
  | 3, _, hne => simp [tr_ce, tm_I]
  | 4, _, hne => simp [tr_ce, tm_I]
  | 5, _, hne => simp [tr_ce, tm_I]
  | 6, _, hne => simp [tr_ce, tm_I]
  | 7, _, hne => simp [tr_ce, tm_I]
  | 8, _, hne => simp [tr_ce, tm_I]
  | 9, _, hne => simp [tr_ce, tm_I]
  | 10, _, hne => simp [tr_ce, tm_I]
  | 11, _, hne => simp [tr_ce, tm_I]
  | 12, _, hne => simp [tr_ce, tm_I]
  | 13, _, hne => simp [tr_ce, tm_I]
  | 14, _, hne => simp [tr_ce, tm_I]
  | 15, _, hne => exact absurd rfl hne
  | 16, _, hne => simp [tr_ce, tm_I]
  | 17, _, hne => simp [tr_ce, tm_I]
  | 18, _, hne => simp [tr_ce, tm_I]
  | n + 19, hj, _ => exact absurd hj (by omega)
theorem tr_s_looked {j : Nat} {v : Int32} : (tr_w ad cc u).set 15 (ad 15, .inl (cc 2, 3, .inl (upd (u.2.1 4) j v))) = tr_w ad cc (tm_I u 4 j v) :=
  tm_set (by omega) (by
    simp only [tr_ce]
    congr; funext i; simp [tm_I, upd]) tr_u_looked_o
theorem tr_u_defined_o {j : Nat} {v : Int32} : ∀ q, q < 19 → q ≠ 16 → tr_ce ad cc (tm_I u 6 j v) q = tr_ce ad cc u q := by
  intro q hj hne
  match q, hj, hne with
  | 0, _, hne => simp [tr_ce, tm_I]
  | 1, _, hne => simp [tr_ce, tm_I]
  | 2, _, hne => simp [tr_ce, tm_I]
  | 3, _, hne => simp [tr_ce, tm_I]
  | 4, _, hne => simp [tr_ce, tm_I]
  | 5, _, hne => simp [tr_ce, tm_I]
  | 6, _, hne => simp [tr_ce, tm_I]
  | 7, _, hne => simp [tr_ce, tm_I]
  | 8, _, hne => simp [tr_ce, tm_I]
  | 9, _, hne => simp [tr_ce, tm_I]
  | 10, _, hne => simp [tr_ce, tm_I]
  | 11, _, hne => simp [tr_ce, tm_I]
  | 12, _, hne => simp [tr_ce, tm_I]
  | 13, _, hne => simp [tr_ce, tm_I]
  | 14, _, hne => simp [tr_ce, tm_I]
  | 15, _, hne => simp [tr_ce, tm_I]
  | 16, _, hne => exact absurd rfl hne
  | 17, _, hne => simp [tr_ce, tm_I]
  | 18, _, hne => simp [tr_ce, tm_I]
  | n + 19, hj, _ => exact absurd hj (by omega)
theorem tr_s_defined {j : Nat} {v : Int32} : (tr_w ad cc u).set 16 (ad 16, .inl (cc 2, 4, .inl (upd (u.2.1 6) j v))) = tr_w ad cc (tm_I u 6 j v) :=
  tm_set (by omega) (by
    simp only [tr_ce]
    congr; funext i; simp [tm_I, upd]) tr_u_defined_o
theorem tr_u_counting_o {j : Nat} {v : Int32} : ∀ q, q < 19 → q ≠ 17 → tr_ce ad cc (tm_I u 7 j v) q = tr_ce ad cc u q := by
  intro q hj hne
  match q, hj, hne with
  | 0, _, hne => simp [tr_ce, tm_I]
  | 1, _, hne => simp [tr_ce, tm_I]
  | 2, _, hne => simp [tr_ce, tm_I]
  | 3, _, hne => simp [tr_ce, tm_I]
  | 4, _, hne => simp [tr_ce, tm_I]
  | 5, _, hne => simp [tr_ce, tm_I]
  | 6, _, hne => simp [tr_ce, tm_I]
  | 7, _, hne => simp [tr_ce, tm_I]
  | 8, _, hne => simp [tr_ce, tm_I]
  | 9, _, hne => simp [tr_ce, tm_I]
  | 10, _, hne => simp [tr_ce, tm_I]
  | 11, _, hne => simp [tr_ce, tm_I]
  | 12, _, hne => simp [tr_ce, tm_I]
  | 13, _, hne => simp [tr_ce, tm_I]
  | 14, _, hne => simp [tr_ce, tm_I]
  | 15, _, hne => simp [tr_ce, tm_I]
  | 16, _, hne => simp [tr_ce, tm_I]
  | 17, _, hne => exact absurd rfl hne
  | 18, _, hne => simp [tr_ce, tm_I]
  | n + 19, hj, _ => exact absurd hj (by omega)
theorem tr_s_counting {j : Nat} {v : Int32} : (tr_w ad cc u).set 17 (ad 17, .inl (cc 2, 4, .inl (upd (u.2.1 7) j v))) = tr_w ad cc (tm_I u 7 j v) :=
  tm_set (by omega) (by
    simp only [tr_ce]
    congr; funext i; simp [tm_I, upd]) tr_u_counting_o
theorem tr_u_filled_o {j : Nat} {v : Int32} : ∀ q, q < 19 → q ≠ 18 → tr_ce ad cc (tm_I u 8 j v) q = tr_ce ad cc u q := by
  intro q hj hne
  match q, hj, hne with
  | 0, _, hne => simp [tr_ce, tm_I]
  | 1, _, hne => simp [tr_ce, tm_I]
  | 2, _, hne => simp [tr_ce, tm_I]
  | 3, _, hne => simp [tr_ce, tm_I]
  | 4, _, hne => simp [tr_ce, tm_I]
  | 5, _, hne => simp [tr_ce, tm_I]
  | 6, _, hne => simp [tr_ce, tm_I]
  | 7, _, hne => simp [tr_ce, tm_I]
  | 8, _, hne => simp [tr_ce, tm_I]
  | 9, _, hne => simp [tr_ce, tm_I]
  | 10, _, hne => simp [tr_ce, tm_I]
  | 11, _, hne => simp [tr_ce, tm_I]
  | 12, _, hne => simp [tr_ce, tm_I]
  | 13, _, hne => simp [tr_ce, tm_I]
  | 14, _, hne => simp [tr_ce, tm_I]
  | 15, _, hne => simp [tr_ce, tm_I]
  | 16, _, hne => simp [tr_ce, tm_I]
  | 17, _, hne => simp [tr_ce, tm_I]
  | 18, _, hne => exact absurd rfl hne
  | n + 19, hj, _ => exact absurd hj (by omega)
theorem tr_s_filled {j : Nat} {v : Int32} : (tr_w ad cc u).set 18 (ad 18, .inl (cc 2, 4, .inl (upd (u.2.1 8) j v))) = tr_w ad cc (tm_I u 8 j v) :=
  tm_set (by omega) (by
    simp only [tr_ce]
    congr; funext i; simp [tm_I, upd]) tr_u_filled_o
end TRA
