/-! The law's world: the class's 36 cells, the reference's 19, the two arrays for answers. -/
section LWA
theorem tm_idx {n : Nat} {ad : Nat → Nat} {f : Nat → va_E} {k : Nat} {q : Nat × va_E} (h : (tm_w n ad f)[k]? = some q) : k < n ∧ q = (ad k, f k) := by
  have hk : k < n := by
    have := (List.getElem?_eq_some_iff.mp h).1
    simpa [tm_w] using this
  rw [tm_at hk rfl] at h
  cases h
  exact ⟨hk, rfl⟩
theorem tm_Dany {n : Nat} {ad : Nat → Nat} {f g : Nat → va_E} {A : Nat → Prop} (h : va_D A (tm_w n ad f)) : va_D A (tm_w n ad g) := by
  refine ⟨fun i j p q hi hj he => ?_, fun k q hk => ?_⟩
  · obtain ⟨h1, rfl⟩ := tm_idx hi
    obtain ⟨h2, rfl⟩ := tm_idx hj
    exact h.1 i j _ _ (tm_at h1 rfl) (tm_at h2 rfl) he
  · obtain ⟨h1, rfl⟩ := tm_idx hk
    exact h.2 k (ad k, f k) (tm_at h1 rfl)
theorem tm_Dne {n : Nat} {ad : Nat → Nat} {f : Nat → va_E} {A : Nat → Prop} (h : va_D A (tm_w n ad f)) {i j : Nat} (hi : i < n) (hj : j < n) (hij : ad i = ad j) : i = j := h.1 i j _ _ (tm_at hi rfl) (tm_at hj rfl) hij
def tr_ad (ad : Nat → Nat) : Nat → Nat := fun j => ad (j + 36)
def tl_ce (ad : Nat → Nat) (cc cr : Nat → ClassId) (cd : ClassId) (u v : tm_S) (o : Int64 × UInt64) (i : Nat) : va_E :=
  if i < 36 then tc_ce ad cc u i else if i < 55 then tr_ce (tr_ad ad) cr v (i - 36) else if i = 55 then .inl (cc 0, 1, .inr (.inl (fun _ => o.1))) else .inl (cd, 1, .inr (.inr (.inr (.inl (fun _ => o.2)))))
abbrev tl_w (ad : Nat → Nat) (cc cr : Nat → ClassId) (cd : ClassId) (u v : tm_S) (o : Int64 × UInt64) : va_W := tm_w 57 ad (tl_ce ad cc cr cd u v o)
def tl_ty (cc cr : Nat → ClassId) (cd : ClassId) : List (ClassId × FieldType) := [(cc 0, .long), (cc 1, .array .long), (cc 2, .object "TrustModule$Key"), (cc 3, .object "TrustModule$Blob"), (cc 4, .object "TrustModule$Session"), (cc 5, .object "TrustModule$Index"), (cr 0, .long), (cr 1, .int), (cr 2, .boolean), (cd, .double)]
variable {ad : Nat → Nat} {cc cr : Nat → ClassId} {cd : ClassId} {u v u' v' : tm_S} {o o' : Int64 × UInt64} {D : va_G} {cl : List vw_C} {H H1 : Heap} {A : Nat → Prop} {s : State}
theorem tl_Kc (h : va_K D cl (tl_ty cc cr cd) s) : va_K D cl (tc_ty cc) s := va_K.sub h [0, 1, 2, 3, 4, 5] rfl
theorem tl_Kr (h : va_K D cl (tl_ty cc cr cd) s) : va_K D cl (tr_ty cr) s := va_K.sub h [6, 7, 8] rfl
theorem tl_c {i : Nat} (h : i < 36) : tl_ce ad cc cr cd u v o i = tc_ce ad cc u i := if_pos h
theorem tl_r {i : Nat} (h : i < 19) : tl_ce ad cc cr cd u v o (i + 36) = tr_ce (tr_ad ad) cr v i := by
  unfold tl_ce
  rw [if_neg (by omega), if_pos (by omega), Nat.add_sub_cancel]
theorem tl_5 : tl_ce ad cc cr cd u v o 55 = .inl (cc 0, 1, .inr (.inl (fun _ => o.1))) := rfl
theorem tl_6 : tl_ce ad cc cr cd u v o 56 = .inl (cd, 1, .inr (.inr (.inr (.inl (fun _ => o.2))))) := rfl
theorem tl_Pc (h : va_P D cl (tl_w ad cc cr cd u v o) H) : va_P D cl (tc_w ad cc u) H := by
  intro k q hk
  obtain ⟨h1, rfl⟩ := tm_idx hk
  have := h k _ (tm_at (by omega) rfl)
  rw [tl_c h1] at this
  exact this
theorem tl_Pr (h : va_P D cl (tl_w ad cc cr cd u v o) H) : va_P D cl (tr_w (tr_ad ad) cr v) H := by
  intro k q hk
  obtain ⟨h1, rfl⟩ := tm_idx hk
  have := h (k + 36) _ (tm_at (by omega) rfl)
  rw [tl_r h1] at this
  exact this
theorem tl_join (hc : va_P D cl (tc_w ad cc u) H) (hr : va_P D cl (tr_w (tr_ad ad) cr v) H) (h5 : va_at D cl (ad 55, .inl (cc 0, 1, .inr (.inl (fun _ => o.1)))) H) (h6 : va_at D cl (ad 56, .inl (cd, 1, .inr (.inr (.inr (.inl (fun _ => o.2)))))) H) : va_P D cl (tl_w ad cc cr cd u v o) H := by
  intro k q hk
  obtain ⟨h1, rfl⟩ := tm_idx hk
  by_cases ha : k < 36
  · rw [tl_c ha]
    exact hc k _ (tm_at ha rfl)
  · by_cases hb : k < 55
    · obtain ⟨i, rfl⟩ : ∃ i, k = i + 36 := ⟨k - 36, by omega⟩
      rw [tl_r (by omega)]
      exact hr i _ (tm_at (by omega) rfl)
    · by_cases hd : k = 55
      · subst hd; exact h5
      · have : k = 56 := by omega
        subst this; exact h6
theorem tl_o5 (h : va_P D cl (tl_w ad cc cr cd u v o) H) : va_at D cl (ad 55, .inl (cc 0, 1, .inr (.inl (fun _ => o.1)))) H := h 55 _ (tm_at (by omega) rfl)
theorem tl_o6 (h : va_P D cl (tl_w ad cc cr cd u v o) H) : va_at D cl (ad 56, .inl (cd, 1, .inr (.inr (.inr (.inl (fun _ => o.2)))))) H := h 56 _ (tm_at (by omega) rfl)
/-- the addresses from lo to hi, and what is new -/
def tl_A (ad : Nat → Nat) (lo hi h : Nat) : Nat → Prop := fun q => (∃ k, lo ≤ k ∧ k < hi ∧ q = ad k) ∨ h ≤ q
theorem tl_Asub {lo hi : Nat} (hh : hi ≤ 57) (hD : va_D A (tl_w ad cc cr cd u v o)) (hA : ∀ q : Nat, H.size ≤ q → A q) : ∀ q, tl_A ad lo hi H.size q → A q := by
  intro q hq
  rcases hq with ⟨k, h1, h2, rfl⟩ | h
  · exact hD.2 k _ (tm_at (by omega) rfl)
  · exact hA q h
theorem tl_Aout {lo hi k : Nat} (hD : va_D A (tl_w ad cc cr cd u v o)) (hP : va_P D cl (tl_w ad cc cr cd u v o) H) (hh : hi ≤ 57) (hk : k < 57) (ho : k < lo ∨ hi ≤ k) : ¬ tl_A ad lo hi H.size (ad k) := by
  intro hq
  have hlt : ad k < H.size := (hP k _ (tm_at hk rfl)).lt
  rcases hq with ⟨i, h1, h2, he⟩ | h
  · have := tm_Dne hD hk (by omega) he
    omega
  · omega
theorem tl_back_c (hD : va_D A (tl_w ad cc cr cd u v o)) (hP : va_P D cl (tl_w ad cc cr cd u v o) H) (h1 : va_P D cl (tc_w ad cc u') H1) (hq : ∀ q : Nat, q < H.size → ¬ tl_A ad 0 36 H.size q → H1[q]? = H[q]?) : va_P D cl (tl_w ad cc cr cd u' v o) H1 := by
  have hk : ∀ k, 36 ≤ k → k < 57 → H1[ad k]? = H[ad k]? := fun k ha hb => hq _ (hP k _ (tm_at hb rfl)).lt (tl_Aout hD hP (by omega) hb (Or.inr ha))
  refine tl_join h1 ((tl_Pr hP).kept (fun k q hk9 => ?_)) ((tl_o5 hP).kept (hk 55 (by omega) (by omega))) ((tl_o6 hP).kept (hk 56 (by omega) (by omega)))
  obtain ⟨h3, rfl⟩ := tm_idx hk9
  exact hk (k + 36) (by omega) (by omega)
theorem tl_back_r (hD : va_D A (tl_w ad cc cr cd u v o)) (hP : va_P D cl (tl_w ad cc cr cd u v o) H) (h1 : va_P D cl (tr_w (tr_ad ad) cr v') H1) (hq : ∀ q : Nat, q < H.size → ¬ tl_A ad 36 55 H.size q → H1[q]? = H[q]?) : va_P D cl (tl_w ad cc cr cd u v' o) H1 := by
  have hk : ∀ k, (k < 36 ∨ 55 ≤ k) → k < 57 → H1[ad k]? = H[ad k]? := fun k ha hb => hq _ (hP k _ (tm_at hb rfl)).lt (tl_Aout hD hP (by omega) hb ha)
  refine tl_join ((tl_Pc hP).kept (fun k q hk9 => ?_)) h1 ((tl_o5 hP).kept (hk 55 (by omega) (by omega))) ((tl_o6 hP).kept (hk 56 (by omega) (by omega)))
  obtain ⟨h3, rfl⟩ := tm_idx hk9
  exact hk k (Or.inl h3) (by omega)
theorem tl_Dc (hD : va_D A (tl_w ad cc cr cd u v o)) : va_D (tl_A ad 0 36 H.size) (tc_w ad cc u) := by
  refine ⟨fun i j p q hi hj he => ?_, fun k q hk => ?_⟩
  · obtain ⟨h1, rfl⟩ := tm_idx hi
    obtain ⟨h2, rfl⟩ := tm_idx hj
    exact tm_Dne hD (by omega) (by omega) he
  · obtain ⟨h1, rfl⟩ := tm_idx hk
    exact Or.inl ⟨k, by omega, h1, rfl⟩
theorem tl_Dr (hD : va_D A (tl_w ad cc cr cd u v o)) : va_D (tl_A ad 36 55 H.size) (tr_w (tr_ad ad) cr v) := by
  refine ⟨fun i j p q hi hj he => ?_, fun k q hk => ?_⟩
  · obtain ⟨h1, rfl⟩ := tm_idx hi
    obtain ⟨h2, rfl⟩ := tm_idx hj
    have := tm_Dne hD (show i + 36 < 57 by omega) (show j + 36 < 57 by omega) he
    omega
  · obtain ⟨h1, rfl⟩ := tm_idx hk
    exact Or.inl ⟨k + 36, by omega, by omega, rfl⟩
end LWA
section LWB
variable {p : Program} {l : Launch} {e : Env} {R : Room} {s : State} {m : MethodId} {args : Array Value} {below : List Frame} {meth : Method} {c : Code} {H : Heap} {locs : List Loc} {cells slots : Nat} {Q : State → Prop}
variable {cb : ByteArray} {pc : Nat} {ls : Array Slot} {rest st0 st1 : List Value} {dC : Nat → ClassId} {dI : Nat → Nat → Nat} {gs : Nat → Nat} {A : Nat → Prop} {ad : Nat → Nat} {cc cr : Nat → ClassId} {cd : ClassId} {u v u' v' : tm_S} {o o' : Int64 × UInt64} {rv : Option Value}
variable {y : MethodName} {bytes : ByteArray} {maxL nL n index : Nat} {ret : Option FieldType} {wy : List Cond} {ry : Room} {Ts : List Cond} {own E : String} {As : List Value}
theorem tl_prec (hK : va_K (dC, dI) vwCl (tl_ty cc cr cd) s) (hP : va_P (dC, dI) vwCl (tl_w ad cc cr cd u v o) H) (hD : va_D A (tl_w ad cc cr cd u v o)) (hA : ∀ q : Nat, s.heap.size ≤ q → A q) (hG : tm_G gs A s) (hS : va_S A s.heap H locs) :
    ∀ U : State, U.heap = H → s.WarmedH U.vm → va_Pc As (kq_P (dC, dI) vwCl (tc_ty cc) (tm_G gs) (tl_A ad 0 36 H.size) (tc_w ad cc u)) As.toArray U := by
  intro U hU hW
  refine ⟨rfl, by rw [hU]; exact tl_Pc hP, va_K.moved hW.alike (tl_Kc hK), tl_Dc hD, fun q hq => Or.inr (by rw [hU] at hq; exact hq), ?_⟩
  have h1 : tm_G gs A U := tm_Gok A s U hW (fun q q1 q2 => by rw [hU]; exact hS.2.1 q q1 q2) hG
  exact tm_Gnarrow (tl_Asub (by omega) hD (fun q hq => hA q (Nat.le_trans hS.1 hq))) h1
theorem tl_prer (hK : va_K (dC, dI) vwCl (tl_ty cc cr cd) s) (hP : va_P (dC, dI) vwCl (tl_w ad cc cr cd u v o) H) (hD : va_D A (tl_w ad cc cr cd u v o)) :
    ∀ U : State, U.heap = H → s.WarmedH U.vm → va_Pc As (kq_P (dC, dI) vwCl (tr_ty cr) (fun _ _ => True) (tl_A ad 36 55 H.size) (tr_w (tr_ad ad) cr v)) As.toArray U := by
  intro U hU hW
  exact ⟨rfl, by rw [hU]; exact tl_Pr hP, va_K.moved hW.alike (tl_Kr hK), tl_Dr hD, fun q hq => Or.inr (by rw [hU] at hq; exact hq), trivial⟩
/-- a call of the class -/
theorem kl_cV (S : CallFix p m c cb nL s args Ts own) (hM : kc_M l dC dI gs ad cc y wy ry (.ref (ad 0) :: As) u u' rv) (cw : CallW R s args own RX4 index y bytes maxL ret wy ry 0 0 n)
    (hK : va_K (dC, dI) vwCl (tl_ty cc cr cd) s) (hP : va_P (dC, dI) vwCl (tl_w ad cc cr cd u v o) H) (hD : va_D A (tl_w ad cc cr cd u v o)) (hA : ∀ q : Nat, s.heap.size ≤ q → A q) (hG : tm_G gs A s) (hS : va_S A s.heap H locs)
    (hn : As.length = n) (hsize : ls.size = nL) (hst : st0 = As.reverse ++ .ref (ad 0) :: rest) (h1 : rv.toList ++ rest = st1) (hW : (rest.map fun v => v.category).sum ≤ 8) (hdg : decode cb pc = .ok (.invokevirtual index, 3)) (hf : cells ≤ R.cells ∧ slots ≤ R.slots)
    (kk : ∀ (H1 : Heap) (locs1 : List Loc), va_P (dC, dI) vwCl (tl_w ad cc cr cd u' v o) H1 → va_D A (tl_w ad cc cr cd u' v o) → va_S A s.heap H1 locs1 → W p l e R s m args below meth c H1 locs1 cells slots Q (F0 m (pc + 3) ls st1)) : W p l e R s m args below meth c H locs cells slots Q (F0 m pc ls st0) := by
  intro T hT X
  obtain ⟨v9, st₀, t, T', L, h0, X', hL, e1, e2, ⟨hv, hP9, hD9, hF⟩, st⟩ := va_runV S (hM (tl_A ad 0 36 H.size)) cw ⟨kq_blind tm_Gok, va_recv (tl_Kc hK) (tl_Pc hP) (ci := 4) (q0 := 0) rfl (tm_at (i := 0) (by omega) rfl), tl_prec hK hP hD hA hG hS⟩ rfl hn hsize hst (lv_room hW) hdg hf T hT X
  cases hv
  have hsub := tl_Asub (lo := 0) (hi := 36) (by omega) hD (fun q hq => hA q (Nat.le_trans hS.1 hq))
  obtain ⟨k1, k2, k3⟩ := vx_keep h0 e1 hS (fun q _ h => hsub q h) hsub hL hF
  subst h1
  obtain ⟨t2, a1, b1⟩ := kk T'.heap (locs ++ L) (tl_back_c hD hP (by rw [e1]; exact hP9) (fun q q1 q2 => by rw [e1, ← h0]; exact hF.2 q (by rw [h0]; exact q1) q2)) (tm_Dany hD) k3 T' rfl X'
  exact ⟨t2, st t2 a1, b1⟩
/-- a call of the reference -/
theorem kl_rV (S : CallFix p m c cb nL s args Ts own) (hM : kr_M l dC dI (tr_ad ad) cr y wy ry (.ref (ad 36) :: As) v v' rv) (cw : CallW R s args own RX5 index y bytes maxL ret wy ry 0 0 n)
    (hK : va_K (dC, dI) vwCl (tl_ty cc cr cd) s) (hP : va_P (dC, dI) vwCl (tl_w ad cc cr cd u v o) H) (hD : va_D A (tl_w ad cc cr cd u v o)) (hA : ∀ q : Nat, s.heap.size ≤ q → A q) (hS : va_S A s.heap H locs)
    (hn : As.length = n) (hsize : ls.size = nL) (hst : st0 = As.reverse ++ .ref (ad 36) :: rest) (h1 : rv.toList ++ rest = st1) (hW : (rest.map fun v => v.category).sum ≤ 8) (hdg : decode cb pc = .ok (.invokevirtual index, 3)) (hf : cells ≤ R.cells ∧ slots ≤ R.slots)
    (kk : ∀ (H1 : Heap) (locs1 : List Loc), va_P (dC, dI) vwCl (tl_w ad cc cr cd u v' o) H1 → va_D A (tl_w ad cc cr cd u v' o) → va_S A s.heap H1 locs1 → W p l e R s m args below meth c H1 locs1 cells slots Q (F0 m (pc + 3) ls st1)) : W p l e R s m args below meth c H locs cells slots Q (F0 m pc ls st0) := by
  intro T hT X
  obtain ⟨v9, st₀, t, T', L, h0, X', hL, e1, e2, ⟨hv, hP9, hD9, hF⟩, st⟩ := va_runV S (hM (tl_A ad 36 55 H.size)) cw ⟨kq_blind kq_okT, va_recv (tl_Kr hK) (tl_Pr hP) (ci := 5) (q0 := 0) rfl (tm_at (i := 0) (by omega) rfl), tl_prer hK hP hD⟩ rfl hn hsize hst (lv_room hW) hdg hf T hT X
  cases hv
  have hsub := tl_Asub (lo := 36) (hi := 55) (by omega) hD (fun q hq => hA q (Nat.le_trans hS.1 hq))
  obtain ⟨k1, k2, k3⟩ := vx_keep h0 e1 hS (fun q _ h => hsub q h) hsub hL hF
  subst h1
  obtain ⟨t2, a1, b1⟩ := kk T'.heap (locs ++ L) (tl_back_r hD hP (by rw [e1]; exact hP9) (fun q q1 q2 => by rw [e1, ← h0]; exact hF.2 q (by rw [h0]; exact q1) q2)) (tm_Dany hD) k3 T' rfl X'
  exact ⟨t2, st t2 a1, b1⟩
/-- a call of the class that throws, caught here -/
theorem kl_xV (S : CallFix p m c cb nL s args Ts own) (hM : kc_T l dC dI gs ad cc y wy ry (.ref (ad 0) :: As) u u' E) (cw : CallW R s args own RX4 index y bytes maxL ret wy ry 1 6 n)
    (hK : va_K (dC, dI) vwCl (tl_ty cc cr cd) s) (hP : va_P (dC, dI) vwCl (tl_w ad cc cr cd u v o) H) (hD : va_D A (tl_w ad cc cr cd u v o)) (hA : ∀ q : Nat, s.heap.size ≤ q → A q) (hG : tm_G gs A s) (hS : va_S A s.heap H locs)
    (hn : As.length = n) (hsize : ls.size = nL) (hst : st0 = As.reverse ++ .ref (ad 0) :: rest) (hW : (rest.map fun v => v.category).sum ≤ 8) (hdg : decode cb pc = .ok (.invokevirtual index, 3)) (hf : cells + 1 ≤ R.cells ∧ slots + 6 ≤ R.slots)
    (pre : List ExceptionTableEntry) (x : ExceptionTableEntry) (suf : List ExceptionTableEntry) (hsplit : c.exceptionTable.toList = pre ++ x :: suf)
    (hpass : ∀ z ∈ pre, covers z pc = false ∨ (z.catchType ≠ 0 ∧ ∃ nm : String, (Cond.classLink own z.catchType nm).before args s = true ∧ va_Nc E nm s)) (hcov : covers x pc = true) (h0c : x.catchType ≠ 0)
    (hlink : (Cond.classLink own x.catchType E).before args s = true) (hcast : (Cond.castable E E).before args s = true)
    (kk : ∀ (q : Nat) (H1 : Heap) (locs1 : List Loc), va_P (dC, dI) vwCl (tl_w ad cc cr cd u' v o) H1 → va_D A (tl_w ad cc cr cd u' v o) → va_S A s.heap H1 locs1 → W p l e R s m args below meth c H1 locs1 (cells + 1) (slots + 6) Q (F0 m x.handlerPc ls [.ref q])) : W p l e R s m args below meth c H locs cells slots Q (F0 m pc ls st0) := by
  intro T hT X
  have hown : s.vm.findClass own = some m.cls := by obtain ⟨-, -, -, ho, -⟩ := S; exact ho
  rcases vx_runV S (hM (tl_A ad 0 36 H.size)) cw ⟨kq_blind tm_Gok, va_recv (tl_Kc hK) (tl_Pc hP) (ci := 4) (q0 := 0) rfl (tm_at (i := 0) (by omega) rfl), tl_prec hK hP hD hA hG hS⟩ rfl hn hsize hst (lv_room hW) hdg hf T hT X with ⟨v9, st₀, t, T', L, h0, X', hL, e1, e2, hF, st⟩ | ⟨q, st₀, t, T', L, E', ce, h0, X', hL, e1, e2, ⟨rfl, hP9, hD9, hF⟩, hce, hcv, hcl, st⟩
  · exact hF.elim
  · have hsub := tl_Asub (lo := 0) (hi := 36) (by omega) hD (fun q hq => hA q (Nat.le_trans hS.1 hq))
    obtain ⟨k1, k2, k3⟩ := vx_keep h0 e1 hS (fun q _ h => hsub q h) hsub hL hF
    have ho : vx_W p l e R s m args below meth c T'.heap (locs ++ L) (cells + 1) (slots + 6) Q (F0 m pc ls rest) q :=
      vx_catch (E := E') (ce := ce) hown pre x suf hsplit hpass hcov h0c hlink hcast (by rw [e1]; exact hce) hcv hcl
        (kk q T'.heap (locs ++ L) (tl_back_c hD hP (by rw [e1]; exact hP9) (fun q q1 q2 => by rw [e1, ← h0]; exact hF.2 q (by rw [h0]; exact q1) q2)) (tm_Dany hD) k3)
    obtain ⟨t2, a1, b1⟩ := ho T' rfl X'
    exact ⟨t2, st.trans a1, b1⟩
end LWB
section LWC
/-- a method of the law over its world: an int comes back; at most one object is made -/
def kl_M (l : Launch) (dC : Nat → ClassId) (dI : Nat → Nat → Nat) (gs ad : Nat → Nat) (cc cr : Nat → ClassId) (cd : ClassId) (y : MethodName) (ws : List Cond) (rm : Room) (As : List Value) (u v : tm_S) (o : Int64 × UInt64) (u' v' : tm_S) (o' : Int64 × UInt64) (k : Int32) : Prop :=
  ∀ A : Nat → Prop, Met l y ws rm (va_Pc As (kq_P (dC, dI) vwCl (tl_ty cc cr cd) (tm_G gs) A (tl_w ad cc cr cd u v o))) (fun _ => kq_Q (dC, dI) vwCl A (tl_w ad cc cr cd u' v' o') (some (.int k))) 1 6 A
variable {l : Launch} {dC : Nat → ClassId} {dI : Nat → Nat → Nat} {gs ad : Nat → Nat} {cc cr : Nat → ClassId} {cd : ClassId} {y : MethodName} {ws : List Cond} {rm : Room} {As : List Value} {u v : tm_S} {o : Int64 × UInt64} {u' v' : tm_S} {o' : Int64 × UInt64} {k : Int32}
theorem kl_ofW {cb : ByteArray} {maxL : Nat} {hh : List (Nat × Nat × Nat × Nat)} (hy : plainName y.cls = true) (hw : ws = Cond.codeWith y cb maxL (some .int) hh :: tm_B) (hR : y.cls = RL) (hn : (lg_sl As).length ≤ maxL)
    (body : ∀ (p : Program) (e : Env) (s : State) (m : MethodId) (below : List Frame) (meth : Method) (c : Code) (A : Nat → Prop) (ls : Array Slot), p.tables.exec = Jvm.exec → c.code = cb → meth.sig.returnType = some .int → meth.locks = false → c.maxLocals = maxL → s.vm.findClass RL = some m.cls → (∀ w ∈ tm_B, w.before As.toArray s = true) →
      va_P (dC, dI) vwCl (tl_w ad cc cr cd u v o) s.heap → va_K (dC, dI) vwCl (tl_ty cc cr cd) s → va_D A (tl_w ad cc cr cd u v o) → (∀ q : Nat, s.heap.size ≤ q → A q) → tm_G gs A s → va_S A s.heap s.heap [] → lv_has ls maxL (lv_args 0 As) → c.exceptionTable.toList = tableOf hh →
      W p l e rm s m As.toArray below meth c s.heap [] 0 0 (MQ below (fun _ => kq_Q (dC, dI) vwCl A (tl_w ad cc cr cd u' v' o') (some (.int k))) As.toArray s 1 6 A) (F0 m 0 ls [])) : kl_M l dC dI gs ad cc cr cd y ws rm As u v o u' v' o' k := by
  intro A
  refine va_MetW (cc := cb) (maxL := maxL) (ret := some .int) (hh := hh) hy hw ?_
  intro p e s m args below meth c s₁ B hml hv
  obtain ⟨rfl, hP, hK, hD, hA, hG⟩ := hv
  have hl := lv_entry As (n := maxL) hn
  rw [lg_entry_eq]
  exact body p e s m below meth c A _ B.exec B.bytes B.returns B.notSynchronized hml (by rw [← hR]; exact findClass_of_methodNamed B.named) (fun w9 h9 => atoms_spec (ws := ws) B.pre w9 (by rw [hw]; exact List.mem_cons_of_mem _ h9)) hP hK hD hA hG va_S.rf hl (vx_table (x := y) B (atoms_spec (ws := ws) B.pre _ (by rw [hw]; exact List.mem_cons_self)))
end LWC
section LWD
variable {p : Program} {l : Launch} {e : Env} {R : Room} {s : State} {m : MethodId} {args : Array Value} {below : List Frame} {meth : Method} {c : Code} {H : Heap} {locs : List Loc} {cells slots : Nat} {Q : State → Prop}
variable {cb : ByteArray} {pc : Nat} {ls : Array Slot} {rest : List Value} {dC : Nat → ClassId} {dI : Nat → Nat → Nat} {A : Nat → Prop} {ad : Nat → Nat} {cc cr : Nat → ClassId} {cd : ClassId} {u v : tm_S} {o : Int64 × UInt64}
theorem tl_t5 {x : Int64} (hx : p.tables.exec = Jvm.exec) (hb : c.code = cb) (hK : va_K (dC, dI) vwCl (tl_ty cc cr cd) s) (hP : va_P (dC, dI) vwCl (tl_w ad cc cr cd u v o) H) (hD : va_D A (tl_w ad cc cr cd u v o)) (hS : va_S A s.heap H locs) (hdg : decode cb pc = .ok (.lastore, 1))
    (kk : ∀ (H1 : Heap) (locs1 : List Loc), va_P (dC, dI) vwCl (tl_w ad cc cr cd u v (x, o.2)) H1 → va_D A (tl_w ad cc cr cd u v (x, o.2)) → va_S A s.heap H1 locs1 → W p l e R s m args below meth c H1 locs1 cells slots Q (F0 m (pc + 1) ls rest)) : W p l e R s m args below meth c H locs cells slots Q (F0 m pc ls (.long x :: .int (nI 0) :: .ref (ad 55) :: rest)) := by
  refine kq_last hx hb hK hP hD hS 55 0 (tm_at (i := 55) (by omega) rfl) rfl (j := 0) (by omega) (by omega) hdg (w' := (tl_w ad cc cr cd u v o).set 55 (ad 55, .inl (cc 0, 1, .inr (.inl (vp_updL (fun _ => o.1) 0 x))))) rfl (fun H1 locs1 h1 h2 h3 => ?_)
  refine kk H1 locs1 ?_ (tm_Dany hD) h3
  have hz : ∀ k, k < 57 → k ≠ 55 → ((tl_w ad cc cr cd u v o).set 55 (ad 55, .inl (cc 0, 1, .inr (.inl (vp_updL (fun _ => o.1) 0 x)))))[k]? = some (ad k, tl_ce ad cc cr cd u v o k) := fun k hk hne => by rw [List.getElem?_set_ne (fun q => hne q.symm)]; exact tm_at hk rfl
  refine tl_join (fun k q hk => ?_) (fun k q hk => ?_) ?_ ?_
  · obtain ⟨h4, rfl⟩ := tm_idx hk
    have := h1 k _ (hz k (by omega) (by omega))
    rw [tl_c h4] at this
    exact this
  · obtain ⟨h4, rfl⟩ := tm_idx hk
    have := h1 (k + 36) _ (hz (k + 36) (by omega) (by omega))
    rw [tl_r h4] at this
    exact this
  · have h5 := h1 55 (ad 55, .inl (cc 0, 1, .inr (.inl (vp_updL (fun _ => o.1) 0 x)))) (List.getElem?_set_self (by simp [tm_w]))
    show H1[ad 55]? = some (arrV (cc 0) 1 (fun _ => .long x))
    rw [arrV_ext (g := fun j => .long (vp_updL (fun _ => o.1) 0 x j)) (fun j hj => by have : j = 0 := by omega
                                                                                      subst this; rfl)]
    exact h5
  · exact h1 56 _ (hz 56 (by omega) (by omega))
theorem tl_t6 {x : UInt64} (hx : p.tables.exec = Jvm.exec) (hb : c.code = cb) (hK : va_K (dC, dI) vwCl (tl_ty cc cr cd) s) (hP : va_P (dC, dI) vwCl (tl_w ad cc cr cd u v o) H) (hD : va_D A (tl_w ad cc cr cd u v o)) (hS : va_S A s.heap H locs) (hdg : decode cb pc = .ok (.dastore, 1))
    (kk : ∀ (H1 : Heap) (locs1 : List Loc), va_P (dC, dI) vwCl (tl_w ad cc cr cd u v (o.1, x)) H1 → va_D A (tl_w ad cc cr cd u v (o.1, x)) → va_S A s.heap H1 locs1 → W p l e R s m args below meth c H1 locs1 cells slots Q (F0 m (pc + 1) ls rest)) : W p l e R s m args below meth c H locs cells slots Q (F0 m pc ls (.double x :: .int (nI 0) :: .ref (ad 56) :: rest)) := by
  refine va_dast hx hb hK hP hD hS 56 9 (tm_at (i := 56) (by omega) rfl) rfl (vp_in_nI (n := 0) (by omega) (by omega)) hdg (fun H1 locs1 h1 h2 h3 => ?_)
  refine kk H1 locs1 ?_ (tm_Dany hD) h3
  rw [nI_clamp (n := 0) (by omega)] at h1
  have hz : ∀ k, k < 56 → ∀ y : va_E, ((tl_w ad cc cr cd u v o).set 56 (ad 56, y))[k]? = some (ad k, tl_ce ad cc cr cd u v o k) := fun k hk y => by rw [List.getElem?_set_ne (by omega)]; exact tm_at (by omega) rfl
  refine tl_join (fun k q hk => ?_) (fun k q hk => ?_) ?_ ?_
  · obtain ⟨h4, rfl⟩ := tm_idx hk
    have := h1 k _ (hz k (by omega) _)
    rw [tl_c h4] at this
    exact this
  · obtain ⟨h4, rfl⟩ := tm_idx hk
    have := h1 (k + 36) _ (hz (k + 36) (by omega) _)
    rw [tl_r h4] at this
    exact this
  · exact h1 55 _ (hz 55 (by omega) _)
  · have h5 := h1 56 _ (List.getElem?_set_self (by simp [tm_w]))
    show H1[ad 56]? = some (arrV cd 1 (fun _ => .double x))
    refine Eq.trans h5 (congrArg some ?_)
    show arrV cd 1 (fun j => .double (vf_upd (fun _ => o.2) 0 x j)) = _
    refine arrV_ext (fun j hj => ?_)
    have : j = 0 := by omega
    subst this; first | rfl | simp [vf_upd]
theorem tl_l5 (hx : p.tables.exec = Jvm.exec) (hb : c.code = cb) (hK : va_K (dC, dI) vwCl (tl_ty cc cr cd) s) (hP : va_P (dC, dI) vwCl (tl_w ad cc cr cd u v o) H) (hdg : decode cb pc = .ok (.laload, 1))
    (kk : W p l e R s m args below meth c H locs cells slots Q (F0 m (pc + 1) ls (.long o.1 :: rest))) : W p l e R s m args below meth c H locs cells slots Q (F0 m pc ls (.int (nI 0) :: .ref (ad 55) :: rest)) :=
  kq_lald hx hb hK hP 55 0 (tm_at (i := 55) (by omega) rfl) rfl (j := 0) (by omega) (by omega) hdg kk
theorem tl_l6 (hx : p.tables.exec = Jvm.exec) (hb : c.code = cb) (hK : va_K (dC, dI) vwCl (tl_ty cc cr cd) s) (hP : va_P (dC, dI) vwCl (tl_w ad cc cr cd u v o) H) (hdg : decode cb pc = .ok (.daload, 1))
    (kk : W p l e R s m args below meth c H locs cells slots Q (F0 m (pc + 1) ls (.double o.2 :: rest))) : W p l e R s m args below meth c H locs cells slots Q (F0 m pc ls (.int (nI 0) :: .ref (ad 56) :: rest)) :=
  va_dald hx hb hK hP 56 9 (tm_at (i := 56) (by omega) rfl) rfl (vp_in_nI (n := 0) (by omega) (by omega)) hdg kk
end LWD
