/-! Contracts over a world that is a list of cells: what a method answers and what the list is behind it; or which exception it throws. -/
section KQ
def kq_ok (G : (Nat → Prop) → State → Prop) : Prop := ∀ (A : Nat → Prop) (s U : State), s.WarmedH U.vm → (∀ q : Nat, q < s.heap.size → ¬ A q → U.heap[q]? = s.heap[q]?) → G A s → G A U
def kq_P (D : va_G) (cl : List vw_C) (tys : List (ClassId × FieldType)) (G : (Nat → Prop) → State → Prop) (A : Nat → Prop) (w : va_W) (U : State) : Prop :=
  va_P D cl w U.heap ∧ va_K D cl tys U ∧ va_D A w ∧ (∀ q : Nat, U.heap.size ≤ q → A q) ∧ G A U
def kq_Q (D : va_G) (cl : List vw_C) (A : Nat → Prop) (w' : va_W) (rv : Option Value) (st : State) (o : Outcome) (t : State) : Prop :=
  o = .returned rv ∧ va_P D cl w' t.heap ∧ va_D A w' ∧ va_F A st t
def kq_X (D : va_G) (cl : List vw_C) (A : Nat → Prop) (w' : va_W) (E : String) : String → State → State → Prop := fun E' st t =>
  E' = E ∧ va_P D cl w' t.heap ∧ va_D A w' ∧ va_F A st t
/-- it returns rv, and the list is w' then -/
def kq_M (l : Launch) (y : MethodName) (ws : List Cond) (rm : Room) (As : List Value) (D : va_G) (cl : List vw_C) (tys : List (ClassId × FieldType)) (G : (Nat → Prop) → State → Prop) (w w' : va_W) (rv : Option Value) : Prop :=
  ∀ A : Nat → Prop, Met l y ws rm (va_Pc As (kq_P D cl tys G A w)) (fun _ => kq_Q D cl A w' rv) 0 0 A
/-- it throws an E, and the list is w' then -/
def kq_T (l : Launch) (y : MethodName) (ws : List Cond) (rm : Room) (As : List Value) (D : va_G) (cl : List vw_C) (tys : List (ClassId × FieldType)) (G : (Nat → Prop) → State → Prop) (w w' : va_W) (E : String) : Prop :=
  ∀ A : Nat → Prop, vx_Met l y ws rm (va_Pc As (kq_P D cl tys G A w)) (fun _ _ _ _ => False) (kq_X D cl A w' E) 1 6 A
theorem kq_blind {As : List Value} {D : va_G} {cl : List vw_C} {tys : List (ClassId × FieldType)} {G : (Nat → Prop) → State → Prop} {A : Nat → Prop} {w : va_W} (hok : kq_ok G) : FrameBlind (va_Pc As (kq_P D cl tys G A w)) := by
  intro a U g mk ⟨h0, hP, hK, hD, hA, hG⟩
  exact ⟨h0, hP, va_K.moved (u := U) (U := U.calling g mk a) (Vm.Alike.refl U.vm) hK, hD, hA, hok A U (U.calling g mk a) (State.WarmedH.refl U) (fun _ _ _ => rfl) hG⟩
variable {l : Launch} {y : MethodName} {ws : List Cond} {rm : Room} {As : List Value} {D : va_G} {cl : List vw_C} {tys : List (ClassId × FieldType)} {G : (Nat → Prop) → State → Prop} {w w' : va_W} {rv : Option Value} {E : String}
theorem kq_ofW {cc : ByteArray} {maxL : Nat} {ret : Option FieldType} {R0 : String} (hy : plainName y.cls = true) (hw : ws = Cond.code y cc maxL ret :: tm_B) (hR : y.cls = R0) (hn : (lg_sl As).length ≤ maxL)
    (body : ∀ (p : Program) (e : Env) (s : State) (m : MethodId) (below : List Frame) (meth : Method) (c : Code) (A : Nat → Prop) (ls : Array Slot), p.tables.exec = Jvm.exec → c.code = cc → meth.sig.returnType = ret → meth.locks = false → c.maxLocals = maxL → s.vm.findClass R0 = some m.cls → (∀ w ∈ tm_B, w.before As.toArray s = true) →
      va_P D cl w s.heap → va_K D cl tys s → va_D A w → (∀ q : Nat, s.heap.size ≤ q → A q) → G A s → va_S A s.heap s.heap [] → lv_has ls maxL (lv_args 0 As) →
      W p l e rm s m As.toArray below meth c s.heap [] 0 0 (MQ below (fun _ => kq_Q D cl A w' rv) As.toArray s 0 0 A) (F0 m 0 ls [])) : kq_M l y ws rm As D cl tys G w w' rv := by
  intro A
  refine Met.ofW (cc := cc) (maxL := maxL) (ret := ret) hy hw ?_
  intro p e s m args below meth c s₁ B hml hv
  obtain ⟨rfl, hP, hK, hD, hA, hG⟩ := hv
  have hl := lv_entry As (n := maxL) hn
  rw [lg_entry_eq]
  exact body p e s m below meth c A _ B.exec B.bytes B.returns B.notSynchronized hml (by rw [← hR]; exact findClass_of_methodNamed B.named) (fun w9 h9 => atoms_spec (ws := ws) B.pre w9 (by rw [hw]; exact List.mem_cons_of_mem _ h9)) hP hK hD hA hG va_S.rf hl
theorem kq_ofT {cc : ByteArray} {maxL : Nat} {ret : Option FieldType} {R0 : String} (hy : plainName y.cls = true) (hw : ws = Cond.code y cc maxL ret :: tm_B) (hR : y.cls = R0) (hn : (lg_sl As).length ≤ maxL)
    (body : ∀ (p : Program) (e : Env) (s : State) (m : MethodId) (below : List Frame) (meth : Method) (c : Code) (A : Nat → Prop) (ls : Array Slot), p.tables.exec = Jvm.exec → c.code = cc → meth.sig.returnType = ret → meth.locks = false → c.maxLocals = maxL → s.vm.findClass R0 = some m.cls → (∀ w ∈ tm_B, w.before As.toArray s = true) →
      va_P D cl w s.heap → va_K D cl tys s → va_D A w → (∀ q : Nat, s.heap.size ≤ q → A q) → G A s → va_S A s.heap s.heap [] → lv_has ls maxL (lv_args 0 As) → (∀ x ∈ c.exceptionTable.toList, False) →
      W p l e rm s m As.toArray below meth c s.heap [] 0 0 (vx_MQ below (fun _ _ _ _ => False) (kq_X D cl A w' E) As.toArray s 1 6 A) (F0 m 0 ls [])) : kq_T l y ws rm As D cl tys G w w' E := by
  intro A
  refine vx_ofW (cc := cc) (maxL := maxL) (ret := ret) hy hw ?_
  intro p e s m args below meth c s₁ B hml hEx hv
  obtain ⟨rfl, hP, hK, hD, hA, hG⟩ := hv
  have hl := lv_entry As (n := maxL) hn
  rw [lg_entry_eq]
  exact body p e s m below meth c A _ B.exec B.bytes B.returns B.notSynchronized hml (by rw [← hR]; exact findClass_of_methodNamed B.named) (fun w9 h9 => atoms_spec (ws := ws) B.pre w9 (by rw [hw]; exact List.mem_cons_of_mem _ h9)) hP hK hD hA hG va_S.rf hl hEx
end KQ
section KR
variable {p : Program} {l : Launch} {e : Env} {R : Room} {s : State} {m : MethodId} {args : Array Value} {below : List Frame} {meth : Method} {c : Code} {H : Heap} {locs : List Loc} {cells slots : Nat} {Q : State → Prop}
variable {cc : ByteArray} {pc : Nat} {ls : Array Slot} {rest st0 : List Value} {D : va_G} {cl : List vw_C} {A : Nat → Prop} {a : Nat} {tys : List (ClassId × FieldType)} {w w' : va_W} {G : (Nat → Prop) → State → Prop} {rv : Option Value} {E : String}
-- ends
theorem kq_vret (hx : p.tables.exec = Jvm.exec) (hb : c.code = cc) (hr : meth.sig.returnType = none) (hlk : meth.locks = false) (hP : va_P D cl w' H) (hD : va_D A w') (hS : va_S A s.heap H locs) (hdg : decode cc pc = .ok (.return_, 1)) :
    W p l e R s m args below meth c H locs cells slots (MQ below (fun _ => kq_Q D cl A w' none) args s cells slots A) (F0 m pc ls []) :=
  W.vret hx hb hr (fun t ht hW => ⟨rfl, by rw [ht]; exact hP, hD, hS.F ht⟩) hS.2.2 hdg hlk
theorem kq_iret {v : Int32} (hx : p.tables.exec = Jvm.exec) (hb : c.code = cc) (hr : meth.sig.returnType = some .int) (hlk : meth.locks = false) (hP : va_P D cl w' H) (hD : va_D A w') (hS : va_S A s.heap H locs) (hdg : decode cc pc = .ok (.ireturn, 1)) :
    W p l e R s m args below meth c H locs cells slots (MQ below (fun _ => kq_Q D cl A w' (some (.int v))) args s cells slots A) (F0 m pc ls [.int v]) :=
  W.iret hx hb hr (fun t ht hW => ⟨rfl, by rw [ht]; exact hP, hD, hS.F ht⟩) hS.2.2 hdg hlk
theorem kq_zret {v : Int32} (hx : p.tables.exec = Jvm.exec) (hb : c.code = cc) (hr : meth.sig.returnType = some .boolean) (hv : narrow .boolean (.int v) = .int v) (hlk : meth.locks = false) (hP : va_P D cl w' H) (hD : va_D A w') (hS : va_S A s.heap H locs) (hdg : decode cc pc = .ok (.ireturn, 1)) :
    W p l e R s m args below meth c H locs cells slots (MQ below (fun _ => kq_Q D cl A w' (some (.int v))) args s cells slots A) (F0 m pc ls [.int v]) :=
  W.zret hx hb hr hv (fun t ht hW => ⟨rfl, by rw [ht]; exact hP, hD, hS.F ht⟩) hS.2.2 hdg hlk
theorem kq_lret {v : Int64} (hx : p.tables.exec = Jvm.exec) (hb : c.code = cc) (hr : meth.sig.returnType = some .long) (hlk : meth.locks = false) (hP : va_P D cl w' H) (hD : va_D A w') (hS : va_S A s.heap H locs) (hdg : decode cc pc = .ok (.lreturn, 1)) :
    W p l e R s m args below meth c H locs cells slots (MQ below (fun _ => kq_Q D cl A w' (some (.long v))) args s cells slots A) (F0 m pc ls [.long v]) :=
  W.lret hx hb hr (fun t ht hW => ⟨rfl, by rw [ht]; exact hP, hD, hS.F ht⟩) hS.2.2 hdg hlk
theorem kq_dret {v : UInt64} (hx : p.tables.exec = Jvm.exec) (hb : c.code = cc) (hr : meth.sig.returnType = some .double) (hlk : meth.locks = false) (hP : va_P D cl w' H) (hD : va_D A w') (hS : va_S A s.heap H locs) (hdg : decode cc pc = .ok (.dreturn, 1)) :
    W p l e R s m args below meth c H locs cells slots (MQ below (fun _ => kq_Q D cl A w' (some (.double v))) args s cells slots A) (F0 m pc ls [.double v]) :=
  W.dret hx hb hr (fun t ht hW => ⟨rfl, by rw [ht]; exact hP, hD, hS.F ht⟩) hS.2.2 hdg hlk
theorem kq_aret {v : Nat} {C : String} (hx : p.tables.exec = Jvm.exec) (hb : c.code = cc) (hr : meth.sig.returnType = some (.object C)) (hlk : meth.locks = false) (hP : va_P D cl w' H) (hD : va_D A w') (hS : va_S A s.heap H locs) (hdg : decode cc pc = .ok (.areturn, 1)) :
    W p l e R s m args below meth c H locs cells slots (MQ below (fun _ => kq_Q D cl A w' (some (.ref v))) args s cells slots A) (F0 m pc ls [.ref v]) :=
  W.aret hx hb hr (Or.inl ⟨C, rfl⟩) (Or.inr ⟨v, rfl⟩) (fun t ht hW => ⟨rfl, by rw [ht]; exact hP, hD, hS.F ht⟩) hS.2.2 hdg hlk
-- calls
theorem kq_call {mc ms : Nat} {st1 : List Value} (hr : va_Run p l e R s m args below meth c H locs cells slots mc ms (F0 m pc ls st0) rest (kq_Q D cl A w' rv) A) (hS : va_S A s.heap H locs) (h1 : rv.toList ++ rest = st1)
    (kk : ∀ (H1 : Heap) (locs1 : List Loc), va_P D cl w' H1 → va_D A w' → va_S A s.heap H1 locs1 → W p l e R s m args below meth c H1 locs1 (cells + mc) (slots + ms) Q (F0 m (pc + 3) ls st1)) : W p l e R s m args below meth c H locs cells slots Q (F0 m pc ls st0) := by
  intro T hT X
  obtain ⟨v, st₀, t, T', L, h0, X', hL, e1, e2, ⟨hv, hP, hD, hF⟩, st⟩ := hr T hT X
  cases hv
  obtain ⟨k1, k2, k3⟩ := vx_keep h0 e1 hS (fun _ _ h => h) (fun _ h => h) hL hF
  subst h1
  obtain ⟨t2, a1, b1⟩ := kk T'.heap (locs ++ L) (by rw [e1]; exact hP) hD k3 T' rfl X'
  exact ⟨t2, st t2 a1, b1⟩
/-- the callee throws, and this method has no table -/
theorem kq_gone {mc ms : Nat} (hr : vx_Run p l e R s m args below meth c H locs cells slots mc ms (F0 m pc ls st0) rest (fun _ _ _ => False) (kq_X D cl A w' E) A) (hS : va_S A s.heap H locs) (hlk : meth.locks = false) (hEx : ∀ x ∈ c.exceptionTable.toList, False) {kc ks : Nat} (hc : cells + mc ≤ kc) (hs : slots + ms ≤ ks) :
    W p l e R s m args below meth c H locs cells slots (vx_MQ below (fun _ _ _ _ => False) (kq_X D cl A w' E) args s kc ks A) (F0 m pc ls st0) := by
  intro T hT X
  rcases hr T hT X with ⟨v, st₀, t, T', L, h0, X', hL, e1, e2, hF, st⟩ | ⟨q, st₀, t, T', L, E', ce, h0, X', hL, e1, e2, ⟨rfl, hP, hD, hF⟩, hce, hcv, hcl, st⟩
  · exact hF.elim
  · obtain ⟨k1, k2, k3⟩ := vx_keep h0 e1 hS (fun _ _ h => h) (fun _ h => h) hL hF
    have ho : vx_W p l e R s m args below meth c T'.heap (locs ++ L) (cells + mc) (slots + ms) (vx_MQ below (fun _ _ _ _ => False) (kq_X D cl A w' E') args s kc ks A) (F0 m pc ls rest) q :=
      vx_out (E := E') (ce := ce) (fun x hx => (hEx x hx).elim) hlk (by rw [e1]; exact hce) hcv hcl (fun u hu _ => ⟨rfl, by rw [hu, e1]; exact hP, hD, k3.F hu⟩) k3.2.2 hc hs
    obtain ⟨t2, a1, b1⟩ := ho T' rfl X'
    exact ⟨t2, st.trans a1, b1⟩
/-- what a callee asks, out of what stands here -/
theorem kq_pre (hK : va_K D cl tys s) (hP : va_P D cl w H) (hD : va_D A w) (hA : ∀ q : Nat, s.heap.size ≤ q → A q) (hok : kq_ok G) (hG : G A s) (hS : va_S A s.heap H locs) {As : List Value} : ∀ U : State, U.heap = H → s.WarmedH U.vm → va_Pc As (kq_P D cl tys G A w) As.toArray U := by
  intro U hU hW
  exact ⟨rfl, by rw [hU]; exact hP, va_K.moved hW.alike hK, hD, fun q hq => hA q (by rw [hU] at hq; exact Nat.le_trans hS.1 hq), hok A s U hW (fun q h1 h2 => by rw [hU]; exact hS.2.1 q h1 h2) hG⟩
variable {y : MethodName} {bytes : ByteArray} {maxL nL n index : Nat} {ret : Option FieldType} {wy : List Cond} {ry : Room} {Ts : List Cond} {own C host : String} {b : Nat} {As : List Value}
theorem kq_cS {st1 : List Value} (S : CallFix p m c cc nL s args Ts own) (hM : kq_M l y wy ry As D cl tys G w w' rv) (cw : CallB R s args own index y bytes maxL ret wy ry 0 0 n ∧ (Cond.static y).before args s = true) (hok : kq_ok G)
    (hK : va_K D cl tys s) (hP : va_P D cl w H) (hD : va_D A w) (hA : ∀ q : Nat, s.heap.size ≤ q → A q) (hG : G A s) (hS : va_S A s.heap H locs)
    (hn : As.length = n) (hsize : ls.size = nL) (hst : st0 = As.reverse ++ rest) (h1 : rv.toList ++ rest = st1) (hW : (rest.map fun v => v.category).sum ≤ 8) (hdg : decode cc pc = .ok (.invokestatic index, 3)) (hf : cells ≤ R.cells ∧ slots ≤ R.slots)
    (kk : ∀ (H1 : Heap) (locs1 : List Loc), va_P D cl w' H1 → va_D A w' → va_S A s.heap H1 locs1 → W p l e R s m args below meth c H1 locs1 cells slots Q (F0 m (pc + 3) ls st1)) : W p l e R s m args below meth c H locs cells slots Q (F0 m pc ls st0) :=
  kq_call (va_runS S (hM A) cw ⟨kq_blind hok, kq_pre hK hP hD hA hok hG hS⟩ rfl hn hsize hst (lv_room hW) hdg hf) hS h1 kk
theorem kq_cV {st1 : List Value} (S : CallFix p m c cc nL s args Ts own) (hM : kq_M l y wy ry (.ref b :: As) D cl tys G w w' rv) (cw : CallW R s args own C index y bytes maxL ret wy ry 0 0 n) (hok : kq_ok G)
    (hK : va_K D cl tys s) (hP : va_P D cl w H) (hD : va_D A w) (hA : ∀ q : Nat, s.heap.size ≤ q → A q) (hG : G A s) (hS : va_S A s.heap H locs)
    (hc : ∃ cell : Cell, H[b]? = some cell ∧ cell.vm.isStatics = false ∧ s.vm.findClass C = some cell.cls)
    (hn : As.length = n) (hsize : ls.size = nL) (hst : st0 = As.reverse ++ .ref b :: rest) (h1 : rv.toList ++ rest = st1) (hW : (rest.map fun v => v.category).sum ≤ 8) (hdg : decode cc pc = .ok (.invokevirtual index, 3)) (hf : cells ≤ R.cells ∧ slots ≤ R.slots)
    (kk : ∀ (H1 : Heap) (locs1 : List Loc), va_P D cl w' H1 → va_D A w' → va_S A s.heap H1 locs1 → W p l e R s m args below meth c H1 locs1 cells slots Q (F0 m (pc + 3) ls st1)) : W p l e R s m args below meth c H locs cells slots Q (F0 m pc ls st0) :=
  kq_call (va_runV S (hM A) cw ⟨kq_blind hok, hc, kq_pre hK hP hD hA hok hG hS⟩ rfl hn hsize hst (lv_room hW) hdg hf) hS h1 kk
theorem kq_cSN {st1 : List Value} (S : CallFix p m c cc nL s args Ts own) (hM : kq_M l y wy ry As D cl tys G w w' rv) (cw : va_CN R s args own index y host bytes maxL ret wy ry 0 0 n ∧ (Cond.static y).before args s = true ∧ True) (hok : kq_ok G)
    (hK : va_K D cl tys s) (hP : va_P D cl w H) (hD : va_D A w) (hA : ∀ q : Nat, s.heap.size ≤ q → A q) (hG : G A s) (hS : va_S A s.heap H locs)
    (hn : As.length = n) (hsize : ls.size = nL) (hst : st0 = As.reverse ++ rest) (h1 : rv.toList ++ rest = st1) (hW : (rest.map fun v => v.category).sum ≤ 8) (hdg : decode cc pc = .ok (.invokestatic index, 3)) (hf : cells ≤ R.cells ∧ slots ≤ R.slots)
    (kk : ∀ (H1 : Heap) (locs1 : List Loc), va_P D cl w' H1 → va_D A w' → va_S A s.heap H1 locs1 → W p l e R s m args below meth c H1 locs1 cells slots Q (F0 m (pc + 3) ls st1)) : W p l e R s m args below meth c H locs cells slots Q (F0 m pc ls st0) :=
  kq_call (va_runSN S (hM A) cw ⟨kq_blind hok, kq_pre hK hP hD hA hok hG hS⟩ rfl hn hsize hst (lv_room hW) hdg hf) hS h1 kk
theorem kq_tS (S : CallFix p m c cc nL s args Ts own) (hM : kq_T l y wy ry As D cl tys G w w' E) (cw : CallB R s args own index y bytes maxL ret wy ry 1 6 n ∧ (Cond.static y).before args s = true) (hok : kq_ok G)
    (hK : va_K D cl tys s) (hP : va_P D cl w H) (hD : va_D A w) (hA : ∀ q : Nat, s.heap.size ≤ q → A q) (hG : G A s) (hS : va_S A s.heap H locs)
    (hn : As.length = n) (hsize : ls.size = nL) (hst : st0 = As.reverse ++ rest) (hW : (rest.map fun v => v.category).sum ≤ 8) (hdg : decode cc pc = .ok (.invokestatic index, 3)) (hf : cells + 1 ≤ R.cells ∧ slots + 6 ≤ R.slots)
    (hlk : meth.locks = false) (hEx : ∀ x ∈ c.exceptionTable.toList, False) {kc ks : Nat} (hc : cells + 1 ≤ kc) (hs : slots + 6 ≤ ks) :
    W p l e R s m args below meth c H locs cells slots (vx_MQ below (fun _ _ _ _ => False) (kq_X D cl A w' E) args s kc ks A) (F0 m pc ls st0) :=
  kq_gone (vx_runS S (hM A) cw ⟨kq_blind hok, kq_pre hK hP hD hA hok hG hS⟩ rfl hn hsize hst (lv_room hW) hdg hf) hS hlk hEx hc hs
theorem kq_tV (S : CallFix p m c cc nL s args Ts own) (hM : kq_T l y wy ry (.ref b :: As) D cl tys G w w' E) (cw : CallW R s args own C index y bytes maxL ret wy ry 1 6 n) (hok : kq_ok G)
    (hK : va_K D cl tys s) (hP : va_P D cl w H) (hD : va_D A w) (hA : ∀ q : Nat, s.heap.size ≤ q → A q) (hG : G A s) (hS : va_S A s.heap H locs)
    (hcb : ∃ cell : Cell, H[b]? = some cell ∧ cell.vm.isStatics = false ∧ s.vm.findClass C = some cell.cls)
    (hn : As.length = n) (hsize : ls.size = nL) (hst : st0 = As.reverse ++ .ref b :: rest) (hW : (rest.map fun v => v.category).sum ≤ 8) (hdg : decode cc pc = .ok (.invokevirtual index, 3)) (hf : cells + 1 ≤ R.cells ∧ slots + 6 ≤ R.slots)
    (hlk : meth.locks = false) (hEx : ∀ x ∈ c.exceptionTable.toList, False) {kc ks : Nat} (hc : cells + 1 ≤ kc) (hs : slots + 6 ≤ ks) :
    W p l e R s m args below meth c H locs cells slots (vx_MQ below (fun _ _ _ _ => False) (kq_X D cl A w' E) args s kc ks A) (F0 m pc ls st0) :=
  kq_gone (vx_runV S (hM A) cw ⟨kq_blind hok, hcb, kq_pre hK hP hD hA hok hG hS⟩ rfl hn hsize hst (lv_room hW) hdg hf) hS hlk hEx hc hs
-- arrays by a Nat place
theorem kq_lald (hx : p.tables.exec = Jvm.exec) (hb : c.code = cc) (hK : va_K D cl tys s) (hP : va_P D cl w H) (q0 t0 : Nat) {cA : ClassId} {k : Nat} {f : Nat → Int64} (ha : w[q0]? = some (a, .inl (cA, k, .inr (.inl f)))) (ht : tys[t0]? = some (cA, .long)) {j : Nat} (hj : j < k) (hk : k < 2 ^ 31) (hdg : decode cc pc = .ok (.laload, 1))
    (kk : W p l e R s m args below meth c H locs cells slots Q (F0 m (pc + 1) ls (.long (f j) :: rest))) : W p l e R s m args below meth c H locs cells slots Q (F0 m pc ls (.int (nI j) :: .ref a :: rest)) :=
  va_lald hx hb hK hP q0 t0 ha ht (vp_in_nI hj hk) hdg (by rw [nI_clamp (Nat.lt_trans hj hk)]; exact kk)
theorem kq_iald (hx : p.tables.exec = Jvm.exec) (hb : c.code = cc) (hK : va_K D cl tys s) (hP : va_P D cl w H) (q0 t0 : Nat) {cA : ClassId} {k : Nat} {f : Nat → Int32} (ha : w[q0]? = some (a, .inl (cA, k, .inl f))) (ht : tys[t0]? = some (cA, .int)) {j : Nat} (hj : j < k) (hk : k < 2 ^ 31) (hdg : decode cc pc = .ok (.iaload, 1))
    (kk : W p l e R s m args below meth c H locs cells slots Q (F0 m (pc + 1) ls (.int (f j) :: rest))) : W p l e R s m args below meth c H locs cells slots Q (F0 m pc ls (.int (nI j) :: .ref a :: rest)) :=
  va_iald hx hb hK hP q0 t0 ha ht (vp_in_nI hj hk) hdg (by rw [nI_clamp (Nat.lt_trans hj hk)]; exact kk)
theorem kq_zald (hx : p.tables.exec = Jvm.exec) (hb : c.code = cc) (hK : va_K D cl tys s) (hP : va_P D cl w H) (q0 t0 : Nat) {cA : ClassId} {k : Nat} {f : Nat → Int32} (ha : w[q0]? = some (a, .inl (cA, k, .inl f))) (ht : tys[t0]? = some (cA, .boolean)) {j : Nat} (hj : j < k) (hk : k < 2 ^ 31) (hdg : decode cc pc = .ok (.baload, 1))
    (kk : W p l e R s m args below meth c H locs cells slots Q (F0 m (pc + 1) ls (.int (f j) :: rest))) : W p l e R s m args below meth c H locs cells slots Q (F0 m pc ls (.int (nI j) :: .ref a :: rest)) :=
  va_zald hx hb hK hP q0 t0 ha ht (vp_in_nI hj hk) hdg (by rw [nI_clamp (Nat.lt_trans hj hk)]; exact kk)
theorem kq_aald (hx : p.tables.exec = Jvm.exec) (hb : c.code = cc) (hK : va_K D cl tys s) (hP : va_P D cl w H) (q0 t0 : Nat) {cA : ClassId} {C : String} {k : Nat} {f : Nat → Option Nat} (ha : w[q0]? = some (a, .inl (cA, k, .inr (.inr (.inr (.inr f)))))) (ht : tys[t0]? = some (cA, .object C)) {j : Nat} (hj : j < k) (hk : k < 2 ^ 31) (hdg : decode cc pc = .ok (.aaload, 1))
    (kk : W p l e R s m args below meth c H locs cells slots Q (F0 m (pc + 1) ls (va_rf (f j) :: rest))) : W p l e R s m args below meth c H locs cells slots Q (F0 m pc ls (.int (nI j) :: .ref a :: rest)) :=
  va_aldq hx hb hK hP q0 t0 ha ht (vp_in_nI hj hk) hdg (by rw [nI_clamp (Nat.lt_trans hj hk)]; exact kk)
theorem kq_last (hx : p.tables.exec = Jvm.exec) (hb : c.code = cc) (hK : va_K D cl tys s) (hP : va_P D cl w H) (hD : va_D A w) (hS : va_S A s.heap H locs) (q0 t0 : Nat) {cA : ClassId} {k : Nat} {f : Nat → Int64} (ha : w[q0]? = some (a, .inl (cA, k, .inr (.inl f)))) (ht : tys[t0]? = some (cA, .long)) {j : Nat} (hj : j < k) (hk : k < 2 ^ 31) {x : Int64} (hdg : decode cc pc = .ok (.lastore, 1))
    (hw : w.set q0 (a, .inl (cA, k, .inr (.inl (vp_updL f j x)))) = w')
    (kk : ∀ (H1 : Heap) (locs1 : List Loc), va_P D cl w' H1 → va_D A w' → va_S A s.heap H1 locs1 → W p l e R s m args below meth c H1 locs1 cells slots Q (F0 m (pc + 1) ls rest)) : W p l e R s m args below meth c H locs cells slots Q (F0 m pc ls (.long x :: .int (nI j) :: .ref a :: rest)) := by
  refine va_last hx hb hK hP hD hS q0 t0 ha ht (vp_in_nI hj hk) hdg (fun H1 locs1 h1 h2 h3 => ?_)
  rw [nI_clamp (Nat.lt_trans hj hk), hw] at h1 h2
  exact kk H1 locs1 h1 h2 h3
theorem kq_iast (hx : p.tables.exec = Jvm.exec) (hb : c.code = cc) (hK : va_K D cl tys s) (hP : va_P D cl w H) (hD : va_D A w) (hS : va_S A s.heap H locs) (q0 t0 : Nat) {cA : ClassId} {k : Nat} {f : Nat → Int32} (ha : w[q0]? = some (a, .inl (cA, k, .inl f))) (ht : tys[t0]? = some (cA, .int)) {j : Nat} (hj : j < k) (hk : k < 2 ^ 31) {x : Int32} (hdg : decode cc pc = .ok (.iastore, 1))
    (hw : w.set q0 (a, .inl (cA, k, .inl (upd f j x))) = w')
    (kk : ∀ (H1 : Heap) (locs1 : List Loc), va_P D cl w' H1 → va_D A w' → va_S A s.heap H1 locs1 → W p l e R s m args below meth c H1 locs1 cells slots Q (F0 m (pc + 1) ls rest)) : W p l e R s m args below meth c H locs cells slots Q (F0 m pc ls (.int x :: .int (nI j) :: .ref a :: rest)) := by
  refine va_iast hx hb hK hP hD hS q0 t0 ha ht (vp_in_nI hj hk) hdg (fun H1 locs1 h1 h2 h3 => ?_)
  rw [nI_clamp (Nat.lt_trans hj hk), hw] at h1 h2
  exact kk H1 locs1 h1 h2 h3
theorem kq_zast (hx : p.tables.exec = Jvm.exec) (hb : c.code = cc) (hK : va_K D cl tys s) (hP : va_P D cl w H) (hD : va_D A w) (hS : va_S A s.heap H locs) (q0 t0 : Nat) {cA : ClassId} {k : Nat} {f : Nat → Int32} (ha : w[q0]? = some (a, .inl (cA, k, .inl f))) (ht : tys[t0]? = some (cA, .boolean)) {j : Nat} (hj : j < k) (hk : k < 2 ^ 31) {x : Int32} (hn : vp_nar .boolean x = x) (hdg : decode cc pc = .ok (.bastore, 1))
    (hw : w.set q0 (a, .inl (cA, k, .inl (upd f j x))) = w')
    (kk : ∀ (H1 : Heap) (locs1 : List Loc), va_P D cl w' H1 → va_D A w' → va_S A s.heap H1 locs1 → W p l e R s m args below meth c H1 locs1 cells slots Q (F0 m (pc + 1) ls rest)) : W p l e R s m args below meth c H locs cells slots Q (F0 m pc ls (.int x :: .int (nI j) :: .ref a :: rest)) := by
  refine va_zast hx hb hK hP hD hS q0 t0 ha ht (vp_in_nI hj hk) hdg (fun H1 locs1 h1 h2 h3 => ?_)
  rw [nI_clamp (Nat.lt_trans hj hk), hn, hw] at h1 h2
  exact kk H1 locs1 h1 h2 h3
end KR
section KG
variable {p : Program} {l : Launch} {e : Env} {R : Room} {s : State} {m : MethodId} {args : Array Value} {below : List Frame} {meth : Method} {c : Code} {H : Heap} {locs : List Loc} {cells slots : Nat} {Q : State → Prop}
variable {cc : ByteArray} {pc : Nat} {ls : Array Slot} {rest : List Value} {D : va_G} {cl : List vw_C} {a : Nat} {tys : List (ClassId × FieldType)} {w : va_W}
/-- a row of an array of arrays -/
theorem kq_aalg (hx : p.tables.exec = Jvm.exec) (hb : c.code = cc) (hK : va_K D cl tys s) (hP : va_P D cl w H) (q0 t0 : Nat) {cA : ClassId} {t : FieldType} {k : Nat} {f : Nat → Option Nat} (ha : w[q0]? = some (a, .inl (cA, k, .inr (.inr (.inr (.inr f)))))) (ht : tys[t0]? = some (cA, .array t)) {j : Nat} (hj : j < k) (hk : k < 2 ^ 31) (hdg : decode cc pc = .ok (.aaload, 1))
    (kk : W p l e R s m args below meth c H locs cells slots Q (F0 m (pc + 1) ls (va_rf (f j) :: rest))) : W p l e R s m args below meth c H locs cells slots Q (F0 m pc ls (.int (nI j) :: .ref a :: rest)) := by
  have h31 : j < 2 ^ 31 := Nat.lt_trans hj hk
  have hin : vp_in (nI j) k := vp_in_nI hj hk
  have hlt : (nI j).toNatClampNeg < k := by rw [nI_clamp h31]; exact hj
  refine W.aald (v := va_rf (f j)) (ty := .array t) hx hb (hP q0 _ ha) ((hK.2 t0 _ ht).1 k (fun i => va_rf (f i))) rfl (fun q => by cases q) (by show ¬ (nI j < 0 ∨ (arrV _ _ _).slots.size ≤ _); rw [arrV_size]; exact hin) (by show (arrV _ _ _).slots[_]? = _; rw [arrV_read _ _ hlt, nI_clamp h31]) rfl rfl hdg kk
end KG
section KT
variable {p : Program} {l : Launch} {e : Env} {R : Room} {s : State} {m : MethodId} {args : Array Value} {below : List Frame} {meth : Method} {c : Code} {H : Heap} {locs : List Loc} {cells slots : Nat} {Q : State → Prop} {pc : Nat} {ls : Array Slot} {rest : List Value}
theorem kq_ti {x y : Int32} (h : x = y) (k : W p l e R s m args below meth c H locs cells slots Q (F0 m pc ls (.int y :: rest))) : W p l e R s m args below meth c H locs cells slots Q (F0 m pc ls (.int x :: rest)) := by rw [h]; exact k
theorem kq_tl {x y : Int64} (h : x = y) (k : W p l e R s m args below meth c H locs cells slots Q (F0 m pc ls (.long y :: rest))) : W p l e R s m args below meth c H locs cells slots Q (F0 m pc ls (.long x :: rest)) := by rw [h]; exact k
theorem kq_td {x y : UInt64} (h : x = y) (k : W p l e R s m args below meth c H locs cells slots Q (F0 m pc ls (.double y :: rest))) : W p l e R s m args below meth c H locs cells slots Q (F0 m pc ls (.double x :: rest)) := by rw [h]; exact k
end KT
theorem kq_okT : kq_ok (fun _ _ => True) := fun _ _ _ _ _ _ => trivial
