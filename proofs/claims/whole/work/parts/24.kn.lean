/-! Constructors: what a run of one leaves, by a choice that the run makes (addresses, array classes). -/
section KNA
theorem tm_aow {ty : FieldType} {s U : State} (hW : s.WarmedH U.vm) (h : va_Nw (.arrayOver ty) s) : va_Nw (.arrayOver ty) U :=
  ((Cond.arrayOver_setVmC (args := #[]) hW.alike ty).trans h : (Cond.arrayOver ty).before #[] (s.setVm U.vm) = true)
def tm_aot : List FieldType := [.object "TrustModule$Key", .object "TrustModule$Blob", .object "TrustModule$Session", .object "TrustModule$Index", .array .long]
def tm_GC (gs : Nat → Nat) (A : Nat → Prop) (U : State) : Prop := tm_G gs A U ∧ ∀ t ∈ tm_aot, va_Nw (.arrayOver t) U
theorem tm_GCok {gs : Nat → Nat} : kq_ok (tm_GC gs) := fun A s U hW hq h => ⟨tm_Gok A s U hW hq h.1, fun t ht => tm_aow hW (h.2 t ht)⟩
theorem tm_GCnarrow {gs : Nat → Nat} {A B : Nat → Prop} {U : State} (hAB : ∀ q, B q → A q) (h : tm_GC gs A U) : tm_GC gs B U := ⟨tm_Gnarrow hAB h.1, h.2⟩
def kq_QE (X : Type) (D : va_G) (cl : List vw_C) (A : Nat → Prop) (w' : X → va_W) (ty' : X → List (ClassId × FieldType)) (st : State) (o : Outcome) (t : State) : Prop :=
  o = .returned none ∧ ∃ x : X, va_P D cl (w' x) t.heap ∧ va_D A (w' x) ∧ va_F A st t ∧ va_K D cl (ty' x) t
def kq_ME (X : Type) (l : Launch) (y : MethodName) (ws : List Cond) (rm : Room) (As : List Value) (D : va_G) (cl : List vw_C) (tys : List (ClassId × FieldType)) (G : (Nat → Prop) → State → Prop) (w : va_W) (w' : X → va_W) (ty' : X → List (ClassId × FieldType)) (mc ms : Nat) : Prop :=
  ∀ A : Nat → Prop, Met l y ws rm (va_Pc As (kq_P D cl tys G A w)) (fun _ => kq_QE X D cl A w' ty') mc ms A
variable {X : Type} {l : Launch} {y : MethodName} {ws : List Cond} {rm : Room} {As : List Value} {D : va_G} {cl : List vw_C} {tys : List (ClassId × FieldType)} {G : (Nat → Prop) → State → Prop} {w : va_W} {w' : X → va_W} {ty' : X → List (ClassId × FieldType)} {mc ms : Nat}
theorem kq_ofI {cc : ByteArray} {maxL : Nat} {R0 : String} (hy : plainName y.cls = true) (hw : ws = Cond.code y cc maxL none :: tm_B) (hR : y.cls = R0) (hnm : y.name = "<init>") (hn : (lg_sl As).length ≤ maxL)
    (body : ∀ (p : Program) (e : Env) (s : State) (m : MethodId) (below : List Frame) (meth : Method) (c : Code) (A : Nat → Prop) (ls : Array Slot), p.tables.exec = Jvm.exec → c.code = cc → meth.sig.returnType = none → meth.locks = false → c.maxLocals = maxL → s.vm.findClass R0 = some m.cls → (∀ w ∈ tm_B, w.before As.toArray s = true) →
      va_P D cl w s.heap → va_K D cl tys s → va_D A w → (∀ q : Nat, s.heap.size ≤ q → A q) → G A s → va_S A s.heap s.heap [] → lv_has ls maxL (lv_args 0 As) → meth.name = "<init>" →
      W p l e rm s m As.toArray below meth c s.heap [] 0 0 (MQ below (fun _ => kq_QE X D cl A w' ty') As.toArray s mc ms A) (F0 m 0 ls [])) : kq_ME X l y ws rm As D cl tys G w w' ty' mc ms := by
  intro A
  refine Met.ofW (cc := cc) (maxL := maxL) (ret := none) hy hw ?_
  intro p e s m args below meth c s₁ B hml hv
  obtain ⟨rfl, hP, hK, hD, hA, hG⟩ := hv
  have hl := lv_entry As (n := maxL) hn
  rw [lg_entry_eq]
  exact body p e s m below meth c A _ B.exec B.bytes B.returns B.notSynchronized hml (by rw [← hR]; exact findClass_of_methodNamed B.named) (fun w9 h9 => atoms_spec (ws := ws) B.pre w9 (by rw [hw]; exact List.mem_cons_of_mem _ h9)) hP hK hD hA hG va_S.rf hl ((name_of_methodNamed B.named B.method).1.trans hnm)
end KNA
section KNB
variable {p : Program} {l : Launch} {e : Env} {R : Room} {s : State} {m : MethodId} {args : Array Value} {below : List Frame} {meth : Method} {c : Code} {H : Heap} {locs : List Loc} {cells slots : Nat} {Q : State → Prop}
variable {X : Type} {cc : ByteArray} {pc : Nat} {ls : Array Slot} {rest st0 : List Value} {D : va_G} {cl : List vw_C} {A : Nat → Prop} {tys : List (ClassId × FieldType)} {w : va_W} {w' : X → va_W} {ty' : X → List (ClassId × FieldType)} {G : (Nat → Prop) → State → Prop}
theorem kq_vretX (x : X) (hx : p.tables.exec = Jvm.exec) (hb : c.code = cc) (hr : meth.sig.returnType = none) (hlk : meth.locks = false) (hP : va_P D cl (w' x) H) (hD : va_D A (w' x)) (hS : va_S A s.heap H locs) (hK : va_K D cl (ty' x) s) (hdg : decode cc pc = .ok (.return_, 1)) :
    W p l e R s m args below meth c H locs cells slots (MQ below (fun _ => kq_QE X D cl A w' ty') args s cells slots A) (F0 m pc ls []) :=
  W.vret hx hb hr (fun t ht hW => ⟨rfl, x, by rw [ht]; exact hP, hD, hS.F ht, va_K.moved hW.alike hK⟩) hS.2.2 hdg hlk
theorem kq_callE {A' : Nat → Prop} {mc ms : Nat} (hr : va_Run p l e R s m args below meth c H locs cells slots mc ms (F0 m pc ls st0) rest (kq_QE X D cl A' w' ty') A') (hS : va_S A s.heap H locs) (hA1 : ∀ q : Nat, q < H.size → A' q → A q) (hA2 : ∀ q : Nat, A' q → A q)
    (kk : ∀ (x : X) (H1 : Heap) (locs1 : List Loc), va_P D cl (w' x) H1 → va_D A' (w' x) → va_S A s.heap H1 locs1 → va_K D cl (ty' x) s → H.size ≤ H1.size → (∀ q : Nat, q < H.size → ¬ A' q → H1[q]? = H[q]?) → W p l e R s m args below meth c H1 locs1 (cells + mc) (slots + ms) Q (F0 m (pc + 3) ls rest)) : W p l e R s m args below meth c H locs cells slots Q (F0 m pc ls st0) := by
  intro T hT XX
  obtain ⟨v, st₀, t, T', L, h0, X', hL, e1, e2, ⟨hv, x, hP, hD, hF, hK⟩, st⟩ := hr T hT XX
  cases hv
  obtain ⟨k1, k2, k3⟩ := vx_keep h0 e1 hS hA1 hA2 hL hF
  have hal : s.vm.Alike t.vm := by rw [← e2]; exact X'.warmed.alike
  obtain ⟨t2, a1, b1⟩ := kk x T'.heap (locs ++ L) (by rw [e1]; exact hP) hD k3 (va_K.moved hal.symm hK) (by rw [e1, ← h0]; exact hF.1) (fun q q1 q2 => by rw [e1, ← h0]; exact hF.2 q (by rw [h0]; exact q1) q2) T' rfl X'
  exact ⟨t2, st t2 a1, b1⟩
theorem tm_same {c1 c2 : ClassId} {t : FieldType} (ht : ∀ C, t ≠ .object C) (h1 : va_RA s c1 t) (h2 : va_RA s c2 t) : c1 = c2 := by
  cases t with
  | object C => exact absurd rfl (ht C)
  | _ => exact Option.some.inj (Eq.trans (Eq.symm h1) h2)
theorem tm_sameK {c1 c2 : ClassId} {t : FieldType} (ht : ∀ C, t ≠ .object C) {t1 : List (ClassId × FieldType)} (h : va_K D cl (t1 ++ [(c1, t)]) s) {i : Nat} (hi : t1[i]? = some (c2, t)) : c1 = c2 := by
  refine tm_same ht ?_ (h.2 i _ (by rw [List.getElem?_append_left (List.getElem?_eq_some_iff.mp hi).1]; exact hi)).2
  exact (h.2 t1.length _ (by rw [List.getElem?_append_right (Nat.le_refl _), Nat.sub_self]; rfl)).2
theorem tm_objI {idx : Nat} {own : String} (hx : p.tables.exec = Jvm.exec) (hb : c.code = cc) (hown : s.vm.findClass own = some m.cls) (hts : ∀ w ∈ tm_B, w.before args s = true) (h1 : Cond.methodLink own idx Lib.objectInit ∈ tm_B) (h2 : Cond.instanceMethod Lib.objectInit ∈ tm_B) (h3 : Cond.code Lib.objectInit ⟨#[0xb1]⟩ 1 none ∈ tm_B)
    (hsize : ls.size = c.maxLocals) {a : Nat} (hd : decode cc pc = .ok (.invokespecial idx, 3)) (hf : 1 ≤ R.frames) (hlo : 12 ≤ R.locals)
    (kk : W p l e R s m args below meth c H locs cells slots Q (F0 m (pc + 3) ls [])) : W p l e R s m args below meth c H locs cells slots Q (F0 m pc ls [.ref a]) :=
  W.objInit hx hb hown (hts _ h1) (hts _ h2) (hts _ h3) rfl hsize rfl hd hf hlo kk
theorem arrV_ext {cI : ClassId} {N : Nat} {f g : Nat → Value} (h : ∀ j, j < N → f j = g j) : arrV cI N f = arrV cI N g := by
  unfold arrV
  congr 2
  funext j
  exact h j.val j.isLt
end KNB
