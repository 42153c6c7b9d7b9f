/-! What the class's methods ask beside the tables' words: Throwable's two statics, the texts, TOLD_SIZES, and the words that the tables decide but that are no good words. -/
section TGA
def tm_xk : Cond → Bool
  | .declares _ => true
  | .castable _ _ => true
  | .methodLinkNest _ _ _ _ => true
  | _ => false
def tm_X : List Cond := tables_1.filter tm_xk
theorem tm_xtab {w : Cond} (h : tm_xk w = true) : w.onTables = true := by
  cases w <;> first | rfl | (exact absurd h (by simp [tm_xk]))
theorem tm_xwarm {w : Cond} (h : tm_xk w = true) {s U : State} (hW : s.WarmedH U.vm) (hZ : va_Nw w s) : va_Nw w U := by
  cases w <;> first | exact va_Nw.warmD hW hZ | exact va_Nw.warmC hW hZ | exact va_Nw.warmM hW hZ | (exact absurd h (by simp [tm_xk]))
def tm_str : List (Nat × String) := [(154, "the digest is neither of the two"), (172, "the index is defined already"), (199, "the index was never written"), (254, "a number is out of range"), (257, "power is lost"), (262, "the key is no parent"), (269, "the blob was tampered with"), (272, "the handle is free"), (277, "there is no such blob"), (279, "the index is not defined"), (281, "no handle is free"), (291, "power was lost in the midst of the call"), (299, "words are locked"), (301, "the word is wrong"), (303, "the session does not satisfy the policy"), (305, "the registers have changed")]
def tm_sz : Nat → Value
  | 0 => .int (nI 8)
  | 1 => .int (nI 8)
  | 2 => .int (nI 4)
  | 3 => .int (nI 32)
  | _ => .int (nI 3)
def tm_ex : List String := ["java/lang/IllegalArgumentException", "java/lang/IllegalStateException", "java/util/NoSuchElementException", "java/lang/UnsupportedOperationException", "java/lang/ArithmeticException"]
def tm_up : List String := ["java/lang/RuntimeException", "java/lang/Exception"]
def tm_G (gs : Nat → Nat) (A : Nat → Prop) (U : State) : Prop :=
  vx_Zq Bundle.tN "UNASSIGNED_STACK" Bundle.steD A U U.heap ∧ vx_Zq Bundle.tN "SUPPRESSED_SENTINEL" Bundle.listD A U U.heap ∧
  (∀ q ∈ tm_str, vk_R RX4 q.1 q.2 (gs q.1) U) ∧ va_Z RX4 "TOLD_SIZES" "[I" (.ref (gs 100)) A U U.heap ∧ va_T .int (gs 100) 5 tm_sz A U U.heap ∧
  (∀ w ∈ tm_X, va_Nw w U) ∧ (∀ a ∈ tm_ex, ∀ b ∈ tm_ex, a ≠ b → va_Nc a b U)
theorem tm_Gok {gs : Nat → Nat} : kq_ok (tm_G gs) := by
  intro A s U hW hq ⟨h1, h2, h3, h4, h5, h6, h7⟩
  exact ⟨vx_Zq.moved hW.alike (h1.kept hq), vx_Zq.moved hW.alike (h2.kept hq), fun q hqm => vk_R.warm hW (h3 q hqm), va_Z.moved hW.alike (h4.kept hq), va_T.moved hW.alike (h5.kept hq),
    fun w hw => tm_xwarm (List.mem_filter.mp hw).2 hW (h6 w hw), fun a ha b hb hab => va_Nc.moved hW.alike (h7 a ha b hb hab)⟩
theorem tm_Gnarrow {gs : Nat → Nat} {A B : Nat → Prop} {U : State} (hAB : ∀ q, B q → A q) (h : tm_G gs A U) : tm_G gs B U := by
  obtain ⟨h1, h2, h3, h4, h5, h6, h7⟩ := h
  exact ⟨h1.narrow hAB, h2.narrow hAB, h3, h4.narrow hAB, h5.narrow hAB, h6, h7⟩
variable {gs : Nat → Nat} {A : Nat → Prop} {s : State} {args : Array Value}
theorem tm_Gs (hG : tm_G gs A s) (i : Nat) (tx : String) (h : (i, tx) ∈ tm_str) : vk_R RX4 i tx (gs i) s := hG.2.2.1 _ h
theorem tm_Gz (hG : tm_G gs A s) : va_Z RX4 "TOLD_SIZES" "[I" (.ref (gs 100)) A s s.heap := hG.2.2.2.1
theorem tm_Gt (hG : tm_G gs A s) : va_T .int (gs 100) 5 tm_sz A s s.heap := hG.2.2.2.2.1
theorem tm_GX (hG : tm_G gs A s) {w : Cond} (h : w ∈ tm_X) : va_Nw w s := hG.2.2.2.2.2.1 w h
theorem tm_Gc (hG : tm_G gs A s) {a b : String} (ha : a ∈ tm_ex) (hb : b ∈ tm_ex) (h : a ≠ b) : va_Nc a b s := hG.2.2.2.2.2.2 a ha b hb h
theorem tm_inX {w : Cond} (i : Nat) (h : tables_1[i]? = some w) (hk : tm_xk w = true) : w ∈ tm_X := List.mem_filter.mpr ⟨List.mem_of_getElem? h, hk⟩
theorem tm_tx {L : List Cond} (h : L.all (fun w => tables_1.contains w && (goodWord w || tm_xk w)) = true) (hts : ∀ w ∈ tm_B, w.before args s = true) (hG : tm_G gs A s) : ∀ w ∈ L, w.before args s = true := by
  intro w hw
  have h1 := List.all_eq_true.mp h w hw
  simp only [Bool.and_eq_true, Bool.or_eq_true] at h1
  have hm : w ∈ tables_1 := List.elem_iff.mp h1.1
  rcases h1.2 with hg | hk
  · exact hts w (List.mem_filter.mpr ⟨List.mem_append_right _ hm, hg⟩)
  · exact va_Nw.use (tm_xtab hk) (tm_GX hG (List.mem_filter.mpr ⟨hm, hk⟩))
def tm_pass (ix : Nat) (rx : ByteArray) : Prop := decode rx 0 = .ok (.aload_n 0, 1) ∧ decode rx 1 = .ok (.aload_n 1, 1) ∧ decode rx 2 = .ok (.invokespecial ix, 3) ∧ decode rx 5 = .ok (.return_, 1)
def tm_r13 : ByteArray := ⟨#[0x2a, 0x2b, 0xb7, 0x00, 0x0d, 0xb1]⟩
theorem tm_p7 : tm_pass 7 Bundle.six := ⟨by decide +kernel, by decide +kernel, by decide +kernel, by decide +kernel⟩
theorem tm_p13 : tm_pass 13 tm_r13 := ⟨by decide +kernel, by decide +kernel, by decide +kernel, by decide +kernel⟩
end TGA
section TGB
variable {p : Program} {l : Launch} {e : Env} {R : Room} {s : State} {m : MethodId} {args : Array Value} {below : List Frame} {meth : Method} {c : Code} {H : Heap} {locs : List Loc} {cells slots : Nat}
variable {ls : Array Slot} {rest : List Value} {cc : ByteArray} {pc : Nat} {D : va_G} {cl : List vw_C} {A : Nat → Prop} {w' : va_W} {gs : Nat → Nat}
theorem tm_throw {w : Bool} {E text : String} {ik is ic ix : Nat} {rx : ByteArray} (hp : tm_pass ix rx) (hfit : Bundle.fit E = true) (hgd : (Cond.classLink RX4 ik E :: Cond.initialized E :: tn_at RX4 ic E ix rx tm_up).all vx_ot = true)
    (hat : ∀ w ∈ tn_at RX4 ic E ix rx tm_up, w.before args s = true) (hl9 : l.stackTraces = false) (hx : p.tables.exec = Jvm.exec) (hb : c.code = cc) (hown : s.vm.findClass RX4 = some m.cls) (hstr : vk_R RX4 is text (gs is) s)
    (hk : (Cond.classLink RX4 ik E).before args s = true) (hini : (Cond.initialized E).before args s = true) (hG : tm_G gs A s) (hS : va_S A s.heap H locs) (hsize : ls.size = c.maxLocals)
    (d0 : decode cc pc = .ok (.new ik, 3)) (d3 : decode cc (pc + 3) = .ok (.dup, 1)) (d4 : decode cc (pc + 4) = .ok (if w then .ldc_w is else .ldc is, if w then 3 else 2)) (d6 : decode cc (pc + 4 + (if w then 3 else 2)) = .ok (.invokespecial ic, 3)) (d9 : decode cc (pc + 4 + (if w then 3 else 2) + 3) = .ok (.athrow, 1))
    (hEx : ∀ x ∈ c.exceptionTable.toList, False) (hRf : 6 ≤ R.frames) (hRl : (rest.map fun v => v.category).sum + 82 ≤ R.locals) (hRc : cells + 1 ≤ R.cells) (hRs : slots + 6 ≤ R.slots) (hlk : meth.locks = false)
    (hP : va_P D cl w' H) (hD : va_D A w') {mc ms : Nat} (hc : cells + 1 ≤ mc) (hs : slots + 6 ≤ ms) :
    W p l e R s m args below meth c H locs cells slots (vx_MQ below (fun _ _ _ _ => False) (kq_X D cl A w' E) args s mc ms A) (F0 m pc ls rest) := by
  refine tn_throw w hx hb hl9 (own := RX4) (names := tm_up) hp.1 hp.2.1 hp.2.2.1 hp.2.2.2 hown hfit (by decide) hk hini hstr hat (fun w hw => List.all_eq_true.mp hgd w hw) hG.1 hG.2.1 hS hsize d0 d3 d4 d6 d9 hEx hRf hRl hRc hRs hlk ?_ hS.2.2 hc hs
  intro t ht hz hq
  refine ⟨rfl, hP.kept (fun k q hk => hq q.1 (hP k q hk).lt), hD, Nat.le_trans hS.1 hz, fun q h1 h2 => ?_⟩
  rw [hq q (Nat.lt_of_lt_of_le h1 hS.1), hS.2.1 q h1 h2]
theorem tz_256 : (tn_at RX4 256 "java/lang/IllegalArgumentException" 7 Bundle.six tm_up).all (fun w => tables_1.contains w && (goodWord w || tm_xk w)) = true := by decide +kernel
theorem ty_256 : (Cond.classLink RX4 252 "java/lang/IllegalArgumentException" :: Cond.initialized "java/lang/IllegalArgumentException" :: tn_at RX4 256 "java/lang/IllegalArgumentException" 7 Bundle.six tm_up).all vx_ot = true := by decide +kernel
theorem tw_256 {w : Bool} {text : String} {is : Nat} (hts : ∀ w ∈ tm_B, w.before args s = true) (hl9 : l.stackTraces = false) (hx : p.tables.exec = Jvm.exec) (hb : c.code = cc) (hown : s.vm.findClass RX4 = some m.cls) (hstr : vk_R RX4 is text (gs is) s)
    (hk : (Cond.classLink RX4 252 "java/lang/IllegalArgumentException").before args s = true) (hini : (Cond.initialized "java/lang/IllegalArgumentException").before args s = true) (hG : tm_G gs A s) (hS : va_S A s.heap H locs) (hsize : ls.size = c.maxLocals)
    (d0 : decode cc pc = .ok (.new 252, 3)) (d3 : decode cc (pc + 3) = .ok (.dup, 1)) (d4 : decode cc (pc + 4) = .ok (if w then .ldc_w is else .ldc is, if w then 3 else 2)) (d6 : decode cc (pc + 4 + (if w then 3 else 2)) = .ok (.invokespecial 256, 3)) (d9 : decode cc (pc + 4 + (if w then 3 else 2) + 3) = .ok (.athrow, 1))
    (hEx : ∀ x ∈ c.exceptionTable.toList, False) (hRf : 6 ≤ R.frames) (hRl : (rest.map fun v => v.category).sum + 82 ≤ R.locals) (hRc : cells + 1 ≤ R.cells) (hRs : slots + 6 ≤ R.slots) (hlk : meth.locks = false)
    (hP : va_P D cl w' H) (hD : va_D A w') {mc ms : Nat} (hc : cells + 1 ≤ mc) (hs : slots + 6 ≤ ms) :
    W p l e R s m args below meth c H locs cells slots (vx_MQ below (fun _ _ _ _ => False) (kq_X D cl A w' "java/lang/IllegalArgumentException") args s mc ms A) (F0 m pc ls rest) :=
  tm_throw (w := w) tm_p7 (by decide) ty_256 (tm_tx tz_256 hts hG) hl9 hx hb hown hstr hk hini hG hS hsize d0 d3 d4 d6 d9 hEx hRf hRl hRc hRs hlk hP hD hc hs
theorem tz_174 : (tn_at RX4 174 "java/lang/IllegalStateException" 7 Bundle.six tm_up).all (fun w => tables_1.contains w && (goodWord w || tm_xk w)) = true := by decide +kernel
theorem ty_174 : (Cond.classLink RX4 170 "java/lang/IllegalStateException" :: Cond.initialized "java/lang/IllegalStateException" :: tn_at RX4 174 "java/lang/IllegalStateException" 7 Bundle.six tm_up).all vx_ot = true := by decide +kernel
theorem tw_174 {w : Bool} {text : String} {is : Nat} (hts : ∀ w ∈ tm_B, w.before args s = true) (hl9 : l.stackTraces = false) (hx : p.tables.exec = Jvm.exec) (hb : c.code = cc) (hown : s.vm.findClass RX4 = some m.cls) (hstr : vk_R RX4 is text (gs is) s)
    (hk : (Cond.classLink RX4 170 "java/lang/IllegalStateException").before args s = true) (hini : (Cond.initialized "java/lang/IllegalStateException").before args s = true) (hG : tm_G gs A s) (hS : va_S A s.heap H locs) (hsize : ls.size = c.maxLocals)
    (d0 : decode cc pc = .ok (.new 170, 3)) (d3 : decode cc (pc + 3) = .ok (.dup, 1)) (d4 : decode cc (pc + 4) = .ok (if w then .ldc_w is else .ldc is, if w then 3 else 2)) (d6 : decode cc (pc + 4 + (if w then 3 else 2)) = .ok (.invokespecial 174, 3)) (d9 : decode cc (pc + 4 + (if w then 3 else 2) + 3) = .ok (.athrow, 1))
    (hEx : ∀ x ∈ c.exceptionTable.toList, False) (hRf : 6 ≤ R.frames) (hRl : (rest.map fun v => v.category).sum + 82 ≤ R.locals) (hRc : cells + 1 ≤ R.cells) (hRs : slots + 6 ≤ R.slots) (hlk : meth.locks = false)
    (hP : va_P D cl w' H) (hD : va_D A w') {mc ms : Nat} (hc : cells + 1 ≤ mc) (hs : slots + 6 ≤ ms) :
    W p l e R s m args below meth c H locs cells slots (vx_MQ below (fun _ _ _ _ => False) (kq_X D cl A w' "java/lang/IllegalStateException") args s mc ms A) (F0 m pc ls rest) :=
  tm_throw (w := w) tm_p7 (by decide) ty_174 (tm_tx tz_174 hts hG) hl9 hx hb hown hstr hk hini hG hS hsize d0 d3 d4 d6 d9 hEx hRf hRl hRc hRs hlk hP hD hc hs
theorem tz_156 : (tn_at RX4 156 "java/lang/UnsupportedOperationException" 7 Bundle.six tm_up).all (fun w => tables_1.contains w && (goodWord w || tm_xk w)) = true := by decide +kernel
theorem ty_156 : (Cond.classLink RX4 152 "java/lang/UnsupportedOperationException" :: Cond.initialized "java/lang/UnsupportedOperationException" :: tn_at RX4 156 "java/lang/UnsupportedOperationException" 7 Bundle.six tm_up).all vx_ot = true := by decide +kernel
theorem tw_156 {w : Bool} {text : String} {is : Nat} (hts : ∀ w ∈ tm_B, w.before args s = true) (hl9 : l.stackTraces = false) (hx : p.tables.exec = Jvm.exec) (hb : c.code = cc) (hown : s.vm.findClass RX4 = some m.cls) (hstr : vk_R RX4 is text (gs is) s)
    (hk : (Cond.classLink RX4 152 "java/lang/UnsupportedOperationException").before args s = true) (hini : (Cond.initialized "java/lang/UnsupportedOperationException").before args s = true) (hG : tm_G gs A s) (hS : va_S A s.heap H locs) (hsize : ls.size = c.maxLocals)
    (d0 : decode cc pc = .ok (.new 152, 3)) (d3 : decode cc (pc + 3) = .ok (.dup, 1)) (d4 : decode cc (pc + 4) = .ok (if w then .ldc_w is else .ldc is, if w then 3 else 2)) (d6 : decode cc (pc + 4 + (if w then 3 else 2)) = .ok (.invokespecial 156, 3)) (d9 : decode cc (pc + 4 + (if w then 3 else 2) + 3) = .ok (.athrow, 1))
    (hEx : ∀ x ∈ c.exceptionTable.toList, False) (hRf : 6 ≤ R.frames) (hRl : (rest.map fun v => v.category).sum + 82 ≤ R.locals) (hRc : cells + 1 ≤ R.cells) (hRs : slots + 6 ≤ R.slots) (hlk : meth.locks = false)
    (hP : va_P D cl w' H) (hD : va_D A w') {mc ms : Nat} (hc : cells + 1 ≤ mc) (hs : slots + 6 ≤ ms) :
    W p l e R s m args below meth c H locs cells slots (vx_MQ below (fun _ _ _ _ => False) (kq_X D cl A w' "java/lang/UnsupportedOperationException") args s mc ms A) (F0 m pc ls rest) :=
  tm_throw (w := w) tm_p7 (by decide) ty_156 (tm_tx tz_156 hts hG) hl9 hx hb hown hstr hk hini hG hS hsize d0 d3 d4 d6 d9 hEx hRf hRl hRc hRs hlk hP hD hc hs
theorem tz_201 : (tn_at RX4 201 "java/util/NoSuchElementException" 13 tm_r13 tm_up).all (fun w => tables_1.contains w && (goodWord w || tm_xk w)) = true := by decide +kernel
theorem ty_201 : (Cond.classLink RX4 197 "java/util/NoSuchElementException" :: Cond.initialized "java/util/NoSuchElementException" :: tn_at RX4 201 "java/util/NoSuchElementException" 13 tm_r13 tm_up).all vx_ot = true := by decide +kernel
theorem tw_201 {w : Bool} {text : String} {is : Nat} (hts : ∀ w ∈ tm_B, w.before args s = true) (hl9 : l.stackTraces = false) (hx : p.tables.exec = Jvm.exec) (hb : c.code = cc) (hown : s.vm.findClass RX4 = some m.cls) (hstr : vk_R RX4 is text (gs is) s)
    (hk : (Cond.classLink RX4 197 "java/util/NoSuchElementException").before args s = true) (hini : (Cond.initialized "java/util/NoSuchElementException").before args s = true) (hG : tm_G gs A s) (hS : va_S A s.heap H locs) (hsize : ls.size = c.maxLocals)
    (d0 : decode cc pc = .ok (.new 197, 3)) (d3 : decode cc (pc + 3) = .ok (.dup, 1)) (d4 : decode cc (pc + 4) = .ok (if w then .ldc_w is else .ldc is, if w then 3 else 2)) (d6 : decode cc (pc + 4 + (if w then 3 else 2)) = .ok (.invokespecial 201, 3)) (d9 : decode cc (pc + 4 + (if w then 3 else 2) + 3) = .ok (.athrow, 1))
    (hEx : ∀ x ∈ c.exceptionTable.toList, False) (hRf : 6 ≤ R.frames) (hRl : (rest.map fun v => v.category).sum + 82 ≤ R.locals) (hRc : cells + 1 ≤ R.cells) (hRs : slots + 6 ≤ R.slots) (hlk : meth.locks = false)
    (hP : va_P D cl w' H) (hD : va_D A w') {mc ms : Nat} (hc : cells + 1 ≤ mc) (hs : slots + 6 ≤ ms) :
    W p l e R s m args below meth c H locs cells slots (vx_MQ below (fun _ _ _ _ => False) (kq_X D cl A w' "java/util/NoSuchElementException") args s mc ms A) (F0 m pc ls rest) :=
  tm_throw (w := w) tm_p13 (by decide) ty_201 (tm_tx tz_201 hts hG) hl9 hx hb hown hstr hk hini hG hS hsize d0 d3 d4 d6 d9 hEx hRf hRl hRc hRs hlk hP hD hc hs
theorem tz_271 : (tn_at RX4 271 "java/lang/ArithmeticException" 7 Bundle.six tm_up).all (fun w => tables_1.contains w && (goodWord w || tm_xk w)) = true := by decide +kernel
theorem ty_271 : (Cond.classLink RX4 267 "java/lang/ArithmeticException" :: Cond.initialized "java/lang/ArithmeticException" :: tn_at RX4 271 "java/lang/ArithmeticException" 7 Bundle.six tm_up).all vx_ot = true := by decide +kernel
theorem tw_271 {w : Bool} {text : String} {is : Nat} (hts : ∀ w ∈ tm_B, w.before args s = true) (hl9 : l.stackTraces = false) (hx : p.tables.exec = Jvm.exec) (hb : c.code = cc) (hown : s.vm.findClass RX4 = some m.cls) (hstr : vk_R RX4 is text (gs is) s)
    (hk : (Cond.classLink RX4 267 "java/lang/ArithmeticException").before args s = true) (hini : (Cond.initialized "java/lang/ArithmeticException").before args s = true) (hG : tm_G gs A s) (hS : va_S A s.heap H locs) (hsize : ls.size = c.maxLocals)
    (d0 : decode cc pc = .ok (.new 267, 3)) (d3 : decode cc (pc + 3) = .ok (.dup, 1)) (d4 : decode cc (pc + 4) = .ok (if w then .ldc_w is else .ldc is, if w then 3 else 2)) (d6 : decode cc (pc + 4 + (if w then 3 else 2)) = .ok (.invokespecial 271, 3)) (d9 : decode cc (pc + 4 + (if w then 3 else 2) + 3) = .ok (.athrow, 1))
    (hEx : ∀ x ∈ c.exceptionTable.toList, False) (hRf : 6 ≤ R.frames) (hRl : (rest.map fun v => v.category).sum + 82 ≤ R.locals) (hRc : cells + 1 ≤ R.cells) (hRs : slots + 6 ≤ R.slots) (hlk : meth.locks = false)
    (hP : va_P D cl w' H) (hD : va_D A w') {mc ms : Nat} (hc : cells + 1 ≤ mc) (hs : slots + 6 ≤ ms) :
    W p l e R s m args below meth c H locs cells slots (vx_MQ below (fun _ _ _ _ => False) (kq_X D cl A w' "java/lang/ArithmeticException") args s mc ms A) (F0 m pc ls rest) :=
  tm_throw (w := w) tm_p7 (by decide) ty_271 (tm_tx tz_271 hts hG) hl9 hx hb hown hstr hk hini hG hS hsize d0 d3 d4 d6 d9 hEx hRf hRl hRc hRs hlk hP hD hc hs
end TGB
section TGC
abbrev kc_M (l : Launch) (dC : Nat → ClassId) (dI : Nat → Nat → Nat) (gs ad : Nat → Nat) (cc : Nat → ClassId) (y : MethodName) (ws : List Cond) (rm : Room) (As : List Value) (u u' : tm_S) (rv : Option Value) : Prop :=
  kq_M l y ws rm As (dC, dI) vwCl (tc_ty cc) (tm_G gs) (tc_w ad cc u) (tc_w ad cc u') rv
abbrev kc_T (l : Launch) (dC : Nat → ClassId) (dI : Nat → Nat → Nat) (gs ad : Nat → Nat) (cc : Nat → ClassId) (y : MethodName) (ws : List Cond) (rm : Room) (As : List Value) (u u' : tm_S) (E : String) : Prop :=
  kq_T l y ws rm As (dC, dI) vwCl (tc_ty cc) (tm_G gs) (tc_w ad cc u) (tc_w ad cc u') E
abbrev kr_M (l : Launch) (dC : Nat → ClassId) (dI : Nat → Nat → Nat) (ad : Nat → Nat) (cc : Nat → ClassId) (y : MethodName) (ws : List Cond) (rm : Room) (As : List Value) (u u' : tm_S) (rv : Option Value) : Prop :=
  kq_M l y ws rm As (dC, dI) vwCl (tr_ty cc) (fun _ _ => True) (tr_w ad cc u) (tr_w ad cc u') rv
theorem tm_le1 {j n : Nat} (hj : j < n) (hn : n < 2 ^ 31) : nI j ≤ nI n - nI 1 := by
  rw [pk_sub (by omega)]
  exact nI_le (by omega) (by omega)
theorem tm_le2 {x : Int32} {n : Nat} (h : nI n ≤ x) (h0 : 0 < n) (hn : n < 2 ^ 31) : ¬ x < nI 0 := by
  have h1 := nI_toInt hn
  have h2 := Int32.le_iff_toInt_le.mp h
  intro h3
  have h4 := Int32.lt_iff_toInt_lt.mp h3
  have h5 : (nI 0).toInt = 0 := by decide
  omega
theorem tm_le3 {x : Int32} {n : Nat} (h : nI n ≤ x) (h0 : 0 < n) (hn : n < 2 ^ 31) : ¬ x ≤ nI n - nI 1 := by
  rw [pk_sub (by omega)]
  have h1 := nI_toInt hn
  have h2 := Int32.le_iff_toInt_le.mp h
  intro h3
  have h4 := Int32.le_iff_toInt_le.mp h3
  have h5 := nI_toInt (show n - 1 < 2 ^ 31 by omega)
  omega
theorem tm_bn {x : Int32} (h : x = nI 0 ∨ x = nI 1) : narrow .boolean (.int x) = .int x := by
  rcases h with rfl | rfl <;> first | rfl | decide
theorem tm_bf {x : Int32} (h : x = nI 0 ∨ x = nI 1) : fits .boolean (.int x) = true := by
  rcases h with rfl | rfl <;> first | rfl | decide
theorem tm_bv {x : Int32} (h : x = nI 0 ∨ x = nI 1) : vp_nar .boolean x = x := by
  rcases h with rfl | rfl <;> first | rfl | decide
theorem tm_GnX2 {gs : Nat → Nat} {A : Nat → Prop} {s : State} (hG : tm_G gs A s) : va_Nw (.methodLinkNest RX2 30 yX4_hash "TrustModule") s := tm_GX hG (List.mem_filter.mpr ⟨List.elem_iff.mp (by decide +kernel), rfl⟩)
theorem tm_GnX0 {gs : Nat → Nat} {A : Nat → Prop} {s : State} (hG : tm_G gs A s) : va_Nw (.methodLinkNest RX0 19 yX4_hash "TrustModule") s := tm_GX hG (List.mem_filter.mpr ⟨List.elem_iff.mp (by decide +kernel), rfl⟩)
end TGC
