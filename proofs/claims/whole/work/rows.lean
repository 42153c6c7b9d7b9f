section
-- ===== PART A: goes FIRST, ahead of the names: the tables' words, and 'selects' of the private methods out of them =====
/-- a private method of a class that the tables say can be made, by its rows of tables_1 -/
def lw_okq (q : MethodName × Nat) : Prop := (q.1.cls ≠ "java/lang/invoke/MethodHandle" ∧ q.1.cls ≠ "java/lang/invoke/VarHandle") ∧ Cond.instantiable q.1.cls q.2 ∈ tables_1 ∧ Cond.privateMethod q.1 ∈ tables_1 ∧ Cond.instanceMethod q.1 ∈ tables_1
theorem lw_p0 : lw_okq (⟨"TrustModule", "powerComes", "(I)V"⟩, 15) := ⟨⟨by decide +kernel, by decide +kernel⟩, List.mem_of_getElem? (i := 16) (by decide +kernel), List.mem_of_getElem? (i := 129) (by decide +kernel), List.mem_of_getElem? (i := 130) (by decide +kernel)⟩
theorem lw_p1 : lw_okq (⟨"TrustModule", "forgetPcrs", "()V"⟩, 15) := ⟨⟨by decide +kernel, by decide +kernel⟩, List.mem_of_getElem? (i := 16) (by decide +kernel), List.mem_of_getElem? (i := 133) (by decide +kernel), List.mem_of_getElem? (i := 134) (by decide +kernel)⟩
theorem lw_p2 : lw_okq (⟨"TrustModule", "freeHandles", "()V"⟩, 15) := ⟨⟨by decide +kernel, by decide +kernel⟩, List.mem_of_getElem? (i := 16) (by decide +kernel), List.mem_of_getElem? (i := 137) (by decide +kernel), List.mem_of_getElem? (i := 138) (by decide +kernel)⟩
theorem lw_p3 : lw_okq (⟨"TrustModule", "heldKeys", "()I"⟩, 15) := ⟨⟨by decide +kernel, by decide +kernel⟩, List.mem_of_getElem? (i := 16) (by decide +kernel), List.mem_of_getElem? (i := 196) (by decide +kernel), List.mem_of_getElem? (i := 197) (by decide +kernel)⟩
theorem lw_p4 : lw_okq (⟨"TrustModule", "definedIndices", "()I"⟩, 15) := ⟨⟨by decide +kernel, by decide +kernel⟩, List.mem_of_getElem? (i := 16) (by decide +kernel), List.mem_of_getElem? (i := 200) (by decide +kernel), List.mem_of_getElem? (i := 201) (by decide +kernel)⟩
theorem lw_p5 : lw_okq (⟨"TrustModule", "madeBlobs", "()I"⟩, 15) := ⟨⟨by decide +kernel, by decide +kernel⟩, List.mem_of_getElem? (i := 16) (by decide +kernel), List.mem_of_getElem? (i := 204) (by decide +kernel), List.mem_of_getElem? (i := 205) (by decide +kernel)⟩
theorem lw_p6 : lw_okq (⟨"java/lang/Throwable", "fillInStackTrace", "(I)Ljava/lang/Throwable;"⟩, 6) := ⟨⟨by decide +kernel, by decide +kernel⟩, List.mem_of_getElem? (i := 266) (by decide +kernel), List.mem_of_getElem? (i := 264) (by decide +kernel), List.mem_of_getElem? (i := 265) (by decide +kernel)⟩
theorem lw_p7 : lw_okq (⟨"TrustModule", "refuseWhenLost", "()V"⟩, 15) := ⟨⟨by decide +kernel, by decide +kernel⟩, List.mem_of_getElem? (i := 16) (by decide +kernel), List.mem_of_getElem? (i := 307) (by decide +kernel), List.mem_of_getElem? (i := 308) (by decide +kernel)⟩
theorem lw_p8 : lw_okq (⟨"TrustModule", "leastFreeHandle", "()I"⟩, 15) := ⟨⟨by decide +kernel, by decide +kernel⟩, List.mem_of_getElem? (i := 16) (by decide +kernel), List.mem_of_getElem? (i := 334) (by decide +kernel), List.mem_of_getElem? (i := 335) (by decide +kernel)⟩
theorem lw_p9 : lw_okq (⟨"TrustModule", "heldKey", "(I)LTrustModule$Key;"⟩, 15) := ⟨⟨by decide +kernel, by decide +kernel⟩, List.mem_of_getElem? (i := 16) (by decide +kernel), List.mem_of_getElem? (i := 352) (by decide +kernel), List.mem_of_getElem? (i := 353) (by decide +kernel)⟩
theorem lw_p10 : lw_okq (⟨"TrustModule", "madeBlob", "(I)LTrustModule$Blob;"⟩, 15) := ⟨⟨by decide +kernel, by decide +kernel⟩, List.mem_of_getElem? (i := 16) (by decide +kernel), List.mem_of_getElem? (i := 410) (by decide +kernel), List.mem_of_getElem? (i := 411) (by decide +kernel)⟩
theorem lw_p11 : lw_okq (⟨"TrustModule", "allowByWord", "(LTrustModule$Key;I)V"⟩, 15) := ⟨⟨by decide +kernel, by decide +kernel⟩, List.mem_of_getElem? (i := 16) (by decide +kernel), List.mem_of_getElem? (i := 464) (by decide +kernel), List.mem_of_getElem? (i := 465) (by decide +kernel)⟩
theorem lw_p12 : lw_okq (⟨"TrustModule", "allowBySession", "(JLTrustModule$Session;)V"⟩, 15) := ⟨⟨by decide +kernel, by decide +kernel⟩, List.mem_of_getElem? (i := 16) (by decide +kernel), List.mem_of_getElem? (i := 477) (by decide +kernel), List.mem_of_getElem? (i := 478) (by decide +kernel)⟩
theorem lw_p13 : lw_okq (⟨"TrustModule", "hashOfPcrs", "(II)J"⟩, 15) := ⟨⟨by decide +kernel, by decide +kernel⟩, List.mem_of_getElem? (i := 16) (by decide +kernel), List.mem_of_getElem? (i := 498) (by decide +kernel), List.mem_of_getElem? (i := 499) (by decide +kernel)⟩
theorem lw_p14 : lw_okq (⟨"TrustModule", "useParts", "(I)V"⟩, 15) := ⟨⟨by decide +kernel, by decide +kernel⟩, List.mem_of_getElem? (i := 16) (by decide +kernel), List.mem_of_getElem? (i := 532) (by decide +kernel), List.mem_of_getElem? (i := 533) (by decide +kernel)⟩
theorem lw_p15 : lw_okq (⟨"TrustModule", "definedIndex", "(I)LTrustModule$Index;"⟩, 15) := ⟨⟨by decide +kernel, by decide +kernel⟩, List.mem_of_getElem? (i := 16) (by decide +kernel), List.mem_of_getElem? (i := 548) (by decide +kernel), List.mem_of_getElem? (i := 549) (by decide +kernel)⟩
def lw_privs_1 : List (MethodName × Nat) := [(⟨"TrustModule", "powerComes", "(I)V"⟩, 15), (⟨"TrustModule", "forgetPcrs", "()V"⟩, 15), (⟨"TrustModule", "freeHandles", "()V"⟩, 15), (⟨"TrustModule", "heldKeys", "()I"⟩, 15), (⟨"TrustModule", "definedIndices", "()I"⟩, 15), (⟨"TrustModule", "madeBlobs", "()I"⟩, 15), (⟨"java/lang/Throwable", "fillInStackTrace", "(I)Ljava/lang/Throwable;"⟩, 6), (⟨"TrustModule", "refuseWhenLost", "()V"⟩, 15), (⟨"TrustModule", "leastFreeHandle", "()I"⟩, 15), (⟨"TrustModule", "heldKey", "(I)LTrustModule$Key;"⟩, 15), (⟨"TrustModule", "madeBlob", "(I)LTrustModule$Blob;"⟩, 15), (⟨"TrustModule", "allowByWord", "(LTrustModule$Key;I)V"⟩, 15), (⟨"TrustModule", "allowBySession", "(JLTrustModule$Session;)V"⟩, 15), (⟨"TrustModule", "hashOfPcrs", "(II)J"⟩, 15), (⟨"TrustModule", "useParts", "(I)V"⟩, 15), (⟨"TrustModule", "definedIndex", "(I)LTrustModule$Index;"⟩, 15)]
theorem lw_r1 : ∀ q ∈ lw_privs_1, lw_okq q := List.forall_mem_cons.mpr ⟨lw_p0, List.forall_mem_cons.mpr ⟨lw_p1, List.forall_mem_cons.mpr ⟨lw_p2, List.forall_mem_cons.mpr ⟨lw_p3, List.forall_mem_cons.mpr ⟨lw_p4, List.forall_mem_cons.mpr ⟨lw_p5, List.forall_mem_cons.mpr ⟨lw_p6, List.forall_mem_cons.mpr ⟨lw_p7, List.forall_mem_cons.mpr ⟨lw_p8, List.forall_mem_cons.mpr ⟨lw_p9, List.forall_mem_cons.mpr ⟨lw_p10, List.forall_mem_cons.mpr ⟨lw_p11, List.forall_mem_cons.mpr ⟨lw_p12, List.forall_mem_cons.mpr ⟨lw_p13, List.forall_mem_cons.mpr ⟨lw_p14, List.forall_mem_cons.mpr ⟨lw_p15, fun _ h => absurd h List.not_mem_nil⟩⟩⟩⟩⟩⟩⟩⟩⟩⟩⟩⟩⟩⟩⟩⟩
theorem lw_p16 : lw_okq (⟨"TrustModule", "nextCounted", "()J"⟩, 15) := ⟨⟨by decide +kernel, by decide +kernel⟩, List.mem_of_getElem? (i := 16) (by decide +kernel), List.mem_of_getElem? (i := 560) (by decide +kernel), List.mem_of_getElem? (i := 561) (by decide +kernel)⟩
theorem lw_p17 : lw_okq (⟨"TrustModule", "forgiveGuesses", "()V"⟩, 15) := ⟨⟨by decide +kernel, by decide +kernel⟩, List.mem_of_getElem? (i := 16) (by decide +kernel), List.mem_of_getElem? (i := 579) (by decide +kernel), List.mem_of_getElem? (i := 580) (by decide +kernel)⟩
theorem lw_p18 : lw_okq (⟨"TrustModule", "setPace", "(D)V"⟩, 15) := ⟨⟨by decide +kernel, by decide +kernel⟩, List.mem_of_getElem? (i := 16) (by decide +kernel), List.mem_of_getElem? (i := 585) (by decide +kernel), List.mem_of_getElem? (i := 586) (by decide +kernel)⟩
theorem lw_p19 : lw_okq (⟨"TrustModuleModel", "mix", "(JJ)J"⟩, 28) := ⟨⟨by decide +kernel, by decide +kernel⟩, List.mem_of_getElem? (i := 609) (by decide +kernel), List.mem_of_getElem? (i := 615) (by decide +kernel), List.mem_of_getElem? (i := 616) (by decide +kernel)⟩
theorem lw_p20 : lw_okq (⟨"TrustModuleModel", "come", "()V"⟩, 28) := ⟨⟨by decide +kernel, by decide +kernel⟩, List.mem_of_getElem? (i := 609) (by decide +kernel), List.mem_of_getElem? (i := 622) (by decide +kernel), List.mem_of_getElem? (i := 623) (by decide +kernel)⟩
theorem lw_p21 : lw_okq (⟨"TrustModuleModel", "anew", "(I)V"⟩, 28) := ⟨⟨by decide +kernel, by decide +kernel⟩, List.mem_of_getElem? (i := 609) (by decide +kernel), List.mem_of_getElem? (i := 627) (by decide +kernel), List.mem_of_getElem? (i := 628) (by decide +kernel)⟩
theorem lw_p22 : lw_okq (⟨"TrustModuleModel", "out", "(II)Z"⟩, 28) := ⟨⟨by decide +kernel, by decide +kernel⟩, List.mem_of_getElem? (i := 609) (by decide +kernel), List.mem_of_getElem? (i := 730) (by decide +kernel), List.mem_of_getElem? (i := 731) (by decide +kernel)⟩
theorem lw_p23 : lw_okq (⟨"TrustModuleModel", "begin", "(Z)Z"⟩, 28) := ⟨⟨by decide +kernel, by decide +kernel⟩, List.mem_of_getElem? (i := 609) (by decide +kernel), List.mem_of_getElem? (i := 734) (by decide +kernel), List.mem_of_getElem? (i := 735) (by decide +kernel)⟩
theorem lw_p24 : lw_okq (⟨"TrustModuleModel", "key", "(JIJJZ)I"⟩, 28) := ⟨⟨by decide +kernel, by decide +kernel⟩, List.mem_of_getElem? (i := 609) (by decide +kernel), List.mem_of_getElem? (i := 742) (by decide +kernel), List.mem_of_getElem? (i := 743) (by decide +kernel)⟩
theorem lw_p25 : lw_okq (⟨"TrustModuleModel", "room", "()I"⟩, 28) := ⟨⟨by decide +kernel, by decide +kernel⟩, List.mem_of_getElem? (i := 609) (by decide +kernel), List.mem_of_getElem? (i := 746) (by decide +kernel), List.mem_of_getElem? (i := 747) (by decide +kernel)⟩
theorem lw_p26 : lw_okq (⟨"TrustModuleModel", "seal", "(II)J"⟩, 28) := ⟨⟨by decide +kernel, by decide +kernel⟩, List.mem_of_getElem? (i := 609) (by decide +kernel), List.mem_of_getElem? (i := 755) (by decide +kernel), List.mem_of_getElem? (i := 756) (by decide +kernel)⟩
theorem lw_p27 : lw_okq (⟨"TrustModuleModel", "allowed", "(II)I"⟩, 28) := ⟨⟨by decide +kernel, by decide +kernel⟩, List.mem_of_getElem? (i := 609) (by decide +kernel), List.mem_of_getElem? (i := 776) (by decide +kernel), List.mem_of_getElem? (i := 777) (by decide +kernel)⟩
theorem lw_p28 : lw_okq (⟨"TrustModuleModel", "satisfied", "(IJ)I"⟩, 28) := ⟨⟨by decide +kernel, by decide +kernel⟩, List.mem_of_getElem? (i := 609) (by decide +kernel), List.mem_of_getElem? (i := 784) (by decide +kernel), List.mem_of_getElem? (i := 785) (by decide +kernel)⟩
theorem lw_p29 : lw_okq (⟨"TrustModuleModel", "name", "(I)J"⟩, 28) := ⟨⟨by decide +kernel, by decide +kernel⟩, List.mem_of_getElem? (i := 609) (by decide +kernel), List.mem_of_getElem? (i := 807) (by decide +kernel), List.mem_of_getElem? (i := 808) (by decide +kernel)⟩
theorem lw_p30 : lw_okq (⟨"TrustModuleModel", "lasts", "(I)Z"⟩, 28) := ⟨⟨by decide +kernel, by decide +kernel⟩, List.mem_of_getElem? (i := 609) (by decide +kernel), List.mem_of_getElem? (i := 815) (by decide +kernel), List.mem_of_getElem? (i := 816) (by decide +kernel)⟩
def lw_privs_2 : List (MethodName × Nat) := [(⟨"TrustModule", "nextCounted", "()J"⟩, 15), (⟨"TrustModule", "forgiveGuesses", "()V"⟩, 15), (⟨"TrustModule", "setPace", "(D)V"⟩, 15), (⟨"TrustModuleModel", "mix", "(JJ)J"⟩, 28), (⟨"TrustModuleModel", "come", "()V"⟩, 28), (⟨"TrustModuleModel", "anew", "(I)V"⟩, 28), (⟨"TrustModuleModel", "out", "(II)Z"⟩, 28), (⟨"TrustModuleModel", "begin", "(Z)Z"⟩, 28), (⟨"TrustModuleModel", "key", "(JIJJZ)I"⟩, 28), (⟨"TrustModuleModel", "room", "()I"⟩, 28), (⟨"TrustModuleModel", "seal", "(II)J"⟩, 28), (⟨"TrustModuleModel", "allowed", "(II)I"⟩, 28), (⟨"TrustModuleModel", "satisfied", "(IJ)I"⟩, 28), (⟨"TrustModuleModel", "name", "(I)J"⟩, 28), (⟨"TrustModuleModel", "lasts", "(I)Z"⟩, 28)]
theorem lw_r2 : ∀ q ∈ lw_privs_2, lw_okq q := List.forall_mem_cons.mpr ⟨lw_p16, List.forall_mem_cons.mpr ⟨lw_p17, List.forall_mem_cons.mpr ⟨lw_p18, List.forall_mem_cons.mpr ⟨lw_p19, List.forall_mem_cons.mpr ⟨lw_p20, List.forall_mem_cons.mpr ⟨lw_p21, List.forall_mem_cons.mpr ⟨lw_p22, List.forall_mem_cons.mpr ⟨lw_p23, List.forall_mem_cons.mpr ⟨lw_p24, List.forall_mem_cons.mpr ⟨lw_p25, List.forall_mem_cons.mpr ⟨lw_p26, List.forall_mem_cons.mpr ⟨lw_p27, List.forall_mem_cons.mpr ⟨lw_p28, List.forall_mem_cons.mpr ⟨lw_p29, List.forall_mem_cons.mpr ⟨lw_p30, fun _ h => absurd h List.not_mem_nil⟩⟩⟩⟩⟩⟩⟩⟩⟩⟩⟩⟩⟩⟩⟩
def lw_privs : List (MethodName × Nat) := lw_privs_1 ++ (lw_privs_2)
def lw_tbl : List Cond := k2_sels lw_privs ++ tables_1
theorem lw_privs_ok : ∀ q ∈ lw_privs, lw_okq q := by
  show ∀ q ∈ lw_privs_1 ++ (lw_privs_2), lw_okq q
  exact List.forall_mem_append.mpr ⟨lw_r1, lw_r2⟩

/-! ===== BEGIN words of one list among another's, by their places ===== -/
theorem goodIn_r {big : List Cond} (ws : List Cond) (ps : List Nat) (hp : ws = ps.filterMap (fun i => big[i]?)) (h : ws.all goodWord = true) : GoodIn big ws := by
  intro w hw
  have h1 := List.all_eq_true.mp h w hw
  rw [hp] at hw
  obtain ⟨i, -, hi⟩ := List.mem_filterMap.mp hw
  have hm : w ∈ big := by first | exact List.mem_of_getElem? hi | exact List.getElem?_mem hi
  exact ⟨hm, good_of_word h1⟩
theorem goodIn_app {big a b : List Cond} (ha : GoodIn big a) (hb : GoodIn big b) : GoodIn big (a ++ b) := fun w h => (List.mem_append.mp h).elim (ha w) (hb w)
theorem goodIn_ca {big a b : List Cond} {c : Cond} (ha : GoodIn big (c :: a)) (hb : GoodIn big b) : GoodIn big (c :: (a ++ b)) := fun w h => (List.mem_cons.mp h).elim (fun e => ha w (List.mem_cons.mpr (Or.inl e))) (fun h => (List.mem_append.mp h).elim (fun h => ha w (List.mem_cons.mpr (Or.inr h))) (hb w))
theorem goodIn_sub {big ws : List Cond} (hm : ∀ w ∈ ws, w ∈ big) (h : ws.all goodWord = true) : GoodIn big ws := fun w hw => ⟨hm w hw, good_of_word (List.all_eq_true.mp h w hw)⟩
/-! ===== END ===== -/

/-! ===== BEGIN new T[n][m]: the outer array a place, the inner ones among the pooled ===== -/
/-- f, but v at every address of l -/
def vr_up {α : Type} (f : Nat → α) (l : List Nat) (v : α) : Nat → α := fun a => if a ∈ l then v else f a
theorem vr_up_in {α : Type} {f : Nat → α} {l : List Nat} {v : α} {a : Nat} (h : a ∈ l) : vr_up f l v a = v := if_pos h
theorem vr_up_ne {α : Type} {f : Nat → α} {l : List Nat} {v : α} {a : Nat} (h : a ∉ l) : vr_up f l v a = f a := if_neg h
theorem vr_rows {L l : List Nat} {f : Nat → va_E} {e : va_E} (h : ∀ a, a ∈ l → a ∉ L) : va_pl L f ++ l.map (fun a => (a, e)) = va_pl (L ++ l) (vr_up f l e) := by
  unfold va_pl
  rw [List.map_append]
  congr 1
  · apply List.map_congr_left
    intro a ha
    rw [vr_up_ne (fun q => h a q ha)]
  · apply List.map_congr_left
    intro a ha
    rw [vr_up_in ha]
theorem vr_lay {X rows : va_W} {x : Nat × va_E} {pl : va_W} {D : va_G} {cl : List vw_C} {H : Heap} (hP : va_P D cl (((X ++ pl) ++ [x]) ++ rows) H) : va_P D cl ((X ++ [x]) ++ (pl ++ rows)) H := by
  rw [List.append_assoc (X ++ pl)] at hP
  have h := va_P.swap hP
  rw [← List.append_assoc X] at h
  have h2 := va_P.swap h
  rw [List.append_assoc (X ++ [x])] at h2
  exact h2
theorem vr_layD {X rows : va_W} {x : Nat × va_E} {pl : va_W} {A : Nat → Prop} (hD : va_D A (((X ++ pl) ++ [x]) ++ rows)) : va_D A ((X ++ [x]) ++ (pl ++ rows)) := by
  rw [List.append_assoc (X ++ pl)] at hD
  have h := va_D.swap hD
  rw [← List.append_assoc X] at h
  have h2 := va_D.swap h
  rw [List.append_assoc (X ++ [x])] at h2
  exact h2
theorem vr_outer (c : ClassId) (N h0 : Nat) : ∀ i : Nat, Jvm.Free.Multi.outerC c N h0 i = arrV c N (fun j => va_rf (if j < i then some (h0 + 1 + j) else none))
  | 0 => by
    show ({ cls := c, slots := Array.replicate N .null, vm := .none } : Cell) = _
    rw [arrV_new]
    refine congrArg (arrV c N) (funext fun j => ?_)
    simp [va_rf]
  | i + 1 => by
    show (Jvm.Free.Multi.outerC c N h0 i).setSlot i (.ref (h0 + 1 + i)) = _
    rw [vr_outer c N h0 i, arrV_store]
    refine congrArg (arrV c N) (funext fun j => ?_)
    by_cases e : j = i
    · subst e
      simp [updV, va_rf]
    · by_cases h : j < i
      · simp [updV, e, h, Nat.lt_succ_of_lt h]
      · simp [updV, e, h, show ¬ j < i + 1 by omega]
/-- the class of the arrays of arrays of t is there -/
def va_AOA (t : FieldType) (U : State) : Prop := (Cond.arrayOver (.array t)).before #[] U = true
theorem va_AOA.use {t : FieldType} {A : Array Value} {U : State} (h : va_AOA t U) : (Cond.arrayOver (.array t)).before A U = true := h
section VGM
variable {p : Program} {l : Launch} {e : Env} {R : Room} {s : State} {m : MethodId} {args : Array Value} {below : List Frame} {meth : Method} {c : Code} {H : Heap} {locs : List Loc} {cells slots : Nat} {Q : State → Prop}
variable {cc : ByteArray} {pc : Nat} {ls : Array Slot} {rest : List Value} {D : va_G} {cl : List vw_C} {A : Nat → Prop} {a : Nat} {tys : List (ClassId × FieldType)} {ws : va_W} {H0 : Heap}
theorem va_mna {X : va_W} {L : List Nat} {f : Nat → va_E} {cc : ByteArray} (hexec : p.tables.exec = Jvm.exec) (hb : c.code = cc) {own : String} {index : Nat} {ty : FieldType} {cy : ClassId} (hown : s.vm.findClass own = some m.cls) (hclink : (Cond.classLink own index ("[" ++ (FieldType.array ty).toString)).before args s = true) (hover : va_AOA ty s) (harr : (Cond.arrayClass ty).before args s = true) (hcy : s.vm.findClass (FieldType.array ty).toString = some cy)
    (hK : va_K D cl tys s) (hP : va_P D cl (X ++ va_pl L f) H) (hD : va_D A (X ++ va_pl L f)) (hS : va_S A H0 H locs) (hA : ∀ q, H0.size ≤ q → A q) {n k : Int32} {N' K' : Nat} {z : vp_A} (hn : ¬ n < 0) (hk : ¬ k < 0) (hN : n.toNatClampNeg = N') (hM : k.toNatClampNeg = K')
    (hb1 : N' * 4 ≤ 536870912) (hb2 : K' * componentBytes ty ≤ 536870912) (hb3 : K' ≤ 536870912) (hdf : fits ty (defaultValue ty) = true) (hdd : (defaultValue ty).isDefault = true) (hcells : cells + (1 + N') ≤ R.cells) (hslots : slots + (N' + N' * K') ≤ R.slots) (hz : ∀ c : ClassId, Jvm.Free.Multi.innerC c K' (defaultValue ty) = vp_cell c z) (hdg : decode cc pc = .ok (.multianewarray index 2, 4))
    (kk : ∀ (q : Nat) (r : Nat → Nat) (cA : ClassId) (H1 : Heap), (∀ i j : Nat, i < N' → j < N' → r i = r j → i = j) → (∀ i : Nat, i < N' → r i ∉ L) → va_K D cl (tys ++ [(cA, .array ty)]) s →
      va_P D cl ((X ++ [(q, .inl (cA, N', .inr (.inr (.inr (.inr (fun i => if i < N' then some (r i) else none))))))]) ++ va_pl (L ++ (List.range N').map r) (vr_up f ((List.range N').map r) (.inl (cy, z)))) H1 → va_D A ((X ++ [(q, .inl (cA, N', .inr (.inr (.inr (.inr (fun i => if i < N' then some (r i) else none))))))]) ++ va_pl (L ++ (List.range N').map r) (vr_up f ((List.range N').map r) (.inl (cy, z)))) → va_S A H0 H1 locs →
      W p l e R s m args below meth c H1 locs (cells + 1 + N') (slots + N' + N' * K') Q (F0 m (pc + 4) ls (.ref q :: rest))) : W p l e R s m args below meth c H locs cells slots Q (F0 m pc ls (.int k :: .int n :: rest)) := by
  subst hN
  subst hM
  intro T hT Xs
  obtain ⟨vm₁, cA, comp, -, fA, fC, hO, -, X', step⟩ := Xs.multianewarray2F hexec hown hclink (va_AOA.use hover) harr (g := F0 m pc ls (.int k :: .int n :: rest)) rfl (by rw [hb]; exact hdg) rfl hn hk hb1 hb2 hb3 hdf hdd hcells hslots
  have ec : some cy = some comp := hcy.symm.trans fC
  cases ec
  generalize hF : Jvm.Free.Multi.fill (T.setVm vm₁) cA cy n.toNatClampNeg k.toNatClampNeg (defaultValue ty) n.toNatClampNeg = F at X' step
  have hTh : (T.setVm vm₁).heap = H := hT
  obtain ⟨f1, f2, -, -⟩ := Jvm.Free.Multi.fill_facts (T.setVm vm₁) cA cy n.toNatClampNeg k.toNatClampNeg (defaultValue ty) n.toNatClampNeg
  rw [hF, hTh] at f1 f2
  have hold : ∀ x : Nat, x < H.size → F.heap[x]? = H[x]? := fun x hx => by
    have := Jvm.Free.Multi.fill_old (T.setVm vm₁) cA cy n.toNatClampNeg k.toNatClampNeg (defaultValue ty) (a := x) (by rw [hTh]; exact hx) n.toNatClampNeg
    rw [hF, hTh] at this
    exact this
  have hrow : ∀ j : Nat, j < n.toNatClampNeg → F.heap[H.size + 1 + j]? = some (vp_cell cy z) := fun j hj => by
    have := Jvm.Free.Multi.fill_inner (T.setVm vm₁) cA cy n.toNatClampNeg k.toNatClampNeg (defaultValue ty) n.toNatClampNeg j hj
    rw [hF, hTh, hz] at this
    exact this
  have hout : Jvm.Free.Multi.outerC cA n.toNatClampNeg H.size n.toNatClampNeg = vp_cell cA (n.toNatClampNeg, .inr (.inr (.inr (.inr (fun i => if i < n.toNatClampNeg then some (H.size + 1 + i) else none))))) := by
    rw [vp_cell_q]
    exact vr_outer cA n.toNatClampNeg H.size n.toNatClampNeg
  rw [hout] at f2
  have hlt : ∀ a, a ∈ L → a < H.size := fun a ha => by
    obtain ⟨k9, hk9⟩ := va_pl_get (X := X) (f := f) ha
    exact (hP k9 _ hk9).lt
  have hnl : ∀ i : Nat, i < n.toNatClampNeg → H.size + 1 + i ∉ L := fun i _ h => by
    have := hlt _ h
    omega
  have hnm : ∀ a, a ∈ (List.range n.toNatClampNeg).map (fun i => H.size + 1 + i) → a ∉ L := fun a ha h => by
    obtain ⟨i, -, rfl⟩ := List.mem_map.mp ha
    have := hlt _ h
    omega
  have hP0 : va_P D cl (X ++ va_pl L f) F.heap := hP.kept (fun k9 x hx => hold x.1 ((hP k9 x hx).lt))
  have hP1 : va_P D cl ((X ++ va_pl L f) ++ [(H.size, .inl (cA, n.toNatClampNeg, .inr (.inr (.inr (.inr (fun i => if i < n.toNatClampNeg then some (H.size + 1 + i) else none))))))]) F.heap := hP0.app (fun k9 x hx => by
    have h0 : k9 < 1 := (List.getElem?_eq_some_iff.mp hx).1
    rw [show k9 = 0 by omega] at hx
    cases hx
    exact f2)
  have hP2 : va_P D cl (((X ++ va_pl L f) ++ [(H.size, .inl (cA, n.toNatClampNeg, .inr (.inr (.inr (.inr (fun i => if i < n.toNatClampNeg then some (H.size + 1 + i) else none))))))]) ++ ((List.range n.toNatClampNeg).map (fun i => H.size + 1 + i)).map (fun a => (a, .inl (cy, z)))) F.heap := hP1.app (fun k9 x hx => by
    obtain ⟨a, ha, rfl⟩ := List.mem_map.mp (List.mem_of_getElem? hx)
    obtain ⟨i, hi, rfl⟩ := List.mem_map.mp ha
    exact hrow i (List.mem_range.mp hi))
  have hD2 : va_D A (((X ++ va_pl L f) ++ [(H.size, .inl (cA, n.toNatClampNeg, .inr (.inr (.inr (.inr (fun i => if i < n.toNatClampNeg then some (H.size + 1 + i) else none))))))]) ++ ((List.range n.toNatClampNeg).map (fun i => H.size + 1 + i)).map (fun a => (a, .inl (cy, z)))) := by
    have hD1 := hD.push (e := .inl (cA, n.toNatClampNeg, .inr (.inr (.inr (.inr (fun i => if i < n.toNatClampNeg then some (H.size + 1 + i) else none)))))) hP rfl (hA _ hS.1)
    generalize hW1 : (X ++ va_pl L f) ++ [(H.size, .inl (cA, n.toNatClampNeg, .inr (.inr (.inr (.inr (fun i => if i < n.toNatClampNeg then some (H.size + 1 + i) else none))))))] = W1 at hD1 hP1 ⊢
    have hle : ∀ (k9 : Nat) (x : Nat × va_E), W1[k9]? = some x → x.1 ≤ H.size := fun k9 x hx => by
      rw [← hW1] at hx
      by_cases hl : k9 < (X ++ va_pl L f).length
      · rw [List.getElem?_append_left hl] at hx
        exact Nat.le_of_lt ((hP k9 x hx).lt)
      · rw [List.getElem?_append_right (by omega)] at hx
        have h0 : k9 - (X ++ va_pl L f).length < 1 := (List.getElem?_eq_some_iff.mp hx).1
        rw [show k9 - (X ++ va_pl L f).length = 0 by omega] at hx
        cases hx
        exact Nat.le_refl _
    have hr : ∀ (k9 : Nat) (x : Nat × va_E), (((List.range n.toNatClampNeg).map (fun i => H.size + 1 + i)).map (fun a => ((a, .inl (cy, z)) : Nat × va_E)))[k9]? = some x → x.1 = H.size + 1 + k9 := fun k9 x hx => by
      rw [List.getElem?_map, List.getElem?_map] at hx
      by_cases h9 : k9 < n.toNatClampNeg
      · rw [List.getElem?_range h9] at hx
        cases hx
        rfl
      · have hn0 : (List.range n.toNatClampNeg)[k9]? = none := List.getElem?_eq_none (by rw [List.length_range]; omega)
        rw [hn0] at hx
        cases hx
    refine ⟨fun i j x y hi hj hxy => ?_, fun k9 x hx => ?_⟩
    · by_cases h1 : i < W1.length <;> by_cases h2 : j < W1.length
      · rw [List.getElem?_append_left h1] at hi
        rw [List.getElem?_append_left h2] at hj
        exact hD1.1 i j x y hi hj hxy
      · rw [List.getElem?_append_left h1] at hi
        rw [List.getElem?_append_right (by omega)] at hj
        have := hle _ _ hi
        have := hr _ _ hj
        omega
      · rw [List.getElem?_append_right (by omega)] at hi
        rw [List.getElem?_append_left h2] at hj
        have := hle _ _ hj
        have := hr _ _ hi
        omega
      · rw [List.getElem?_append_right (by omega)] at hi hj
        have := hr _ _ hi
        have := hr _ _ hj
        omega
    · by_cases h1 : k9 < W1.length
      · rw [List.getElem?_append_left h1] at hx
        exact hD1.2 k9 x hx
      · rw [List.getElem?_append_right (by omega)] at hx
        have := hr _ _ hx
        exact hA _ (by have := hS.1; omega)
  have hAr : ArrOfT s cA (.array ty) := fun N9 z9 => by
    obtain ⟨-, k9, hk9, cm9, hkk9⟩ := (hO 0 0 0).1
    exact ⟨(fun q hq => by cases hq), k9, hk9, cm9, hkk9⟩
  have hK2 : va_K D cl (tys ++ [(cA, .array ty)]) s := ⟨hK.1, fun k9 x hx => by
    by_cases hl : k9 < tys.length
    · rw [List.getElem?_append_left hl] at hx
      exact hK.2 k9 x hx
    · rw [List.getElem?_append_right (by omega)] at hx
      have h0 : k9 - tys.length < 1 := (List.getElem?_eq_some_iff.mp hx).1
      rw [show k9 - tys.length = 0 by omega] at hx
      cases hx
      exact ⟨hAr, fA⟩⟩
  obtain ⟨t, a1, b1⟩ := kk H.size (fun i => H.size + 1 + i) cA F.heap (fun i j _ _ h => by have h9 : H.size + 1 + i = H.size + 1 + j := h; omega) hnl hK2 (by rw [← vr_rows hnm]; exact vr_lay hP2) (by rw [← vr_rows hnm]; exact vr_layD hD2) ⟨by rw [f1]; have := hS.1; omega, fun x h1 h2 => (hold x (Nat.lt_of_lt_of_le h1 hS.1)).trans (hS.2.1 x h1 h2), hS.2.2⟩ F rfl X'
  refine ⟨t, step t ?_, b1⟩
  have e : T.heap.size = H.size := by rw [hT]
  rw [e]
  exact a1
end VGM
/-! ===== END ===== -/

/-! ===== BEGIN exceptions that leave a method, and their catching by the caller (launches without stack traces) ===== -/
section VXA
/-! The laws vx_back, vx_callV, vx_callS, vx_callSW, vx_throw0, vx_throwS follow proofs of the library, with one case more: JvmDerived/Free/Laws.lean (Back.of_free), Shelf42/LK1.lean (callV, callS), Shelf/KitTraced.lean (throwNew0V, throwNewS). -/
/-- where a method has thrown q: the class by its name, the cell, what was written, the world -/
def vx_T (XC : String → State → State → Prop) (st : State) (q : Addr) (t : State) (mc ms : Nat) (free : Addr → Prop) : Prop :=
  ∃ (E : String) (ce : Cell) (L : List Loc), XC E st t ∧ t.heap[q]? = some ce ∧ ce.vm = .none ∧ st.vm.findClass E = some ce.cls ∧ st.WarmedH t.vm ∧ st.sameButNew ({ t with vm := st.vm } : State) L mc ms ∧ ∀ z ∈ L, free z.base
def vx_Q (Qc : Array Value → State → Outcome → State → Prop) (XC : String → State → State → Prop) (mc ms : Nat) (free : Addr → Prop) : Array Value → State → Outcome → State → Prop := fun a st o t =>
  (Qc a st o t ∧ ∃ L, FrameEnd st o t L mc ms ∧ ∀ q ∈ L, free q.base) ∨ ∃ q, o = .threw q ∧ vx_T XC st q t mc ms free
/-- a callee that returns or throws -/
def vx_Met (l : Launch) (y : MethodName) (ws : List Cond) (rm : Room) (Pc : Array Value → State → Prop) (Qc : Array Value → State → Outcome → State → Prop) (XC : String → State → State → Prop) (mc ms : Nat) (free : Addr → Prop) : Prop :=
  MetFree l y (headSpec ws rm) Pc (fun _ _ _ _ _ => True) (vx_Q Qc XC mc ms free)
def vx_Post (XC : String → State → State → Prop) (mc ms : Nat) (free : Addr → Prop) : Pt → Array Value → Addr → Pt → Prop := fun A a q B =>
  ∃ (g : JFrame) (mk : MethodId) (t : State) (L : List Loc) (E : String) (ce : Cell), B.U.heap = t.heap ∧ B.U.vm = t.vm ∧ XC E (A.U.calling g mk a) t ∧ t.heap[q]? = some ce ∧ ce.vm = .none ∧ A.U.vm.findClass E = some ce.cls ∧ B.locs = A.locs ++ L ∧ (∀ z ∈ L, free z.base) ∧ B.cells = A.cells + mc ∧ B.slots = A.slots + ms
def vx_Back (l : Launch) (R : Room) (p : Program) (e : Env) (below : List Frame) (s : State) (sargs : Array Value) (y : MethodName) (len W9 : Nat)
    (Pre : Pt → Array Value → Prop) (Post : Pt → Array Value → Option Value → Pt → Prop) (PostX : Pt → Array Value → Addr → Pt → Prop) : Prop :=
  ∀ (m : MethodId) (meth : Method) (c : Code) (A : Pt) (g : JFrame) (ig : Instr) (mk : MethodId) (a : Array Value),
    Stand p l e R s m sargs below meth c A.U A.locs A.cells A.slots → g.method = m → g.locals.size = c.maxLocals → decode c.code g.pc = .ok (ig, len) →
    2 * g.monitorRoom + (g.stack.map fun v => v.category).sum ≤ W9 → A.U.methodNamed? y = some mk → Pre A a →
    (∃ (v : Option Value) (B : Pt), Stand p l e R s m sargs below meth c B.U B.locs B.cells B.slots ∧ Post A a v B ∧
      Steps p.tables e below (doInvoke e (A.U.setTop g) [] mk a).1 (B.U.setTop { g with pc := g.pc + len, stack := v.toList ++ g.stack })) ∨
    (∃ (q : Addr) (B : Pt), Stand p l e R s m sargs below meth c B.U B.locs B.cells B.slots ∧ PostX A a q B ∧
      Steps p.tables e below (doInvoke e (A.U.setTop g) [] mk a).1 ((B.U.setTop g).pushFrame (.throwing q)))
section Payer
variable {l : Launch} {R : Room} {p : Program} {e : Env} {below : List Frame} {s : State} {sargs : Array Value} {y : MethodName} {len W9 : Nat}
theorem vx_back {ws : List Cond} {rm : Room} {Pc : Array Value → State → Prop} {Qc : Array Value → State → Outcome → State → Prop} {XC : String → State → State → Prop} {mc ms : Nat} {free : Addr → Prop} {bytes : ByteArray} {maxL : Nat} {ret : Option FieldType}
    (hM : vx_Met l y ws rm Pc Qc XC mc ms free) (hblind : FrameBlind Pc) (hrc : rm.cells = mc) (hrs : rm.slots = ms)
    (hframes : rm.frames + 1 ≤ R.frames) (hlocals : W9 + (maxL + 11) + rm.locals ≤ R.locals)
    (hws : ∀ w ∈ ws, ∀ a' U, s.WarmedH U.vm → w.before a' U = true) (hcode : Cond.code y bytes maxL ret ∈ ws) (hinit : ∀ a' U, s.WarmedH U.vm → (Cond.initialized y.cls).before a' U = true) :
    vx_Back l R p e below s sargs y len W9 (PreOf R mc ms Pc) (PostOf Qc mc ms free) (vx_Post XC mc ms free) := by
  intro m meth c A g ig mk a X hg hsize hdg hW hn hp
  have h1 : (headSpec ws rm).pre.before a A.U = true := atoms_intro fun w hw => hws w hw _ _ X.warmed
  have h2 : (Cond.code y bytes maxL ret).before a A.U = true := hws _ hcode _ _ X.warmed
  have h3 : (Cond.initialized y.cls).before a A.U = true := hinit _ _ X.warmed
  have h4 : A.cells + (headSpec ws rm).room.cells ≤ R.cells := by rw [show (headSpec ws rm).room.cells = mc from hrc]; exact hp.1
  have h5 : A.slots + (headSpec ws rm).room.slots ≤ R.slots := by rw [show (headSpec ws rm).room.slots = ms from hrs]; exact hp.2.1
  have hPc : Pc a (A.U.calling g mk a) := hblind _ _ _ _ hp.2.2
  obtain ⟨U, Ls, c0, s0⟩ := A
  dsimp only [Pt.U, Pt.locs, Pt.cells, Pt.slots] at h1 h2 h3 h4 h5 X hn hPc ⊢
  obtain ⟨methY, cY, hmY, hcY, -, hlY, -, -, -, -⟩ := Cond.code_spec hn h2
  obtain ⟨kY, hkY, -⟩ := className_of_methodNamed hn
  have hinitY : kY.init = .initialized := Cond.initialized_spec (findClass_of_methodNamed hn) hkY h3
  have h : At U g.method c below := by rw [hg]; exact X.here
  have hlocals9 : W9 + (maxL + 11) + (headSpec ws rm).room.locals ≤ R.locals := hlocals
  have happ : (headSpec ws rm).appliesLoose y e.platform (U.calling g mk a) = true :=
    Spec.appliesLoose_calling (g := g) h hdg hn hkY hinitY
      (X.room_calling (g := g) (R' := (headSpec ws rm).room) hsize hmY hcY hframes (by rw [hlY]; omega) h4 h5) h1
  obtain ⟨mid, hmid⟩ := h.above
  have hfr : (U.setTop g).frames = (.java g :: mid) ++ below := by rw [State.frames_setTop' g h.top, hmid]; rfl
  obtain ⟨o, s₂, hsteps, -, hend, hq⟩ := Steps.callFree hM p X.admits X.cas X.clock (acts := []) hfr happ hPc trivial
  have hq' : vx_Q Qc XC mc ms free a (U.calling g mk a) o s₂ := hq
  rw [State.frames_setTop' g h.top] at hend
  obtain ⟨g₀, hg0⟩ := Option.isSome_iff_exists.mp h.top
  obtain ⟨r, hr⟩ := State.topJava?_eq_some.mp hg0
  have hr' : (({ U with heap := s₂.heap, slotsUsed := s₂.slotsUsed } : State).setVm s₂.vm).frames = .java g₀ :: r := hr
  rcases hq' with ⟨hqc, L, hfe, hL⟩ | ⟨q, rfl, E, ce, L, hx, hce, hcv, hcl, hW₂, hsm, hL⟩
  · obtain ⟨⟨v, rfl⟩, hW₂, e2, q2, q3, q4, q5, q6⟩ := id hfe
    have e3 : s₂ = ({ (U.calling g mk a).setFrames s₂.frames with heap := s₂.heap, slotsUsed := s₂.slotsUsed } : State).setVm s₂.vm := by
      have : s₂ = ({ s₂ with vm := (U.calling g mk a).vm } : State).setVm s₂.vm := rfl
      rw [e2] at this
      exact this
    obtain ⟨c₂, i₂, len₂, hc₂, hd₂, hf₂⟩ := hend
    have hW' : U.WarmedH s₂.vm := hW₂
    have hcc : c₂ = c := by
      have h1 : s₂.code? g.method = U.code? g.method := by
        rw [State.code?_eq, State.code?_eq, hW'.alike.method?]
      exact Option.some.inj (hc₂.symm.trans (h1.trans h.code))
    subst hcc
    have hlen : len₂ = len := by rw [hdg] at hd₂; cases hd₂; rfl
    subst hlen
    have hs₂ : s₂ = (({ U with heap := s₂.heap, slotsUsed := s₂.slotsUsed } : State).setVm s₂.vm).setTop { g with pc := g.pc + len₂, stack := v.toList ++ g.stack } := by
      refine e3.trans ?_
      rw [hf₂, State.calling_eq h.top, State.setFrames_setFrames, State.setTop_of_frames _ hr', hr]
      rfl
    have hsame : U.sameButNew ({ U with heap := s₂.heap, slotsUsed := s₂.slotsUsed } : State) L mc ms := by
      refine ⟨?_, q2, q3, q4, q5, q6⟩
      obtain ⟨t, ht, -⟩ := State.frames_cons hr
      show ({ U with heap := s₂.heap, slotsUsed := s₂.slotsUsed } : State) = { U.setFrames U.frames with heap := s₂.heap, slotsUsed := s₂.slotsUsed }
      rw [State.setFrames_self ht]
    subst hg
    refine Or.inl ⟨v, ⟨(({ U with heap := s₂.heap, slotsUsed := s₂.slotsUsed } : State).setVm s₂.vm), Ls ++ L, c0 + mc, s0 + ms⟩,
      ⟨X.admits, X.cas, X.clock, X.frames, X.room, X.hears, X.method, X.code, (X.here.setHeapUsed s₂.heap s₂.slotsUsed).setVm hW'.alike, X.tail, State.WarmedH.trans X.warmed hW', X.limits, X.bytes, X.same.trans (hsame.setVm s.vm)⟩,
      ⟨g, mk, s₂, L, rfl, rfl, hqc, rfl, hL, rfl, rfl⟩, ?_⟩
    show Steps p.tables e below _ ((({ U with heap := s₂.heap, slotsUsed := s₂.slotsUsed } : State).setVm s₂.vm).setTop { g with pc := g.pc + len₂, stack := v.toList ++ g.stack })
    rw [← hs₂]
    exact hsteps
  · obtain ⟨e2, q2, q3, q4, q5, q6⟩ := id hsm
    have e3 : s₂ = ({ (U.calling g mk a).setFrames s₂.frames with heap := s₂.heap, slotsUsed := s₂.slotsUsed } : State).setVm s₂.vm := by
      have : s₂ = ({ s₂ with vm := (U.calling g mk a).vm } : State).setVm s₂.vm := rfl
      rw [e2] at this
      exact this
    have hf₂ : s₂.frames = .throwing q :: .java g :: U.frames.tail := hend
    have hW' : U.WarmedH s₂.vm := hW₂
    have hs₂ : s₂ = ((({ U with heap := s₂.heap, slotsUsed := s₂.slotsUsed } : State).setVm s₂.vm).setTop g).pushFrame (.throwing q) := by
      refine e3.trans ?_
      rw [hf₂, State.calling_eq h.top, State.setFrames_setFrames, State.pushFrame, State.frames_setTop _ hr', State.setTop_of_frames _ hr', State.setFrames_setFrames, hr]
      rfl
    have hsame : U.sameButNew ({ U with heap := s₂.heap, slotsUsed := s₂.slotsUsed } : State) L mc ms := by
      refine ⟨?_, q2, q3, q4, q5, q6⟩
      obtain ⟨t, ht, -⟩ := State.frames_cons hr
      show ({ U with heap := s₂.heap, slotsUsed := s₂.slotsUsed } : State) = { U.setFrames U.frames with heap := s₂.heap, slotsUsed := s₂.slotsUsed }
      rw [State.setFrames_self ht]
    subst hg
    refine Or.inr ⟨q, ⟨(({ U with heap := s₂.heap, slotsUsed := s₂.slotsUsed } : State).setVm s₂.vm), Ls ++ L, c0 + mc, s0 + ms⟩,
      ⟨X.admits, X.cas, X.clock, X.frames, X.room, X.hears, X.method, X.code, (X.here.setHeapUsed s₂.heap s₂.slotsUsed).setVm hW'.alike, X.tail, State.WarmedH.trans X.warmed hW', X.limits, X.bytes, X.same.trans (hsame.setVm s.vm)⟩,
      ⟨g, mk, s₂, L, E, ce, rfl, rfl, hx, hce, hcv, hcl, rfl, hL, rfl, rfl⟩, ?_⟩
    show Steps p.tables e below _ (((({ U with heap := s₂.heap, slotsUsed := s₂.slotsUsed } : State).setVm s₂.vm).setTop g).pushFrame (.throwing q))
    rw [← hs₂]
    exact hsteps
end Payer
section Calls
variable {p : Program} {l : Launch} {e : Env} {R : Room} {s : State} {m : MethodId} {args : Array Value} {below : List Frame} {meth : Method} {c : Code} {T : State} {locs : List Loc} {cells slots : Nat}
theorem vx_callV (X : Stand p l e R s m args below meth c T locs cells slots) (hexec : p.tables.exec = Jvm.exec) {own C : String} {index : Nat} {y : MethodName} {bytes : ByteArray} {maxL : Nat} {ret : Option FieldType}
    (hown : s.vm.findClass own = some m.cls) (hlink : (Cond.methodLink own index y).before args s = true) (hinst : (Cond.instanceMethod y).before args s = true) (hsel : (Cond.selects C y y).before args s = true)
    (hcode : (Cond.code y bytes maxL ret).before args s = true) (hy : y.cls ≠ "java/lang/invoke/MethodHandle" ∧ y.cls ≠ "java/lang/invoke/VarHandle")
    {W9 : Nat} {Pre : Pt → Array Value → Prop} {Post : Pt → Array Value → Option Value → Pt → Prop} {PostX : Pt → Array Value → Addr → Pt → Prop} (hK : vx_Back l R p e below s args y 3 W9 Pre Post PostX)
    {b : Addr} {cellB : Cell} (hcell : T.heap[b]? = some cellB) (hobj : cellB.vm.isStatics = false) (hcls : s.vm.findClass C = some cellB.cls)
    {g : JFrame} (hg : g.method = m) (hsize : g.locals.size = c.maxLocals) {argsL rest : List Value} (hlen : ∀ sig, parseMethodDescriptor y.desc = some sig → argsL.length = sig.parameters.length)
    (hstack : g.stack = argsL.reverse ++ .ref b :: rest) (hW : 2 * g.monitorRoom + (rest.map fun v => v.category).sum ≤ W9) (hdg : decode c.code g.pc = .ok (.invokevirtual index, 3))
    (hpre : ∀ vm₁, s.WarmedH vm₁ → Pre ⟨T.setVm vm₁, locs, cells, slots⟩ (Value.ref b :: argsL).toArray) :
    (∃ (v : Option Value) (vm₁ : Vm) (B : Pt), s.WarmedH vm₁ ∧ Stand p l e R s m args below meth c B.U B.locs B.cells B.slots ∧ Post ⟨T.setVm vm₁, locs, cells, slots⟩ (Value.ref b :: argsL).toArray v B ∧
      ∀ target, Steps p.tables e below (B.U.setTop { g with pc := g.pc + 3, stack := v.toList ++ rest }) target → Steps p.tables e below (T.setTop g) target) ∨
    (∃ (q : Addr) (vm₁ : Vm) (B : Pt), s.WarmedH vm₁ ∧ Stand p l e R s m args below meth c B.U B.locs B.cells B.slots ∧ PostX ⟨T.setVm vm₁, locs, cells, slots⟩ (Value.ref b :: argsL).toArray q B ∧
      Steps p.tables e below (T.setTop g) ((B.U.setTop { g with stack := rest }).pushFrame (.throwing q))) := by
  obtain ⟨mk, methM, hnamed, hmethM, hstM, habM⟩ := Cond.instanceMethod_spec hinst
  obtain ⟨methM', cM, hmethM', -, -, -, -, -, -, hsigM⟩ := Cond.code_spec hnamed hcode
  cases hmethM.symm.trans hmethM'
  obtain ⟨c2, r2, m2, q1, q2, q3, q4, kP, hkP, hkPi⟩ := Cond.selects_spec hsel
  cases hcls.symm.trans q1
  cases (State.methodFound?_of_named hnamed hy).symm.trans q2
  cases hnamed.symm.trans q3
  have hselP : selectMethod e.platform s.vm cellB.cls mk = .method mk := by rw [Launch.admits_selectMethod X.admits]; exact q4
  obtain ⟨vm₁, X₁, hstep₁⟩ := X.invokevirtual hexec hown hlink hnamed hmethM hstM hkP hkPi hy (a := b) (cell := cellB) hcell
    (fun z h => by rw [h] at hobj; cases hobj) hselP hmethM habM hkP hkPi (g := g) hg (argsL := argsL) (rest := rest) (hlen _ hsigM) hstack hdg
  rcases hK m meth c ⟨T.setVm vm₁, locs, cells, slots⟩ { g with stack := rest } (.invokevirtual index) mk (Value.ref b :: argsL).toArray X₁ hg hsize hdg hW (X₁.named hnamed) (hpre vm₁ X₁.warmed) with ⟨v, B, X', hpost, hsteps⟩ | ⟨q, B, X', hpost, hsteps⟩
  · exact Or.inl ⟨v, vm₁, B, X₁.warmed, X', hpost, fun target h => hstep₁ _ fun acts => by rw [doInvoke_state]; exact hsteps.trans h⟩
  · exact Or.inr ⟨q, vm₁, B, X₁.warmed, X', hpost, hstep₁ _ fun acts => by rw [doInvoke_state]; exact hsteps⟩
theorem vx_callS (X : Stand p l e R s m args below meth c T locs cells slots) (hexec : p.tables.exec = Jvm.exec) {own : String} {index : Nat} {y : MethodName} {bytes : ByteArray} {maxL : Nat} {ret : Option FieldType}
    (hown : s.vm.findClass own = some m.cls) (hlink : (Cond.methodLink own index y).before args s = true) (hstat : (Cond.static y).before args s = true) (hinit : (Cond.initialized y.cls).before args s = true)
    (hcode : (Cond.code y bytes maxL ret).before args s = true) (hy : y.cls ≠ "java/lang/invoke/MethodHandle" ∧ y.cls ≠ "java/lang/invoke/VarHandle")
    {W9 : Nat} {Pre : Pt → Array Value → Prop} {Post : Pt → Array Value → Option Value → Pt → Prop} {PostX : Pt → Array Value → Addr → Pt → Prop} (hK : vx_Back l R p e below s args y 3 W9 Pre Post PostX)
    {g : JFrame} (hg : g.method = m) (hsize : g.locals.size = c.maxLocals) {argsL rest : List Value} (hlen : ∀ sig, parseMethodDescriptor y.desc = some sig → argsL.length = sig.parameters.length)
    (hstack : g.stack = argsL.reverse ++ rest) (hW : 2 * g.monitorRoom + (rest.map fun v => v.category).sum ≤ W9) (hdg : decode c.code g.pc = .ok (.invokestatic index, 3))
    (hpre : ∀ vm₁, s.WarmedH vm₁ → Pre ⟨T.setVm vm₁, locs, cells, slots⟩ argsL.toArray) :
    (∃ (v : Option Value) (vm₁ : Vm) (B : Pt), s.WarmedH vm₁ ∧ Stand p l e R s m args below meth c B.U B.locs B.cells B.slots ∧ Post ⟨T.setVm vm₁, locs, cells, slots⟩ argsL.toArray v B ∧
      ∀ target, Steps p.tables e below (B.U.setTop { g with pc := g.pc + 3, stack := v.toList ++ rest }) target → Steps p.tables e below (T.setTop g) target) ∨
    (∃ (q : Addr) (vm₁ : Vm) (B : Pt), s.WarmedH vm₁ ∧ Stand p l e R s m args below meth c B.U B.locs B.cells B.slots ∧ PostX ⟨T.setVm vm₁, locs, cells, slots⟩ argsL.toArray q B ∧
      Steps p.tables e below (T.setTop g) ((B.U.setTop { g with stack := rest }).pushFrame (.throwing q))) := by
  obtain ⟨mk, hnamed⟩ := Cond.code_named hcode
  obtain ⟨methM, cM, hmethM, -, -, -, -, -, -, hsigM⟩ := Cond.code_spec hnamed hcode
  have hstatic : methM.isStatic = true := Cond.static_spec hnamed hmethM hstat
  obtain ⟨kP, hkP, -⟩ := className_of_methodNamed hnamed
  have hinitP : kP.init = .initialized := Cond.initialized_spec (findClass_of_methodNamed hnamed) hkP hinit
  obtain ⟨vm₁, X₁, hstep₁⟩ := X.invokestatic hexec hown hlink hnamed hmethM hstatic hkP hinitP hy (g := g) hg (argsL := argsL) (rest := rest) (hlen _ hsigM) hstack hdg
  rcases hK m meth c ⟨T.setVm vm₁, locs, cells, slots⟩ { g with stack := rest } (.invokestatic index) mk argsL.toArray X₁ hg hsize hdg hW (X₁.named hnamed) (hpre vm₁ X₁.warmed) with ⟨v, B, X', hpost, hsteps⟩ | ⟨q, B, X', hpost, hsteps⟩
  · exact Or.inl ⟨v, vm₁, B, X₁.warmed, X', hpost, fun target h => hstep₁ _ fun acts => by rw [doInvoke_state]; exact hsteps.trans h⟩
  · exact Or.inr ⟨q, vm₁, B, X₁.warmed, X', hpost, hstep₁ _ fun acts => by rw [doInvoke_state]; exact hsteps⟩
end Calls
theorem vx_cls {s : State} {T : State} {vm₁ : Vm} {E : String} {k : ClassId} (hW : s.WarmedH vm₁) (h : (T.setVm vm₁).vm.findClass E = some k) : s.vm.findClass E = some k := by
  have h1 : vm₁.findClass E = some k := h
  rw [hW.alike.findClass] at h1
  exact h1
/-- the method's frame g, with q thrown over it -/
def vx_W (p : Program) (l : Launch) (e : Env) (R : Room) (s : State) (m : MethodId) (args : Array Value) (below : List Frame) (meth : Method) (c : Code) (H : Heap) (locs : List Loc) (cells slots : Nat) (Q : State → Prop) (g : JFrame) (q : Addr) : Prop :=
  ∀ T : State, T.heap = H → Stand p l e R s m args below meth c T locs cells slots → ∃ t, Steps p.tables e below ((T.setTop g).pushFrame (.throwing q)) t ∧ Q t
def vx_Run (p : Program) (l : Launch) (e : Env) (R : Room) (s : State) (m : MethodId) (args : Array Value) (below : List Frame) (meth : Method) (c : Code) (H : Heap) (locs : List Loc) (cells slots mc ms : Nat) (g : JFrame) (rest : List Value) (Qa : State → Outcome → State → Prop) (XC : String → State → State → Prop) (free : Addr → Prop) : Prop :=
  ∀ T : State, T.heap = H → Stand p l e R s m args below meth c T locs cells slots →
    (∃ (v : Option Value) (st₀ t T' : State) (L : List Loc), st₀.heap = H ∧ Stand p l e R s m args below meth c T' (locs ++ L) (cells + mc) (slots + ms) ∧ (∀ q ∈ L, free q.base) ∧ T'.heap = t.heap ∧ T'.vm = t.vm ∧ Qa st₀ (.returned v) t ∧
      Goes p e below T g T' { g with pc := g.pc + 3, stack := v.toList ++ rest }) ∨
    (∃ (q : Addr) (st₀ t T' : State) (L : List Loc) (E : String) (ce : Cell), st₀.heap = H ∧ Stand p l e R s m args below meth c T' (locs ++ L) (cells + mc) (slots + ms) ∧ (∀ z ∈ L, free z.base) ∧ T'.heap = t.heap ∧ T'.vm = t.vm ∧ XC E st₀ t ∧ t.heap[q]? = some ce ∧ ce.vm = .none ∧ s.vm.findClass E = some ce.cls ∧
      Steps p.tables e below (T.setTop g) ((T'.setTop { g with stack := rest }).pushFrame (.throwing q)))
def vx_X {S : Type} (px : S → Prop) (B : String → S → State → Prop) (A : Nat → Prop) : String → State → State → Prop := fun E st t => ∃ u : S, px u ∧ B E u t ∧ va_F A st t
section Runs
variable {p : Program} {l : Launch} {e : Env} {R : Room} {s : State} {m : MethodId} {args : Array Value} {below : List Frame} {meth : Method} {c : Code} {H : Heap} {locs : List Loc} {cells slots : Nat}
variable {y : MethodName} {bytes cc : ByteArray} {maxL nL mc ms n index : Nat} {ret : Option FieldType} {ws : List Cond} {rm : Room} {Pc : Array Value → State → Prop} {Qc : Array Value → State → Outcome → State → Prop} {XC : String → State → State → Prop} {free : Addr → Prop} {Ts : List Cond} {own C : String} {b : Addr} {As rest : List Value} {g : JFrame}
theorem vx_callBack (cb : CallB R s args own index y bytes maxL ret ws rm mc ms n) (hM : vx_Met l y ws rm Pc Qc XC mc ms free) (hbl : FrameBlind Pc) : vx_Back l R p e below s args y 3 8 (PreOf R mc ms Pc) (PostOf Qc mc ms free) (vx_Post XC mc ms free) := by
  obtain ⟨hrc, hrs, hfr, hlo, hws, hcw, -, hini, -⟩ := cb
  exact vx_back (bytes := bytes) (maxL := maxL) (ret := ret) hM hbl hrc hrs hfr hlo hws hcw (fun a' U hW => word_at hW (Or.inl (by first | rfl | simp [Cond.onTables, Cond.keeps, Cond.steady])) hini)
theorem vx_runV (S : CallFix p m c cc nL s args Ts own) (hM : vx_Met l y ws rm Pc Qc XC mc ms free) (cw : CallW R s args own C index y bytes maxL ret ws rm mc ms n) (hp : PreV s H C b Pc As)
    (hg : g.method = m) (hn : As.length = n) (hsize : g.locals.size = nL) (hstack : g.stack = As.reverse ++ .ref b :: rest) (hW : 2 * g.monitorRoom + (rest.map fun v => v.category).sum ≤ 8) (hdg : decode cc g.pc = .ok (.invokevirtual index, 3)) (hf : cells + mc ≤ R.cells ∧ slots + ms ≤ R.slots) :
    vx_Run p l e R s m args below meth c H locs cells slots mc ms g rest (Qc (Value.ref b :: As).toArray) XC free := by
  have hK : vx_Back l R p e below s args y 3 8 (PreOf R mc ms Pc) (PostOf Qc mc ms free) (vx_Post XC mc ms free) := vx_callBack cw.1 hM hp.1
  obtain ⟨⟨-, -, -, -, -, -, hcode, -, hy, hlen, hl⟩, hin, hse⟩ := cw
  obtain ⟨hx, hb, hml, ho, -⟩ := S
  obtain ⟨-, ⟨cellB, hcB, hoB, hclB⟩, hPc⟩ := hp
  intro T hT X
  rcases vx_callV X hx (C := C) (bytes := bytes) (maxL := maxL) (ret := ret) ho hl hin hse hcode hy hK (by rw [hT]; exact hcB) hoB hclB hg (hsize.trans hml.symm) (argsL := As) (rest := rest) (fun sig h => hn.trans (hlen sig h)) hstack hW (by rw [hb]; exact hdg)
    (fun vm₁ hW₁ => ⟨hf.1, hf.2, hPc (T.setVm vm₁) hT hW₁⟩) with ⟨v, vm₁, ⟨U', l2, c2, s2⟩, hW₁, X', ⟨g', mk, t, L, e1, e2, hq, h1, hL, h2, h3⟩, st⟩ | ⟨q, vm₁, ⟨U', l2, c2, s2⟩, hW₁, X', ⟨g', mk, t, L, E, ce, e1, e2, hq, hce, hcv, hcl, h1, hL, h2, h3⟩, st⟩
  · dsimp only [Pt.U, Pt.locs, Pt.cells, Pt.slots] at X' e1 e2 h1 h2 h3 st
    subst h1; subst h2; subst h3
    exact Or.inl ⟨v, (T.setVm vm₁).calling g' mk (Value.ref b :: As).toArray, t, U', L, hT, X', hL, e1, e2, hq, st⟩
  · dsimp only [Pt.U, Pt.locs, Pt.cells, Pt.slots] at X' e1 e2 h1 h2 h3 st hcl
    subst h1; subst h2; subst h3
    exact Or.inr ⟨q, (T.setVm vm₁).calling g' mk (Value.ref b :: As).toArray, t, U', L, E, ce, hT, X', hL, e1, e2, hq, hce, hcv, vx_cls hW₁ hcl, st⟩
theorem vx_runS (S : CallFix p m c cc nL s args Ts own) (hM : vx_Met l y ws rm Pc Qc XC mc ms free) (cw : CallB R s args own index y bytes maxL ret ws rm mc ms n ∧ (Cond.static y).before args s = true) (hp : PreS s H Pc As)
    (hg : g.method = m) (hn : As.length = n) (hsize : g.locals.size = nL) (hstack : g.stack = As.reverse ++ rest) (hW : 2 * g.monitorRoom + (rest.map fun v => v.category).sum ≤ 8) (hdg : decode cc g.pc = .ok (.invokestatic index, 3)) (hf : cells + mc ≤ R.cells ∧ slots + ms ≤ R.slots) :
    vx_Run p l e R s m args below meth c H locs cells slots mc ms g rest (Qc As.toArray) XC free := by
  have hK : vx_Back l R p e below s args y 3 8 (PreOf R mc ms Pc) (PostOf Qc mc ms free) (vx_Post XC mc ms free) := vx_callBack cw.1 hM hp.1
  obtain ⟨⟨-, -, -, -, -, -, hcode, hini, hy, hlen, hl⟩, hstt⟩ := cw
  obtain ⟨hx, hb, hml, ho, -⟩ := S
  intro T hT X
  rcases vx_callS X hx (bytes := bytes) (maxL := maxL) (ret := ret) ho hl hstt hini hcode hy hK hg (hsize.trans hml.symm) (argsL := As) (rest := rest) (fun sig h => hn.trans (hlen sig h)) hstack hW (by rw [hb]; exact hdg)
    (fun vm₁ hW₁ => ⟨hf.1, hf.2, hp.2 (T.setVm vm₁) hT hW₁⟩) with ⟨v, vm₁, ⟨U', l2, c2, s2⟩, hW₁, X', ⟨g', mk, t, L, e1, e2, hq, h1, hL, h2, h3⟩, st⟩ | ⟨q, vm₁, ⟨U', l2, c2, s2⟩, hW₁, X', ⟨g', mk, t, L, E, ce, e1, e2, hq, hce, hcv, hcl, h1, hL, h2, h3⟩, st⟩
  · dsimp only [Pt.U, Pt.locs, Pt.cells, Pt.slots] at X' e1 e2 h1 h2 h3 st
    subst h1; subst h2; subst h3
    exact Or.inl ⟨v, (T.setVm vm₁).calling g' mk As.toArray, t, U', L, hT, X', hL, e1, e2, hq, st⟩
  · dsimp only [Pt.U, Pt.locs, Pt.cells, Pt.slots] at X' e1 e2 h1 h2 h3 st hcl
    subst h1; subst h2; subst h3
    exact Or.inr ⟨q, (T.setVm vm₁).calling g' mk As.toArray, t, U', L, E, ce, hT, X', hL, e1, e2, hq, hce, hcv, vx_cls hW₁ hcl, st⟩
end Runs
section Rows
variable {p : Program} {l : Launch} {e : Env} {R : Room} {s : State} {m : MethodId} {args : Array Value} {below : List Frame} {meth : Method} {c : Code} {H : Heap} {locs : List Loc} {cells slots : Nat} {Q : State → Prop}
variable {mc ms : Nat} {free : Addr → Prop} {A0 A1 : Nat → Prop} {H0 : Heap} {a : Array Value} {pc : Nat} {ls : Array Slot} {st0 rest : List Value}
theorem vx_keep {st₀ t T' : State} {L : List Loc} (h0 : st₀.heap = H) (e1 : T'.heap = t.heap) (hS : va_S A0 H0 H locs) (hA : ∀ q, q < H.size → A1 q → A0 q) (hf : ∀ q, free q → A0 q) (hL : ∀ q ∈ L, free q.base) (hF : va_F A1 st₀ t) :
    H.size ≤ T'.heap.size ∧ (∀ q : Nat, q < H.size → ¬ A1 q → T'.heap[q]? = H[q]?) ∧ va_S A0 H0 T'.heap (locs ++ L) := by
  obtain ⟨hz, hk⟩ := hF
  rw [h0] at hz hk
  exact ⟨by rw [e1]; exact hz, fun q h1 h2 => by rw [e1]; exact hk q h1 h2,
    ⟨Nat.le_trans hS.1 (by rw [e1]; exact hz), fun q h1 h2 => by rw [e1, hk q (Nat.lt_of_lt_of_le h1 hS.1) (fun z => h2 (hA q (Nat.lt_of_lt_of_le h1 hS.1) z))]; exact hS.2.1 q h1 h2, fun q hq => by
      rcases List.mem_append.mp hq with h | h
      · exact hS.2.2 q h
      · exact hf _ (hL q h)⟩⟩
theorem vx_calli {S SX : Type} {post : Int32 → S → Prop} {px : SX → Prop} {B : S → State → Prop} {BX : String → SX → State → Prop} {AX : Nat → Prop} (hr : vx_Run p l e R s m args below meth c H locs cells slots mc ms (F0 m pc ls st0) rest (va_Qi post B A1 a) (vx_X px BX AX) free) (hS : va_S A0 H0 H locs) (hA : ∀ q, q < H.size → A1 q → A0 q) (hf : ∀ q, free q → A0 q) (hAX : ∀ q, q < H.size → AX q → A0 q)
    (kx : ∀ (E : String) (ce : Cell) (q9 : Addr) (u : SX) (t : State) (H1 : Heap) (locs1 : List Loc), t.heap = H1 → s.vm.Alike t.vm → px u → BX E u t → H.size ≤ H1.size → (∀ q : Nat, q < H.size → ¬ AX q → H1[q]? = H[q]?) → va_S A0 H0 H1 locs1 → H1[q9]? = some ce → ce.vm = .none → s.vm.findClass E = some ce.cls → vx_W p l e R s m args below meth c H1 locs1 (cells + mc) (slots + ms) Q (F0 m pc ls rest) q9)
    (kk : ∀ (r : Int32) (u : S) (t : State) (H1 : Heap) (locs1 : List Loc), t.heap = H1 → s.vm.Alike t.vm → post r u → B u t → H.size ≤ H1.size → (∀ q : Nat, q < H.size → ¬ A1 q → H1[q]? = H[q]?) → va_S A0 H0 H1 locs1 → W p l e R s m args below meth c H1 locs1 (cells + mc) (slots + ms) Q (F0 m (pc + 3) ls (.int r :: rest))) : W p l e R s m args below meth c H locs cells slots Q (F0 m pc ls st0) := by
  intro T hT X
  rcases hr T hT X with ⟨v, st₀, t, T', L, h0, X', hL, e1, e2, ⟨⟨r, u, hv, hp, hb⟩, hF⟩, st⟩ | ⟨q, st₀, t, T', L, E, ce, h0, X', hL, e1, e2, ⟨u, hp, hb, hF⟩, hce, hcv, hcl, st⟩
  · cases hv
    obtain ⟨k1, k2, k3⟩ := vx_keep h0 e1 hS hA hf hL hF
    obtain ⟨t2, a1, b1⟩ := kk r u t T'.heap (locs ++ L) e1.symm (by rw [← e2]; exact X'.warmed.alike) hp hb k1 k2 k3 T' rfl X'
    exact ⟨t2, st t2 a1, b1⟩
  · obtain ⟨k1, k2, k3⟩ := vx_keep h0 e1 hS hAX hf hL hF
    obtain ⟨t2, a1, b1⟩ := kx E ce q u t T'.heap (locs ++ L) e1.symm (by rw [← e2]; exact X'.warmed.alike) hp hb k1 k2 k3 (by rw [e1]; exact hce) hcv hcl T' rfl X'
    exact ⟨t2, st.trans a1, b1⟩
theorem vx_calll {S SX : Type} {post : Int64 → S → Prop} {px : SX → Prop} {B : S → State → Prop} {BX : String → SX → State → Prop} {AX : Nat → Prop} (hr : vx_Run p l e R s m args below meth c H locs cells slots mc ms (F0 m pc ls st0) rest (va_Ql post B A1 a) (vx_X px BX AX) free) (hS : va_S A0 H0 H locs) (hA : ∀ q, q < H.size → A1 q → A0 q) (hf : ∀ q, free q → A0 q) (hAX : ∀ q, q < H.size → AX q → A0 q)
    (kx : ∀ (E : String) (ce : Cell) (q9 : Addr) (u : SX) (t : State) (H1 : Heap) (locs1 : List Loc), t.heap = H1 → s.vm.Alike t.vm → px u → BX E u t → H.size ≤ H1.size → (∀ q : Nat, q < H.size → ¬ AX q → H1[q]? = H[q]?) → va_S A0 H0 H1 locs1 → H1[q9]? = some ce → ce.vm = .none → s.vm.findClass E = some ce.cls → vx_W p l e R s m args below meth c H1 locs1 (cells + mc) (slots + ms) Q (F0 m pc ls rest) q9)
    (kk : ∀ (r : Int64) (u : S) (t : State) (H1 : Heap) (locs1 : List Loc), t.heap = H1 → s.vm.Alike t.vm → post r u → B u t → H.size ≤ H1.size → (∀ q : Nat, q < H.size → ¬ A1 q → H1[q]? = H[q]?) → va_S A0 H0 H1 locs1 → W p l e R s m args below meth c H1 locs1 (cells + mc) (slots + ms) Q (F0 m (pc + 3) ls (.long r :: rest))) : W p l e R s m args below meth c H locs cells slots Q (F0 m pc ls st0) := by
  intro T hT X
  rcases hr T hT X with ⟨v, st₀, t, T', L, h0, X', hL, e1, e2, ⟨⟨r, u, hv, hp, hb⟩, hF⟩, st⟩ | ⟨q, st₀, t, T', L, E, ce, h0, X', hL, e1, e2, ⟨u, hp, hb, hF⟩, hce, hcv, hcl, st⟩
  · cases hv
    obtain ⟨k1, k2, k3⟩ := vx_keep h0 e1 hS hA hf hL hF
    obtain ⟨t2, a1, b1⟩ := kk r u t T'.heap (locs ++ L) e1.symm (by rw [← e2]; exact X'.warmed.alike) hp hb k1 k2 k3 T' rfl X'
    exact ⟨t2, st t2 a1, b1⟩
  · obtain ⟨k1, k2, k3⟩ := vx_keep h0 e1 hS hAX hf hL hF
    obtain ⟨t2, a1, b1⟩ := kx E ce q u t T'.heap (locs ++ L) e1.symm (by rw [← e2]; exact X'.warmed.alike) hp hb k1 k2 k3 (by rw [e1]; exact hce) hcv hcl T' rfl X'
    exact ⟨t2, st.trans a1, b1⟩
theorem vx_callf {S SX : Type} {post : UInt32 → S → Prop} {px : SX → Prop} {B : S → State → Prop} {BX : String → SX → State → Prop} {AX : Nat → Prop} (hr : vx_Run p l e R s m args below meth c H locs cells slots mc ms (F0 m pc ls st0) rest (va_Qf post B A1 a) (vx_X px BX AX) free) (hS : va_S A0 H0 H locs) (hA : ∀ q, q < H.size → A1 q → A0 q) (hf : ∀ q, free q → A0 q) (hAX : ∀ q, q < H.size → AX q → A0 q)
    (kx : ∀ (E : String) (ce : Cell) (q9 : Addr) (u : SX) (t : State) (H1 : Heap) (locs1 : List Loc), t.heap = H1 → s.vm.Alike t.vm → px u → BX E u t → H.size ≤ H1.size → (∀ q : Nat, q < H.size → ¬ AX q → H1[q]? = H[q]?) → va_S A0 H0 H1 locs1 → H1[q9]? = some ce → ce.vm = .none → s.vm.findClass E = some ce.cls → vx_W p l e R s m args below meth c H1 locs1 (cells + mc) (slots + ms) Q (F0 m pc ls rest) q9)
    (kk : ∀ (r : UInt32) (u : S) (t : State) (H1 : Heap) (locs1 : List Loc), t.heap = H1 → s.vm.Alike t.vm → post r u → B u t → H.size ≤ H1.size → (∀ q : Nat, q < H.size → ¬ A1 q → H1[q]? = H[q]?) → va_S A0 H0 H1 locs1 → W p l e R s m args below meth c H1 locs1 (cells + mc) (slots + ms) Q (F0 m (pc + 3) ls (.float r :: rest))) : W p l e R s m args below meth c H locs cells slots Q (F0 m pc ls st0) := by
  intro T hT X
  rcases hr T hT X with ⟨v, st₀, t, T', L, h0, X', hL, e1, e2, ⟨⟨r, u, hv, hp, hb⟩, hF⟩, st⟩ | ⟨q, st₀, t, T', L, E, ce, h0, X', hL, e1, e2, ⟨u, hp, hb, hF⟩, hce, hcv, hcl, st⟩
  · cases hv
    obtain ⟨k1, k2, k3⟩ := vx_keep h0 e1 hS hA hf hL hF
    obtain ⟨t2, a1, b1⟩ := kk r u t T'.heap (locs ++ L) e1.symm (by rw [← e2]; exact X'.warmed.alike) hp hb k1 k2 k3 T' rfl X'
    exact ⟨t2, st t2 a1, b1⟩
  · obtain ⟨k1, k2, k3⟩ := vx_keep h0 e1 hS hAX hf hL hF
    obtain ⟨t2, a1, b1⟩ := kx E ce q u t T'.heap (locs ++ L) e1.symm (by rw [← e2]; exact X'.warmed.alike) hp hb k1 k2 k3 (by rw [e1]; exact hce) hcv hcl T' rfl X'
    exact ⟨t2, st.trans a1, b1⟩
theorem vx_calld {S SX : Type} {post : UInt64 → S → Prop} {px : SX → Prop} {B : S → State → Prop} {BX : String → SX → State → Prop} {AX : Nat → Prop} (hr : vx_Run p l e R s m args below meth c H locs cells slots mc ms (F0 m pc ls st0) rest (va_Qd post B A1 a) (vx_X px BX AX) free) (hS : va_S A0 H0 H locs) (hA : ∀ q, q < H.size → A1 q → A0 q) (hf : ∀ q, free q → A0 q) (hAX : ∀ q, q < H.size → AX q → A0 q)
    (kx : ∀ (E : String) (ce : Cell) (q9 : Addr) (u : SX) (t : State) (H1 : Heap) (locs1 : List Loc), t.heap = H1 → s.vm.Alike t.vm → px u → BX E u t → H.size ≤ H1.size → (∀ q : Nat, q < H.size → ¬ AX q → H1[q]? = H[q]?) → va_S A0 H0 H1 locs1 → H1[q9]? = some ce → ce.vm = .none → s.vm.findClass E = some ce.cls → vx_W p l e R s m args below meth c H1 locs1 (cells + mc) (slots + ms) Q (F0 m pc ls rest) q9)
    (kk : ∀ (r : UInt64) (u : S) (t : State) (H1 : Heap) (locs1 : List Loc), t.heap = H1 → s.vm.Alike t.vm → post r u → B u t → H.size ≤ H1.size → (∀ q : Nat, q < H.size → ¬ A1 q → H1[q]? = H[q]?) → va_S A0 H0 H1 locs1 → W p l e R s m args below meth c H1 locs1 (cells + mc) (slots + ms) Q (F0 m (pc + 3) ls (.double r :: rest))) : W p l e R s m args below meth c H locs cells slots Q (F0 m pc ls st0) := by
  intro T hT X
  rcases hr T hT X with ⟨v, st₀, t, T', L, h0, X', hL, e1, e2, ⟨⟨r, u, hv, hp, hb⟩, hF⟩, st⟩ | ⟨q, st₀, t, T', L, E, ce, h0, X', hL, e1, e2, ⟨u, hp, hb, hF⟩, hce, hcv, hcl, st⟩
  · cases hv
    obtain ⟨k1, k2, k3⟩ := vx_keep h0 e1 hS hA hf hL hF
    obtain ⟨t2, a1, b1⟩ := kk r u t T'.heap (locs ++ L) e1.symm (by rw [← e2]; exact X'.warmed.alike) hp hb k1 k2 k3 T' rfl X'
    exact ⟨t2, st t2 a1, b1⟩
  · obtain ⟨k1, k2, k3⟩ := vx_keep h0 e1 hS hAX hf hL hF
    obtain ⟨t2, a1, b1⟩ := kx E ce q u t T'.heap (locs ++ L) e1.symm (by rw [← e2]; exact X'.warmed.alike) hp hb k1 k2 k3 (by rw [e1]; exact hce) hcv hcl T' rfl X'
    exact ⟨t2, st.trans a1, b1⟩
theorem vx_callv {S SX : Type} {post : S → Prop} {px : SX → Prop} {B : S → State → Prop} {BX : String → SX → State → Prop} {AX : Nat → Prop} (hr : vx_Run p l e R s m args below meth c H locs cells slots mc ms (F0 m pc ls st0) rest (va_Qv post B A1 a) (vx_X px BX AX) free) (hS : va_S A0 H0 H locs) (hA : ∀ q, q < H.size → A1 q → A0 q) (hf : ∀ q, free q → A0 q) (hAX : ∀ q, q < H.size → AX q → A0 q)
    (kx : ∀ (E : String) (ce : Cell) (q9 : Addr) (u : SX) (t : State) (H1 : Heap) (locs1 : List Loc), t.heap = H1 → s.vm.Alike t.vm → px u → BX E u t → H.size ≤ H1.size → (∀ q : Nat, q < H.size → ¬ AX q → H1[q]? = H[q]?) → va_S A0 H0 H1 locs1 → H1[q9]? = some ce → ce.vm = .none → s.vm.findClass E = some ce.cls → vx_W p l e R s m args below meth c H1 locs1 (cells + mc) (slots + ms) Q (F0 m pc ls rest) q9)
    (kk : ∀ (u : S) (t : State) (H1 : Heap) (locs1 : List Loc), t.heap = H1 → s.vm.Alike t.vm → post u → B u t → H.size ≤ H1.size → (∀ q : Nat, q < H.size → ¬ A1 q → H1[q]? = H[q]?) → va_S A0 H0 H1 locs1 → W p l e R s m args below meth c H1 locs1 (cells + mc) (slots + ms) Q (F0 m (pc + 3) ls (rest))) : W p l e R s m args below meth c H locs cells slots Q (F0 m pc ls st0) := by
  intro T hT X
  rcases hr T hT X with ⟨v, st₀, t, T', L, h0, X', hL, e1, e2, ⟨⟨u, hv, hp, hb⟩, hF⟩, st⟩ | ⟨q, st₀, t, T', L, E, ce, h0, X', hL, e1, e2, ⟨u, hp, hb, hF⟩, hce, hcv, hcl, st⟩
  · cases hv
    obtain ⟨k1, k2, k3⟩ := vx_keep h0 e1 hS hA hf hL hF
    obtain ⟨t2, a1, b1⟩ := kk u t T'.heap (locs ++ L) e1.symm (by rw [← e2]; exact X'.warmed.alike) hp hb k1 k2 k3 T' rfl X'
    exact ⟨t2, st t2 a1, b1⟩
  · obtain ⟨k1, k2, k3⟩ := vx_keep h0 e1 hS hAX hf hL hF
    obtain ⟨t2, a1, b1⟩ := kx E ce q u t T'.heap (locs ++ L) e1.symm (by rw [← e2]; exact X'.warmed.alike) hp hb k1 k2 k3 (by rw [e1]; exact hce) hcv hcl T' rfl X'
    exact ⟨t2, st.trans a1, b1⟩
/-- caught by the row x of this method's table; the rows ahead don't take it -/
theorem vx_catch {own name : String} {E : String} {ce : Cell} {q : Addr} (hown : s.vm.findClass own = some m.cls) (pre : List ExceptionTableEntry) (x : ExceptionTableEntry) (suf : List ExceptionTableEntry) (hsplit : c.exceptionTable.toList = pre ++ x :: suf)
    (hpass : ∀ z ∈ pre, covers z pc = false ∨ (z.catchType ≠ 0 ∧ ∃ nm : String, (Cond.classLink own z.catchType nm).before args s = true ∧ va_Nc E nm s)) (hx : covers x pc = true) (h0 : x.catchType ≠ 0)
    (hlink : (Cond.classLink own x.catchType name).before args s = true) (hcast : (Cond.castable E name).before args s = true) (hcell : H[q]? = some ce) (hv : ce.vm = .none) (hcl : s.vm.findClass E = some ce.cls)
    (kk : W p l e R s m args below meth c H locs cells slots Q (F0 m x.handlerPc ls [.ref q])) : vx_W p l e R s m args below meth c H locs cells slots Q (F0 m pc ls rest) q := by
  intro T hT X
  have hpl : e.platform.magicAccessors = ({} : Platform).magicAccessors := by rw [X.admits.platform]
  obtain ⟨c3, c4, hc3, hc4, hasg⟩ := Cond.castable_spec hcast
  cases Option.some.inj (hc3.symm.trans hcl)
  obtain ⟨c5, hc5, hcl5⟩ := Cond.classLink_spec hown hlink e.platform hpl
  cases Option.some.inj (hc4.symm.trans hc5)
  obtain ⟨vm', X', st⟩ := X.thenCaughtThrough q (g := F0 m pc ls rest) rfl (Steps.refl _) (by rw [hT]; exact hcell) (by rw [hv]; rfl) (by obtain ⟨k9, h9, -⟩ := Vm.findClass_spec hcl; exact ⟨k9, h9⟩) pre x suf hsplit
    (fun z hz => by
      rcases hpass z hz with h | ⟨hz0, nm, hl1, hn1⟩
      · exact Or.inl h
      · obtain ⟨c6, hc6, hcl6⟩ := Cond.classLink_spec hown hl1 e.platform hpl
        obtain ⟨a8, b8, h1, h2, h3⟩ := hn1
        cases Option.some.inj (h1.symm.trans hcl)
        cases Option.some.inj (h2.symm.trans hc6)
        exact Or.inr ⟨hz0, _, hcl6, h3⟩) hx (Or.inr ⟨h0, c4, hcl5, hasg⟩)
  obtain ⟨t, a1, b1⟩ := kk (T.setVm vm') hT X'
  exact ⟨t, st.trans a1, b1⟩
end Rows
section Ends
variable {p : Program} {l : Launch} {e : Env} {R : Room} {s : State} {m : MethodId} {args : Array Value} {below : List Frame} {meth : Method} {c : Code} {H : Heap} {locs : List Loc} {cells slots : Nat} {Q : State → Prop}
variable {mc ms : Nat} {free : Addr → Prop} {A0 A1 : Nat → Prop} {H0 : Heap} {a : Array Value} {ls : Array Slot} {st0 rest : List Value}
variable {Qc : Array Value → State → Outcome → State → Prop} {XC : String → State → State → Prop}
/-- what a body that may throw owes at its end -/
def vx_MQ (below : List Frame) (Qc : Array Value → State → Outcome → State → Prop) (XC : String → State → State → Prop) (a : Array Value) (s : State) (mc ms : Nat) (free : Addr → Prop) : State → Prop := fun t =>
  ∃ o, t.status = .running ∧ Ended t below o ∧ vx_Q Qc XC mc ms free a s o t
theorem vx_ret {g : JFrame} {mc ms : Nat} (k : W p l e R s m args below meth c H locs cells slots (MQ below Qc args s mc ms free) g) : W p l e R s m args below meth c H locs cells slots (vx_MQ below Qc XC args s mc ms free) g := by
  intro T hT X
  obtain ⟨t, a1, o, b1, b2, b3, b4⟩ := k T hT X
  exact ⟨t, a1, o, b1, b2, Or.inl ⟨b3, b4⟩⟩
/-- not caught here: it goes on to the caller -/
theorem vx_widen {g : JFrame} {q : Addr} {k n : Nat} (h1 : cells ≤ k) (h2 : slots ≤ n) (kk : vx_W p l e R s m args below meth c H locs k n Q g q) : vx_W p l e R s m args below meth c H locs cells slots Q g q := fun T hT X => kk T hT (stand_widen X h1 h2)
theorem vx_out {pc : Nat} {E : String} {ce : Cell} {q : Addr} {mc ms : Nat} (hout : ∀ x ∈ c.exceptionTable.toList, covers x pc = false) (hlocks : meth.locks = false) (hcell : H[q]? = some ce) (hv : ce.vm = .none) (hcl : s.vm.findClass E = some ce.cls)
    (hx : ∀ t : State, t.heap = H → s.vm.Alike t.vm → XC E s t) (hf : ∀ z ∈ locs, free z.base) (hc : cells ≤ mc) (hs : slots ≤ ms) :
    vx_W p l e R s m args below meth c H locs cells slots (vx_MQ below Qc XC args s mc ms free) (F0 m pc ls rest) q := by
  intro T hT X
  obtain ⟨st1, hrun, hend, hW, hsm⟩ := X.leaveThrown q (g := F0 m pc ls rest) rfl rfl rfl hout hlocks
  have hcell9 : (T.setFrames (.throwing q :: below)).heap[q]? = some ce := by
    show T.heap[q]? = some ce
    rw [hT]; exact hcell
  exact ⟨_, st1, .threw q, hrun, hend, Or.inr ⟨q, rfl, E, ce, locs, hx _ hT hW.alike, hcell9, hv, hcl, hW, hsm.mono hc hs, hf⟩⟩
theorem vx_frame {U : State} {k n : Nat} (h : s.sameButNew ({ U with vm := s.vm } : State) locs k n) : s.heap.size ≤ U.heap.size ∧ ∀ q : Nat, q < s.heap.size → (∀ z ∈ locs, z.base ≠ q) → U.heap[q]? = s.heap[q]? := by
  obtain ⟨-, h2, -, -, -, h6⟩ := h
  refine ⟨h2, fun q hq hz => ?_⟩
  obtain ⟨c9, e1, e2, e3, e4⟩ := h6 q _ (Array.getElem?_eq_getElem hq)
  have hs : c9.slots = (s.heap[q]).slots := Array.ext_getElem? fun i => e4 i fun hm => hz _ hm rfl
  have h9 : c9 = s.heap[q] := by
    rw [hs] at e2
    exact e2
  have e5 : U.heap[q]? = some c9 := e1
  rw [e5, h9, Array.getElem?_eq_getElem hq]
/-- the words of a throw but the four that speak of the heap -/
def vx_no (w : Cond) : Bool := decide (w ≠ .isRef (.static Bundle.tN "UNASSIGNED_STACK" Bundle.steD)) && decide (w ≠ .isRef (.static Bundle.tN "SUPPRESSED_SENTINEL" Bundle.listD)) && decide (w ≠ .laysStatic Bundle.tN "UNASSIGNED_STACK" Bundle.steD) && decide (w ≠ .laysStatic Bundle.tN "SUPPRESSED_SENTINEL" Bundle.listD)
def vx_at0 (own : String) (ic : Nat) (X : String) (names : List String) : List Cond := (Bundle.ownAtoms0 own ic X names).filter vx_no
def vx_atS (own : String) (ic : Nat) (X : String) (names : List String) : List Cond := (Bundle.ownAtoms own ic X names).filter vx_no
/-- a word that the tables alone decide, or a good one -/
def vx_ot (w : Cond) : Bool := w.onTables || goodWord w
theorem vx_ot_at {args a' : Array Value} {s U : State} {w : Cond} (hW : s.WarmedH U.vm) (hvm : s.vm = U.vm) (hg : vx_ot w = true) (h : w.before args s = true) : w.before a' U = true := by
  simp only [vx_ot, Bool.or_eq_true] at hg
  rcases hg with hg | hg
  · exact va_tabs hg hvm h
  · exact word_at hW (good_of_word hg) h
/-- a list's words: the good ones out of the method's own list, the others by premises of their own -/
theorem vx_hat {args : Array Value} {s : State} {L B : List Cond} (h1 : ∀ w ∈ L.filter goodWord, w.before args s = true) (h2 : ∀ w ∈ L.filter (fun w => !goodWord w), w ∈ B) (h3 : ∀ w ∈ B, w.before args s = true) : ∀ w ∈ L, w.before args s = true := by
  intro w hw
  by_cases g : goodWord w = true
  · exact h1 w (List.mem_filter.mpr ⟨hw, g⟩)
  · refine h3 w (h2 w (List.mem_filter.mpr ⟨hw, ?_⟩))
    show (!goodWord w) = true
    cases hgw : goodWord w
    · rfl
    · exact absurd hgw g
theorem vx_c {args : Array Value} {s : State} {w : Cond} {B : List Cond} (h : w.before args s = true) (t : ∀ w ∈ B, w.before args s = true) : ∀ w' ∈ w :: B, w'.before args s = true := fun w' h' => (List.mem_cons.mp h').elim (fun e => by rw [e]; exact h) (t w')
theorem vx_n {args : Array Value} {s : State} : ∀ w ∈ ([] : List Cond), w.before args s = true := fun _ h => nomatch h
theorem vx_own {args : Array Value} {s : State} {L : List Cond} (h1 : ∀ w ∈ L.filter vx_no, w.before args s = true)
    (hU : (Cond.isRef (.static Bundle.tN "UNASSIGNED_STACK" Bundle.steD)).before args s = true) (hN : (Cond.isRef (.static Bundle.tN "SUPPRESSED_SENTINEL" Bundle.listD)).before args s = true)
    (lU : (Cond.laysStatic Bundle.tN "UNASSIGNED_STACK" Bundle.steD).before args s = true) (lN : (Cond.laysStatic Bundle.tN "SUPPRESSED_SENTINEL" Bundle.listD).before args s = true) : ∀ w ∈ L, w.before args s = true := by
  intro w hw
  by_cases e1 : w = .isRef (.static Bundle.tN "UNASSIGNED_STACK" Bundle.steD)
  · rw [e1]; exact hU
  · by_cases e2 : w = .isRef (.static Bundle.tN "SUPPRESSED_SENTINEL" Bundle.listD)
    · rw [e2]; exact hN
    · by_cases e3 : w = .laysStatic Bundle.tN "UNASSIGNED_STACK" Bundle.steD
      · rw [e3]; exact lU
      · by_cases e4 : w = .laysStatic Bundle.tN "SUPPRESSED_SENTINEL" Bundle.listD
        · rw [e4]; exact lN
        · exact h1 w (List.mem_filter.mpr ⟨hw, by unfold vx_no; rw [decide_eq_true e1, decide_eq_true e2, decide_eq_true e3, decide_eq_true e4]; rfl⟩)
/-- where a static field lies, its class's statics cell in H -/
def vx_L (C n d : String) (A : Nat → Prop) (U : State) (H : Heap) : Prop := ∃ (c : ClassId) (k : Class) (i : Nat) (f : Field) (a : Nat) (cell : Cell), U.vm.findClass C = some c ∧ U.fieldFound? C n d = some (c, k, i, f) ∧ f.isStatic = true ∧ k.statics = some a ∧ H[a]? = some cell ∧ cell.vm.isStatics = true ∧ cell.cls = c ∧ f.slot < cell.slots.size ∧ k.staticTypes[f.slot]? = some f.type ∧ ¬ A a
theorem vx_L.moved {C n d : String} {A : Nat → Prop} {u U : State} {H : Heap} (hvm : u.vm.Alike U.vm) (h : vx_L C n d A u H) : vx_L C n d A U H := by
  obtain ⟨c, k, i, f, a, cell, h1, h2, h3, h4, h5, h6, h7, h8, h9, h10⟩ := h
  obtain ⟨k', hi', he⟩ := State.fieldFound?_setVm hvm h2
  exact ⟨c, k', i, f, a, cell, by rw [hvm.findClass]; exact h1, hi', h3, by rw [he]; exact h4, h5, h6, h7, h8, by rw [he]; exact h9, h10⟩
theorem vx_L.kept {C n d : String} {A : Nat → Prop} {U : State} {H H1 : Heap} (h : vx_L C n d A U H) (hq : ∀ a : Nat, a < H.size → ¬ A a → H1[a]? = H[a]?) : vx_L C n d A U H1 := by
  obtain ⟨c, k, i, f, a, cell, h1, h2, h3, h4, h5, h6, h7, h8, h9, h10⟩ := h
  exact ⟨c, k, i, f, a, cell, h1, h2, h3, h4, by rw [hq a (Array.getElem?_eq_some_iff.mp h5).1 h10]; exact h5, h6, h7, h8, h9, h10⟩
theorem vx_L.narrow {C n d : String} {A B : Nat → Prop} {U : State} {H : Heap} (h : vx_L C n d A U H) (hAB : ∀ q, B q → A q) : vx_L C n d B U H := by
  obtain ⟨c, k, i, f, a, cell, h1, h2, h3, h4, h5, h6, h7, h8, h9, h10⟩ := h
  exact ⟨c, k, i, f, a, cell, h1, h2, h3, h4, h5, h6, h7, h8, h9, fun z => h10 (hAB _ z)⟩
theorem vx_L.word {C n d : String} {A : Nat → Prop} {s : State} {args : Array Value} (h : vx_L C n d A s s.heap) : (Cond.laysStatic C n d).before args s = true := by
  obtain ⟨c, k, i, f, a, cell, h1, h2, h3, h4, h5, h6, h7, h8, h9, -⟩ := h
  show (Cond.laysStatic C n d).holds args s none s [] = true
  exact Cond.laysStatic_of h1 h2 h3 h4 h5 h6 h7 h8 h9
/-- .. and what it holds: null or some reference -/
def vx_Zq (C n d : String) (A : Nat → Prop) (U : State) (H : Heap) : Prop := va_Zq C n d A U H ∧ vx_L C n d A U H
theorem vx_Zq.moved {C n d : String} {A : Nat → Prop} {u U : State} {H : Heap} (hvm : u.vm.Alike U.vm) (h : vx_Zq C n d A u H) : vx_Zq C n d A U H := ⟨va_Zq.moved hvm h.1, vx_L.moved hvm h.2⟩
theorem vx_Zq.kept {C n d : String} {A : Nat → Prop} {U : State} {H H1 : Heap} (h : vx_Zq C n d A U H) (hq : ∀ a : Nat, a < H.size → ¬ A a → H1[a]? = H[a]?) : vx_Zq C n d A U H1 := ⟨va_Zq.kept h.1 hq, vx_L.kept h.2 hq⟩
theorem vx_Zq.narrow {C n d : String} {A B : Nat → Prop} {U : State} {H : Heap} (h : vx_Zq C n d A U H) (hAB : ∀ q, B q → A q) : vx_Zq C n d B U H := ⟨va_Zq.narrow h.1 hAB, vx_L.narrow h.2 hAB⟩
theorem vx_Zqof {args : Array Value} {s : State} {C n d : String} {A : Nat → Prop} (hl : (Cond.laysStatic C n d).before args s = true) (hini : (Cond.initialized C).before args s = true) (h : (Cond.isRef (.static C n d)).before args s = true) (hA : ∀ a : Nat, a < s.heap.size → ¬ A a) : vx_Zq C n d A s s.heap := by
  refine ⟨va_Zqof hl hini h hA, ?_⟩
  obtain ⟨c, k, i, f, a, cell, h1, h2, h3, h4, h5, h6, h7, h8, h9⟩ := Cond.laysStatic_spec hl
  exact ⟨c, k, i, f, a, cell, h1, h2, h3, h4, h5, h6, h7, h8, h9, hA a (Array.getElem?_eq_some_iff.mp h5).1⟩
theorem vx_isRef {C n d : String} {v : Value} {A : Nat → Prop} {s : State} {args : Array Value} (h : va_Z C n d v A s s.heap) (hv : v.isRef = true) : (Cond.isRef (.static C n d)).before args s = true := by
  obtain ⟨cf, kf, fi, f, a, cell, h1, h2, h3, h4, h5, h6, h7, -⟩ := h
  have he : (Term.static C n d).eval args s none [] s = some v := by
    simp [Term.eval, State.fieldNamed?, h1, h2, h4, h5, h6, h7]
  simp only [Cond.before, Cond.holds, Cond.value, he]
  cases v <;> simp_all [Value.isRef]
theorem vx_isRefq {C n d : String} {A : Nat → Prop} {s : State} {args : Array Value} (h : va_Zq C n d A s s.heap) : (Cond.isRef (.static C n d)).before args s = true := by
  rcases h with h | ⟨t, h⟩
  · exact vx_isRef h rfl
  · exact vx_isRef h rfl
/-- the same frame, seen from here: as if the method were called anew in this heap -/
theorem vx_rebase {T : State} (X : Stand p l e R s m args below meth c T locs cells slots) {R' : Room} (hf : R'.frames ≤ R.frames) (hl : R'.locals ≤ R.locals) (hc : cells + R'.cells ≤ R.cells) (hs : slots + R'.slots ≤ R.slots) :
    Stand p l e R' ((T.setVm s.vm).setFrames (.invoking m args :: below)) m args below meth c T [] 0 0 := by
  have htop : (T.setVm s.vm).topJava?.isSome := X.here.top
  have hF : ((T.setVm s.vm).setFrames (.invoking m args :: below)).frames = .invoking m args :: below := State.frames_setFrames _ (State.cur_lt_of_top htop)
  obtain ⟨g₀, hg0⟩ := Option.isSome_iff_exists.mp htop
  obtain ⟨r, hr⟩ := State.topJava?_eq_some.mp hg0
  have hl9 : e.platform.stackLimits (T.setVm s.vm).me = e.platform.stackLimits s.me := X.limits
  have hb9 : (T.setVm s.vm).me.stackBytes = s.me.stackBytes := X.bytes
  refine ⟨X.admits, X.cas, X.clock, hF, ?_, X.hears, X.method, X.code, X.here, X.tail, X.warmed, ?_, ?_, ?_⟩
  · have h := X.room
    have hU : ((T.setVm s.vm).setFrames (.invoking m args :: below)).localsInUse = s.localsInUse := by
      rw [State.localsInUse_invoking hF (meth := meth) (c := c) X.method X.code, State.localsInUse_invoking X.frames X.method X.code]
    simp only [State.hasRoom, Bool.and_eq_true, decide_eq_true_eq] at h ⊢
    obtain ⟨⟨⟨⟨h1, h2, h3, h4, h5, h6⟩, h7⟩, h8⟩, h9⟩ := h
    rw [X.frames, List.length_cons] at h2 h3
    have q1 := X.heapSize
    have q2 := X.used
    simp only [hF, hU, List.length_cons, State.stackLimits_setFrames, State.stackBytes_setFrames, hl9, hb9]
    refine ⟨⟨⟨⟨by omega, by omega, by omega, by omega, by omega, h6⟩, ?_⟩, ?_⟩, X.book⟩
    · show T.heap.size + R'.cells ≤ e.platform.maxCells
      omega
    · show T.slotsUsed + R'.slots ≤ e.platform.maxSlots
      omega
  · rw [State.stackLimits_setFrames]; rfl
  · rw [State.stackBytes_setFrames]; rfl
  · refine ⟨?_, Nat.le_refl _, Nat.le_refl _, ?_, ?_, fun a c9 h9 => ⟨c9, h9, rfl, rfl, fun _ _ => rfl⟩⟩
    · obtain ⟨t, ht, -⟩ := State.frames_cons hr
      show T.setVm s.vm = { ((T.setVm s.vm).setFrames (.invoking m args :: below)).setFrames (T.setVm s.vm).frames with heap := T.heap, slotsUsed := T.slotsUsed }
      rw [State.setFrames_setFrames, State.setFrames_self ht]
      rfl
    · show T.slotsUsed = T.slotsUsed + ((T.heap.toList.drop T.heap.size).map (·.slots.size)).sum
      rw [List.drop_eq_nil_of_le (Nat.le_of_eq Array.length_toList)]
      rfl
    · show ((T.heap.toList.drop T.heap.size).map (·.slots.size)).sum ≤ 0
      rw [List.drop_eq_nil_of_le (Nat.le_of_eq Array.length_toList)]
      exact Nat.le_refl _
/-- 'throw new E()': new; dup; invokespecial; athrow -/
theorem vx_throw0 {cc : ByteArray} {pc : Nat} (hexec : p.tables.exec = Jvm.exec) (hb : c.code = cc) (hl : l.stackTraces = false) {own cls : String} {names : List String} {ik ic mc ms : Nat} {A : Nat → Prop}
    (hown : s.vm.findClass own = some m.cls) (hcls : Bundle.fit cls = true) (hnames : ∀ n ∈ names, Bundle.fit n = true)
    (hk : (Cond.classLink own ik cls).before args s = true) (hini : (Cond.initialized cls).before args s = true) (hat : ∀ w ∈ vx_at0 own ic cls names, w.before args s = true)
    (hgood : ∀ w ∈ Cond.classLink own ik cls :: Cond.initialized cls :: vx_at0 own ic cls names, vx_ot w = true)
    (hU : vx_Zq Bundle.tN "UNASSIGNED_STACK" Bundle.steD A s s.heap) (hN : vx_Zq Bundle.tN "SUPPRESSED_SENTINEL" Bundle.listD A s s.heap) (hS : va_S A s.heap H locs) (hsize : ls.size = c.maxLocals)
    (d0 : decode cc pc = .ok (.new ik, 3)) (d3 : decode cc (pc + 3) = .ok (.dup, 1)) (d4 : decode cc (pc + 4) = .ok (.invokespecial ic, 3)) (d7 : decode cc (pc + 7) = .ok (.athrow, 1))
    (hout : ∀ x ∈ c.exceptionTable.toList, covers x (pc + 7) = false)
    (hRframes : names.length + 3 < R.frames) (hRlocals : (rest.map fun v => v.category).sum + (13 * (names.length + 1) + 42) ≤ R.locals) (hRcells : cells + 1 ≤ R.cells) (hRslots : slots + 6 ≤ R.slots) (hlocks : meth.locks = false)
    (hx : ∀ t : State, s.vm.Alike t.vm → H.size ≤ t.heap.size → (∀ q : Nat, q < H.size → t.heap[q]? = H[q]?) → XC cls s t)
    (hf : ∀ z ∈ locs, free z.base) (hc : cells + 1 ≤ mc) (hs : slots + 6 ≤ ms) :
    W p l e R s m args below meth c H locs cells slots (vx_MQ below Qc XC args s mc ms free) (F0 m pc ls rest) := by
  intro T hT X
  have htr : e.platform.stackTraces = false := (show e.platform.stackTraces = l.stackTraces by rw [X.admits.platform]).trans hl
  have Y := vx_rebase X (R' := { frames := R.frames, locals := R.locals, cells := 1, slots := 6 }) (Nat.le_refl _) (Nat.le_refl _) hRcells hRslots
  obtain ⟨s', hA⟩ : ∃ z, z = (T.setVm s.vm).setFrames (.invoking m args :: below) := ⟨_, rfl⟩
  rw [← hA] at Y
  have hvm : s'.vm = s.vm := by rw [hA]; rfl
  have hhp : s'.heap = H := by rw [hA]; exact hT
  have hW0 : s.WarmedH s'.vm := by rw [hvm]; exact State.WarmedH.refl s
  have hat' : ∀ w ∈ vx_at0 own ic cls names, w.before args s' = true := fun w hw => vx_ot_at hW0 hvm.symm (hgood w (List.mem_cons_of_mem _ (List.mem_cons_of_mem _ hw))) (hat w hw)
  have hk' : (Cond.classLink own ik cls).before args s' = true := vx_ot_at hW0 hvm.symm (hgood _ List.mem_cons_self) hk
  have hini' : (Cond.initialized cls).before args s' = true := vx_ot_at hW0 hvm.symm (hgood _ (List.mem_cons_of_mem _ List.mem_cons_self)) hini
  have hU' : vx_Zq Bundle.tN "UNASSIGNED_STACK" Bundle.steD A s' s'.heap := by rw [hhp]; exact vx_Zq.moved hW0.alike (hU.kept hS.2.1)
  have hN' : vx_Zq Bundle.tN "SUPPRESSED_SENTINEL" Bundle.listD A s' s'.heap := by rw [hhp]; exact vx_Zq.moved hW0.alike (hN.kept hS.2.1)
  have h : ∀ w ∈ Bundle.ownAtoms0 own ic cls names, w.before args s' = true := vx_own hat' (vx_isRefq hU'.1) (vx_isRefq hN'.1) hU'.2.word hN'.2.word
  have hown' : s'.vm.findClass own = some m.cls := by rw [hvm]; exact hown
  have hins : (Cond.instantiable cls 6).before args s' = true := h _ (by simp [Bundle.ownAtoms0])
  obtain ⟨vm₁, cX, kX, hfX, hkX, -, -, X₁, st1⟩ := Y.newCold hexec (own := own) (C := cls) (index := ik) (n := 6) hown' hk' hins hini'
    (g := F0 m pc ls rest) rfl (by rw [hb]; exact d0) (Nat.le_refl _) (Nat.le_refl _)
  generalize hT1 : (T.setVm vm₁).pushCell { cls := cX, slots := kX.instanceTypes.map defaultValue, vm := .none } = T1 at X₁ st1
  have hcat : (Value.ref T.heap.size).category = 1 := rfl
  have hcellA : T1.heap[T.heap.size]? = some (freshCell cX kX) := by rw [← hT1]; exact State.heap_pushCell_size _ _
  have d3' : decode c.code (pc + 3) = .ok (.dup, 1) := by rw [hb]; exact d3
  obtain ⟨U, hsteps, hrun, hend, hW, hsame, ce, hce, hO⟩ := X₁.ctorThrow0 hexec htr (own := own) (cls := cls) (names := names) (ic := ic) hown' hcls hnames h (fun x hx => nomatch hx) hfX hkX hcellA (by rw [hhp, hT]; exact Nat.le_refl _)
    (g := { method := m, pc := pc + 4, locals := ls, stack := .ref T.heap.size :: .ref T.heap.size :: rest, locked := none }) rfl hsize rfl rfl (rest := rest) rfl
    (by rw [hb]; exact d4) (by rw [hb]; exact d7) hout hRframes (by simp only [List.map_cons, List.sum_cons, hcat]; omega) hlocks
  obtain ⟨f1, f2⟩ := vx_frame hsame
  rw [hhp] at f1 f2
  have hWs : s.WarmedH U.vm := State.WarmedH.trans hW0 hW
  have hcl : s.vm.findClass cls = some ce.cls := by
    have h9 := hO.cls
    rw [hvm] at h9
    exact h9
  have hall : s.sameButNew ({ U with vm := s.vm } : State) locs mc ms := by
    subst hA
    obtain ⟨e1, e2⟩ := hsame
    rw [State.setFrames_setFrames] at e1
    have h2 : (T.setVm s.vm).sameButNew ({ U with vm := s.vm } : State) [] (0 + 1) (0 + 6) := ⟨e1, e2⟩
    have h3 := X.same.trans h2
    rw [List.append_nil] at h3
    exact h3.mono hc hs
  refine ⟨U, ?_, .threw T.heap.size, hrun, hend, Or.inr ⟨T.heap.size, rfl, cls, ce, locs, hx U hWs.alike f1 (fun q hq => f2 q hq (fun z hz => nomatch hz)), hce, hO.vm, hcl, hWs, hall, hf⟩⟩
  refine st1 _ ?_
  show Steps p.tables e below (T1.setTop { method := m, pc := pc + 3, locals := ls, stack := .ref T.heap.size :: rest, locked := none }) _
  jvm_step X₁.here [X₁.here.top, hexec, d3', Value.category]
  exact hsteps
/-- 'throw new E("text")': new; dup; ldc; invokespecial; athrow -/
theorem vx_throwS {cc : ByteArray} {pc : Nat} (hexec : p.tables.exec = Jvm.exec) (hb : c.code = cc) (hl : l.stackTraces = false) {own cls text : String} {names : List String} {ik is ic mc ms sa : Nat} {A : Nat → Prop}
    (hown : s.vm.findClass own = some m.cls) (hcls : Bundle.fit cls = true) (hnames : ∀ n ∈ names, Bundle.fit n = true)
    (hk : (Cond.classLink own ik cls).before args s = true) (hini : (Cond.initialized cls).before args s = true) (hstr : vk_R own is text sa s) (hat : ∀ w ∈ vx_atS own ic cls names, w.before args s = true)
    (hgood : ∀ w ∈ Cond.classLink own ik cls :: Cond.initialized cls :: vx_atS own ic cls names, vx_ot w = true)
    (hU : vx_Zq Bundle.tN "UNASSIGNED_STACK" Bundle.steD A s s.heap) (hN : vx_Zq Bundle.tN "SUPPRESSED_SENTINEL" Bundle.listD A s s.heap) (hS : va_S A s.heap H locs) (hsize : ls.size = c.maxLocals)
    (d0 : decode cc pc = .ok (.new ik, 3)) (d3 : decode cc (pc + 3) = .ok (.dup, 1)) (d4 : decode cc (pc + 4) = .ok (.ldc is, 2)) (d6 : decode cc (pc + 6) = .ok (.invokespecial ic, 3)) (d9 : decode cc (pc + 9) = .ok (.athrow, 1))
    (hout : ∀ x ∈ c.exceptionTable.toList, covers x (pc + 9) = false)
    (hRframes : names.length + 3 < R.frames) (hRlocals : (rest.map fun v => v.category).sum + (13 * (names.length + 1) + 43) ≤ R.locals) (hRcells : cells + 1 ≤ R.cells) (hRslots : slots + 6 ≤ R.slots) (hlocks : meth.locks = false)
    (hx : ∀ t : State, s.vm.Alike t.vm → H.size ≤ t.heap.size → (∀ q : Nat, q < H.size → t.heap[q]? = H[q]?) → XC cls s t)
    (hf : ∀ z ∈ locs, free z.base) (hc : cells + 1 ≤ mc) (hs : slots + 6 ≤ ms) :
    W p l e R s m args below meth c H locs cells slots (vx_MQ below Qc XC args s mc ms free) (F0 m pc ls rest) := by
  intro T hT X
  have htr : e.platform.stackTraces = false := (show e.platform.stackTraces = l.stackTraces by rw [X.admits.platform]).trans hl
  have Y := vx_rebase X (R' := { frames := R.frames, locals := R.locals, cells := 1, slots := 6 }) (Nat.le_refl _) (Nat.le_refl _) hRcells hRslots
  obtain ⟨s', hA⟩ : ∃ z, z = (T.setVm s.vm).setFrames (.invoking m args :: below) := ⟨_, rfl⟩
  rw [← hA] at Y
  have hvm : s'.vm = s.vm := by rw [hA]; rfl
  have hhp : s'.heap = H := by rw [hA]; exact hT
  have hW0 : s.WarmedH s'.vm := by rw [hvm]; exact State.WarmedH.refl s
  have hat' : ∀ w ∈ vx_atS own ic cls names, w.before args s' = true := fun w hw => vx_ot_at hW0 hvm.symm (hgood w (List.mem_cons_of_mem _ (List.mem_cons_of_mem _ hw))) (hat w hw)
  have hk' : (Cond.classLink own ik cls).before args s' = true := vx_ot_at hW0 hvm.symm (hgood _ List.mem_cons_self) hk
  have hini' : (Cond.initialized cls).before args s' = true := vx_ot_at hW0 hvm.symm (hgood _ (List.mem_cons_of_mem _ List.mem_cons_self)) hini
  have hU' : vx_Zq Bundle.tN "UNASSIGNED_STACK" Bundle.steD A s' s'.heap := by rw [hhp]; exact vx_Zq.moved hW0.alike (hU.kept hS.2.1)
  have hN' : vx_Zq Bundle.tN "SUPPRESSED_SENTINEL" Bundle.listD A s' s'.heap := by rw [hhp]; exact vx_Zq.moved hW0.alike (hN.kept hS.2.1)
  have h : ∀ w ∈ Bundle.ownAtoms own ic cls names, w.before args s' = true := vx_own hat' (vx_isRefq hU'.1) (vx_isRefq hN'.1) hU'.2.word hN'.2.word
  have hown' : s'.vm.findClass own = some m.cls := by rw [hvm]; exact hown
  have hins : (Cond.instantiable cls 6).before args s' = true := h _ (by simp [Bundle.ownAtoms])
  obtain ⟨vm₁, cX, kX, hfX, hkX, -, -, X₁, st1⟩ := Y.newCold hexec (own := own) (C := cls) (index := ik) (n := 6) hown' hk' hins hini'
    (g := F0 m pc ls rest) rfl (by rw [hb]; exact d0) (Nat.le_refl _) (Nat.le_refl _)
  generalize hT1 : (T.setVm vm₁).pushCell { cls := cX, slots := kX.instanceTypes.map defaultValue, vm := .none } = T1 at X₁ st1
  have hcat : (Value.ref T.heap.size).category = 1 := rfl
  have hcellA : T1.heap[T.heap.size]? = some (freshCell cX kX) := by rw [← hT1]; exact State.heap_pushCell_size _ _
  have d3' : decode c.code (pc + 3) = .ok (.dup, 1) := by rw [hb]; exact d3
  have d4' : decode c.code (pc + 4) = .ok (.ldc is, 2) := by rw [hb]; exact d4
  have hstr' : vk_R own is text sa s' := vk_R.warm hW0 hstr
  obtain ⟨U, hsteps, hrun, hend, hW, hsame, ce, hce, hO⟩ := X₁.ctorThrowS hexec htr (own := own) (cls := cls) (names := names) (ic := ic) hown' hcls hnames h (fun x hx => nomatch hx) hfX hkX hcellA (by rw [hhp, hT]; exact Nat.le_refl _) (msg := .ref sa) rfl
    (g := { method := m, pc := pc + 6, locals := ls, stack := .ref sa :: .ref T.heap.size :: .ref T.heap.size :: rest, locked := none }) rfl hsize rfl rfl (rest := rest) rfl
    (by rw [hb]; exact d6) (by rw [hb]; exact d9) hout hRframes (by simp only [List.map_cons, List.sum_cons, hcat]; omega) hlocks
  obtain ⟨f1, f2⟩ := vx_frame hsame
  rw [hhp] at f1 f2
  have hWs : s.WarmedH U.vm := State.WarmedH.trans hW0 hW
  have hcl : s.vm.findClass cls = some ce.cls := by
    have h9 := hO.cls
    rw [hvm] at h9
    exact h9
  have hall : s.sameButNew ({ U with vm := s.vm } : State) locs mc ms := by
    subst hA
    obtain ⟨e1, e2⟩ := hsame
    rw [State.setFrames_setFrames] at e1
    have h2 : (T.setVm s.vm).sameButNew ({ U with vm := s.vm } : State) [] (0 + 1) (0 + 6) := ⟨e1, e2⟩
    have h3 := X.same.trans h2
    rw [List.append_nil] at h3
    exact h3.mono hc hs
  refine ⟨U, ?_, .threw T.heap.size, hrun, hend, Or.inr ⟨T.heap.size, rfl, cls, ce, locs, hx U hWs.alike f1 (fun q hq => f2 q hq (fun z hz => nomatch hz)), hce, hO.vm, hcl, hWs, hall, hf⟩⟩
  refine st1 _ ?_
  show Steps p.tables e below (T1.setTop { method := m, pc := pc + 3, locals := ls, stack := .ref T.heap.size :: rest, locked := none }) _
  jvm_step X₁.here [X₁.here.top, hexec, d3', Value.category]
  exact X₁.ldcString hexec (own := own) (text := text) (index := is) (a := sa) hown' hstr'.1 hstr'.2
    (g := { method := m, pc := pc + 4, locals := ls, stack := .ref T.heap.size :: .ref T.heap.size :: rest, locked := none }) rfl d4' _ hsteps
/-- 'throw new E("text")', the text by a wide index -/
theorem vx_throwSW {cc : ByteArray} {pc : Nat} (hexec : p.tables.exec = Jvm.exec) (hb : c.code = cc) (hl : l.stackTraces = false) {own cls text : String} {names : List String} {ik is ic mc ms sa : Nat} {A : Nat → Prop}
    (hown : s.vm.findClass own = some m.cls) (hcls : Bundle.fit cls = true) (hnames : ∀ n ∈ names, Bundle.fit n = true)
    (hk : (Cond.classLink own ik cls).before args s = true) (hini : (Cond.initialized cls).before args s = true) (hstr : vk_R own is text sa s) (hat : ∀ w ∈ vx_atS own ic cls names, w.before args s = true)
    (hgood : ∀ w ∈ Cond.classLink own ik cls :: Cond.initialized cls :: vx_atS own ic cls names, vx_ot w = true)
    (hU : vx_Zq Bundle.tN "UNASSIGNED_STACK" Bundle.steD A s s.heap) (hN : vx_Zq Bundle.tN "SUPPRESSED_SENTINEL" Bundle.listD A s s.heap) (hS : va_S A s.heap H locs) (hsize : ls.size = c.maxLocals)
    (d0 : decode cc pc = .ok (.new ik, 3)) (d3 : decode cc (pc + 3) = .ok (.dup, 1)) (d4 : decode cc (pc + 4) = .ok (.ldc_w is, 3)) (d7 : decode cc (pc + 7) = .ok (.invokespecial ic, 3)) (d10 : decode cc (pc + 10) = .ok (.athrow, 1))
    (hout : ∀ x ∈ c.exceptionTable.toList, covers x (pc + 10) = false)
    (hRframes : names.length + 3 < R.frames) (hRlocals : (rest.map fun v => v.category).sum + (13 * (names.length + 1) + 43) ≤ R.locals) (hRcells : cells + 1 ≤ R.cells) (hRslots : slots + 6 ≤ R.slots) (hlocks : meth.locks = false)
    (hx : ∀ t : State, s.vm.Alike t.vm → H.size ≤ t.heap.size → (∀ q : Nat, q < H.size → t.heap[q]? = H[q]?) → XC cls s t)
    (hf : ∀ z ∈ locs, free z.base) (hc : cells + 1 ≤ mc) (hs : slots + 6 ≤ ms) :
    W p l e R s m args below meth c H locs cells slots (vx_MQ below Qc XC args s mc ms free) (F0 m pc ls rest) := by
  intro T hT X
  have htr : e.platform.stackTraces = false := (show e.platform.stackTraces = l.stackTraces by rw [X.admits.platform]).trans hl
  have Y := vx_rebase X (R' := { frames := R.frames, locals := R.locals, cells := 1, slots := 6 }) (Nat.le_refl _) (Nat.le_refl _) hRcells hRslots
  obtain ⟨s', hA⟩ : ∃ z, z = (T.setVm s.vm).setFrames (.invoking m args :: below) := ⟨_, rfl⟩
  rw [← hA] at Y
  have hvm : s'.vm = s.vm := by rw [hA]; rfl
  have hhp : s'.heap = H := by rw [hA]; exact hT
  have hW0 : s.WarmedH s'.vm := by rw [hvm]; exact State.WarmedH.refl s
  have hat' : ∀ w ∈ vx_atS own ic cls names, w.before args s' = true := fun w hw => vx_ot_at hW0 hvm.symm (hgood w (List.mem_cons_of_mem _ (List.mem_cons_of_mem _ hw))) (hat w hw)
  have hk' : (Cond.classLink own ik cls).before args s' = true := vx_ot_at hW0 hvm.symm (hgood _ List.mem_cons_self) hk
  have hini' : (Cond.initialized cls).before args s' = true := vx_ot_at hW0 hvm.symm (hgood _ (List.mem_cons_of_mem _ List.mem_cons_self)) hini
  have hU' : vx_Zq Bundle.tN "UNASSIGNED_STACK" Bundle.steD A s' s'.heap := by rw [hhp]; exact vx_Zq.moved hW0.alike (hU.kept hS.2.1)
  have hN' : vx_Zq Bundle.tN "SUPPRESSED_SENTINEL" Bundle.listD A s' s'.heap := by rw [hhp]; exact vx_Zq.moved hW0.alike (hN.kept hS.2.1)
  have h : ∀ w ∈ Bundle.ownAtoms own ic cls names, w.before args s' = true := vx_own hat' (vx_isRefq hU'.1) (vx_isRefq hN'.1) hU'.2.word hN'.2.word
  have hown' : s'.vm.findClass own = some m.cls := by rw [hvm]; exact hown
  have hins : (Cond.instantiable cls 6).before args s' = true := h _ (by simp [Bundle.ownAtoms])
  obtain ⟨vm₁, cX, kX, hfX, hkX, -, -, X₁, st1⟩ := Y.newCold hexec (own := own) (C := cls) (index := ik) (n := 6) hown' hk' hins hini'
    (g := F0 m pc ls rest) rfl (by rw [hb]; exact d0) (Nat.le_refl _) (Nat.le_refl _)
  generalize hT1 : (T.setVm vm₁).pushCell { cls := cX, slots := kX.instanceTypes.map defaultValue, vm := .none } = T1 at X₁ st1
  have hcat : (Value.ref T.heap.size).category = 1 := rfl
  have hcellA : T1.heap[T.heap.size]? = some (freshCell cX kX) := by rw [← hT1]; exact State.heap_pushCell_size _ _
  have d3' : decode c.code (pc + 3) = .ok (.dup, 1) := by rw [hb]; exact d3
  have d4' : decode c.code (pc + 4) = .ok (.ldc_w is, 3) := by rw [hb]; exact d4
  have hstr' : vk_R own is text sa s' := vk_R.warm hW0 hstr
  obtain ⟨U, hsteps, hrun, hend, hW, hsame, ce, hce, hO⟩ := X₁.ctorThrowS hexec htr (own := own) (cls := cls) (names := names) (ic := ic) hown' hcls hnames h (fun x hx => nomatch hx) hfX hkX hcellA (by rw [hhp, hT]; exact Nat.le_refl _) (msg := .ref sa) rfl
    (g := { method := m, pc := pc + 7, locals := ls, stack := .ref sa :: .ref T.heap.size :: .ref T.heap.size :: rest, locked := none }) rfl hsize rfl rfl (rest := rest) rfl
    (by rw [hb]; exact d7) (by rw [hb]; exact d10) hout hRframes (by simp only [List.map_cons, List.sum_cons, hcat]; omega) hlocks
  obtain ⟨f1, f2⟩ := vx_frame hsame
  rw [hhp] at f1 f2
  have hWs : s.WarmedH U.vm := State.WarmedH.trans hW0 hW
  have hcl : s.vm.findClass cls = some ce.cls := by
    have h9 := hO.cls
    rw [hvm] at h9
    exact h9
  have hall : s.sameButNew ({ U with vm := s.vm } : State) locs mc ms := by
    subst hA
    obtain ⟨e1, e2⟩ := hsame
    rw [State.setFrames_setFrames] at e1
    have h2 : (T.setVm s.vm).sameButNew ({ U with vm := s.vm } : State) [] (0 + 1) (0 + 6) := ⟨e1, e2⟩
    have h3 := X.same.trans h2
    rw [List.append_nil] at h3
    exact h3.mono hc hs
  refine ⟨U, ?_, .threw T.heap.size, hrun, hend, Or.inr ⟨T.heap.size, rfl, cls, ce, locs, hx U hWs.alike f1 (fun q hq => f2 q hq (fun z hz => nomatch hz)), hce, hO.vm, hcl, hWs, hall, hf⟩⟩
  refine st1 _ ?_
  show Steps p.tables e below (T1.setTop { method := m, pc := pc + 3, locals := ls, stack := .ref T.heap.size :: rest, locked := none }) _
  jvm_step X₁.here [X₁.here.top, hexec, d3', Value.category]
  exact X₁.ldcStringW hexec (own := own) (text := text) (index := is) (a := sa) hown' hstr'.1 hstr'.2
    (g := { method := m, pc := pc + 4, locals := ls, stack := .ref T.heap.size :: .ref T.heap.size :: rest, locked := none }) rfl d4' _ hsteps
end Ends
section Bodies
variable {l : Launch}
theorem vx_ofW {y : MethodName} {ws ws' : List Cond} {rm : Room} {Pc : Array Value → State → Prop} {Qc : Array Value → State → Outcome → State → Prop} {XC : String → State → State → Prop} {mc ms : Nat} {free : Addr → Prop} {cc : ByteArray} {maxL : Nat} {ret : Option FieldType}
    (hy : plainName y.cls = true) (hw : ws = Cond.code y cc maxL ret :: ws')
    (body : ∀ p e s m args below meth c s₁, BodyLoose p l y (headSpec ws rm) cc maxL ret e s m args below meth c s₁ → c.maxLocals = maxL → (∀ x ∈ c.exceptionTable.toList, False) → Pc args s →
      W p l e (headSpec ws rm).room s m args below meth c s.heap [] 0 0 (vx_MQ below Qc XC args s mc ms free) (entryFrame m args maxL)) : vx_Met l y ws rm Pc Qc XC mc ms free := by
  refine MetFree.of_bodyS (code := cc) (maxLocals := maxL) (ret := ret) hy ?_ ?_
  · intro args s m h hn
    obtain ⟨meth, c, h1, h2, h3, h4, h5, h6, -, -⟩ := Cond.code_spec hn (atoms_spec (ws := ws) h _ (by rw [hw]; exact List.mem_cons_self))
    exact ⟨meth, c, h1, h2, h3, h4, h5, h6⟩
  · intro p e s m args below meth c s₁ B hml hP _
    have hh0 : s₁.heap = s.heap := by rw [B.state]; rfl
    have ht : ∀ x ∈ c.exceptionTable.toList, False := by
      obtain ⟨meth9, c9, h1, h2, -, -, -, -, h7, -⟩ := Cond.code_spec B.named (atoms_spec (ws := ws) B.pre _ (by rw [hw]; exact List.mem_cons_self))
      cases Option.some.inj (h1.symm.trans B.method)
      cases Option.some.inj (h2.symm.trans (Stand.of_body B).code)
      intro x hx
      rw [Array.isEmpty_iff.mp h7] at hx
      cases hx
    obtain ⟨t, a1, o, b1, b2, b3⟩ := body p e s m args below meth c s₁ B hml ht hP s₁ hh0 (Stand.of_body B)
    exact ⟨t, o, a1, b1, b2, b3⟩
/-- the table of a body with handlers -/
theorem vx_table {p : Program} {x y : MethodName} {S : Spec} {cc bytes : ByteArray} {maxL maxL' : Nat} {ret ret' : Option FieldType} {e : Env} {s s₁ : State} {m : MethodId} {args : Array Value} {below : List Frame} {meth : Method} {c : Code} {hh : List (Nat × Nat × Nat × Nat)}
    (B : BodyLoose p l y S cc maxL ret e s m args below meth c s₁) (h : (Cond.codeWith y bytes maxL' ret' hh).before args s = true) : c.exceptionTable.toList = tableOf hh := by
  obtain ⟨m9, meth9, c9, hn9, h1, h2, -, -, h6, -⟩ := Cond.codeWith_spec h
  cases Option.some.inj (hn9.symm.trans B.named)
  cases Option.some.inj (h1.symm.trans B.method)
  cases Option.some.inj (h2.symm.trans (Stand.of_body B).code)
  rw [← h6, table_eq]
end Bodies
end VXA
/-! ===== END ===== -/
/-! ===== BEGIN a static call of a method with an exception table ===== -/
section VXS
variable {p : Program} {l : Launch} {e : Env} {R : Room} {s : State} {m : MethodId} {args : Array Value} {below : List Frame} {meth : Method} {c : Code} {T : State} {H : Heap} {locs : List Loc} {cells slots : Nat}
abbrev vx_CSW (R : Room) (s : State) (args : Array Value) (own : String) (index : Nat) (y : MethodName) (bytes : ByteArray) (maxL : Nat) (ret : Option FieldType) (hh : List (Nat × Nat × Nat × Nat)) (ws : List Cond) (rm : Room) (mc ms n : Nat) : Prop :=
  (rm.cells = mc ∧ rm.slots = ms ∧ rm.frames + 1 ≤ R.frames ∧ 8 + (maxL + 11) + rm.locals ≤ R.locals ∧ (∀ w ∈ ws, ∀ (a' : Array Value) (U : State), s.WarmedH U.vm → w.before a' U = true) ∧ Cond.codeWith y bytes maxL ret hh ∈ ws) ∧
  (Cond.codeWith y bytes maxL ret hh).before args s = true ∧ (Cond.initialized y.cls).before args s = true ∧ (y.cls ≠ "java/lang/invoke/MethodHandle" ∧ y.cls ≠ "java/lang/invoke/VarHandle") ∧
  (∀ sig, parseMethodDescriptor y.desc = some sig → n = sig.parameters.length) ∧ (Cond.methodLink own index y).before args s = true ∧ (Cond.static y).before args s = true
theorem vx_cwSW {own : String} {index maxL mc ms : Nat} {y : MethodName} {bytes : ByteArray} {ret : Option FieldType} {hh : List (Nat × Nat × Nat × Nat)} {Ts ws ws' : List Cond} {rm : Room} (n : Nat) (ht : ∀ w ∈ Ts, w.before args s = true) (hT : GoodIn Ts (va_wsS own index y ws)) (hw : ws = Cond.codeWith y bytes maxL ret hh :: ws') (hrc : rm.cells = mc) (hrs : rm.slots = ms)
    (hd : y.cls ≠ "java/lang/invoke/MethodHandle" ∧ y.cls ≠ "java/lang/invoke/VarHandle" ∧ (parseMethodDescriptor y.desc).map (fun d => d.parameters.length) = some n) (hR : rm.frames + 1 ≤ R.frames ∧ 8 + (maxL + 11) + rm.locals ≤ R.locals) :
    vx_CSW R s args own index y bytes maxL ret hh ws rm mc ms n := by
  have ok : ∀ w ∈ va_wsS own index y ws, w.before args s = true := fun w h => ht w (hT w h).1
  have hG : GoodIn Ts ws := fun w h => hT w (by unfold va_wsS; exact List.mem_append_right _ h)
  have hc : Cond.codeWith y bytes maxL ret hh ∈ ws := by rw [hw]; exact List.mem_cons_self
  refine ⟨⟨hrc, hrs, hR.1, hR.2, pay_in ht hG, hc⟩, ht _ (hG _ hc).1, ok _ (by simp [va_wsS]), ⟨hd.1, hd.2.1⟩, fun sig h => ?_, ok _ (by simp [va_wsS]), ok _ (by simp [va_wsS])⟩
  have h2 := hd.2.2
  rw [h] at h2
  exact (Option.some.inj h2).symm
theorem vx_callSW (X : Stand p l e R s m args below meth c T locs cells slots) (hexec : p.tables.exec = Jvm.exec) {own : String} {index : Nat} {y : MethodName} {bytes : ByteArray} {maxL : Nat} {ret : Option FieldType} {hh : List (Nat × Nat × Nat × Nat)}
    (hown : s.vm.findClass own = some m.cls) (hlink : (Cond.methodLink own index y).before args s = true) (hstat : (Cond.static y).before args s = true) (hinit : (Cond.initialized y.cls).before args s = true)
    (hcode : (Cond.codeWith y bytes maxL ret hh).before args s = true) (hy : y.cls ≠ "java/lang/invoke/MethodHandle" ∧ y.cls ≠ "java/lang/invoke/VarHandle")
    {W9 : Nat} {Pre : Pt → Array Value → Prop} {Post : Pt → Array Value → Option Value → Pt → Prop} (hK : Back l R p e below s args y 3 W9 Pre Post)
    {g : JFrame} (hg : g.method = m) (hsize : g.locals.size = c.maxLocals) {argsL rest : List Value} (hlen : ∀ sig, parseMethodDescriptor y.desc = some sig → argsL.length = sig.parameters.length)
    (hstack : g.stack = argsL.reverse ++ rest) (hW : 2 * g.monitorRoom + (rest.map fun v => v.category).sum ≤ W9) (hdg : decode c.code g.pc = .ok (.invokestatic index, 3))
    (hpre : ∀ vm₁, s.WarmedH vm₁ → Pre ⟨T.setVm vm₁, locs, cells, slots⟩ argsL.toArray) :
    ∃ (v : Option Value) (vm₁ : Vm) (B : Pt), s.WarmedH vm₁ ∧ Stand p l e R s m args below meth c B.U B.locs B.cells B.slots ∧ Post ⟨T.setVm vm₁, locs, cells, slots⟩ argsL.toArray v B ∧
      ∀ target, Steps p.tables e below (B.U.setTop { g with pc := g.pc + 3, stack := v.toList ++ rest }) target → Steps p.tables e below (T.setTop g) target := by
  obtain ⟨mk, methM, cM, hnamed, hmethM, -, -, -, -, -, -, hsigM⟩ := Cond.codeWith_spec hcode
  have hstatic : methM.isStatic = true := Cond.static_spec hnamed hmethM hstat
  obtain ⟨kP, hkP, -⟩ := className_of_methodNamed hnamed
  have hinitP : kP.init = .initialized := Cond.initialized_spec (findClass_of_methodNamed hnamed) hkP hinit
  obtain ⟨vm₁, X₁, hstep₁⟩ := X.invokestatic hexec hown hlink hnamed hmethM hstatic hkP hinitP hy (g := g) hg (argsL := argsL) (rest := rest) (hlen _ hsigM) hstack hdg
  obtain ⟨v, B, X', hpost, hsteps⟩ := hK m meth c ⟨T.setVm vm₁, locs, cells, slots⟩ { g with stack := rest } (.invokestatic index) mk argsL.toArray X₁ hg hsize hdg hW (X₁.named hnamed) (hpre vm₁ X₁.warmed)
  exact ⟨v, vm₁, B, X₁.warmed, X', hpost, fun target h => hstep₁ _ fun acts => by rw [doInvoke_state]; exact hsteps.trans h⟩
theorem vx_runSW {y : MethodName} {bytes cc : ByteArray} {maxL nL mc ms n index : Nat} {ret : Option FieldType} {hh : List (Nat × Nat × Nat × Nat)} {ws : List Cond} {rm : Room} {Pc : Array Value → State → Prop} {Qc : Array Value → State → Outcome → State → Prop} {free : Addr → Prop} {Ts : List Cond} {own : String} {As rest : List Value} {g : JFrame}
    (S : CallFix p m c cc nL s args Ts own) (hM : Met l y ws rm Pc Qc mc ms free) (cw : vx_CSW R s args own index y bytes maxL ret hh ws rm mc ms n) (hp : PreS s H Pc As)
    (hg : g.method = m) (hn : As.length = n) (hsize : g.locals.size = nL) (hstack : g.stack = As.reverse ++ rest) (hW : 2 * g.monitorRoom + (rest.map fun v => v.category).sum ≤ 8) (hdg : decode cc g.pc = .ok (.invokestatic index, 3)) (hf : cells + mc ≤ R.cells ∧ slots + ms ≤ R.slots) :
    va_Run p l e R s m args below meth c H locs cells slots mc ms g rest (Qc As.toArray) (free) := by
  obtain ⟨⟨hrc, hrs, hfr, hlo, hws, hcw⟩, hcode, hini, hy, hlen, hl, hstt⟩ := cw
  have hK : Back l R p e below s args y 3 8 (PreOf R mc ms Pc) (PostOf Qc mc ms free) := va_backW (hh := hh) (bytes := bytes) (maxL := maxL) (ret := ret) hM hp.1 hrc hrs hfr hlo hws hcw (fun a' U hW => word_at hW (Or.inl (by first | rfl | simp [Cond.onTables, Cond.keeps, Cond.steady])) hini)
  obtain ⟨hx, hb, hml, ho, -⟩ := S
  intro T hT X
  obtain ⟨v, vm₁, ⟨U', l2, c2, s2⟩, hW₁, X', ⟨g', mk, t, L, e1, e2, hq, h1, hL, h2, h3⟩, st⟩ := vx_callSW X hx (hh := hh) (bytes := bytes) (maxL := maxL) (ret := ret) ho hl hstt hini hcode hy hK hg (hsize.trans hml.symm) (argsL := As) (rest := rest) (fun sig h => hn.trans (hlen sig h)) hstack hW (by rw [hb]; exact hdg)
    (fun vm₁ hW₁ => ⟨hf.1, hf.2, hp.2 (T.setVm vm₁) hT hW₁⟩)
  dsimp only [Pt.U, Pt.locs, Pt.cells, Pt.slots] at X' e1 e2 h1 h2 h3 st
  subst h1; subst h2; subst h3
  exact ⟨v, (T.setVm vm₁).calling g' mk As.toArray, t, U', L, hT, X', hL, e1, e2, hq, st⟩
/-- not caught here, past rows that name other classes: it goes on to the caller -/
theorem vx_outP {p : Program} {l : Launch} {e : Env} {R : Room} {s : State} {m : MethodId} {args : Array Value} {below : List Frame} {meth : Method} {c : Code} {H : Heap} {locs : List Loc} {cells slots : Nat} {free : Addr → Prop} {ls : Array Slot} {rest : List Value} {Qc : Array Value → State → Outcome → State → Prop} {XC : String → State → State → Prop}
    {pc : Nat} {own E : String} {ce : Cell} {q : Addr} {mc ms : Nat} (hown : s.vm.findClass own = some m.cls) (hlocks : meth.locks = false)
    (hpass : ∀ z ∈ c.exceptionTable.toList, covers z pc = false ∨ (z.catchType ≠ 0 ∧ ∃ nm : String, (Cond.classLink own z.catchType nm).before args s = true ∧ va_Nc E nm s)) (hcell : H[q]? = some ce) (hv : ce.vm = .none) (hcl : s.vm.findClass E = some ce.cls)
    (hx : ∀ t : State, t.heap = H → s.vm.Alike t.vm → XC E s t) (hf : ∀ z ∈ locs, free z.base) (hc : cells ≤ mc) (hs : slots ≤ ms) :
    vx_W p l e R s m args below meth c H locs cells slots (vx_MQ below Qc XC args s mc ms free) (F0 m pc ls rest) q := by
  intro T hT X
  have hpl : e.platform.magicAccessors = ({} : Platform).magicAccessors := by rw [X.admits.platform]
  obtain ⟨vm', hW', X', st⟩ := X.outThrough hlocks q (g := F0 m pc ls rest) rfl rfl rfl (cell := ce) (by rw [hT]; exact hcell) (by rw [hv]; rfl)
    (by obtain ⟨k9, h9, -⟩ := Vm.findClass_spec hcl; exact ⟨k9, h9⟩) (fun z hz => by
      rcases hpass z hz with h | ⟨hz0, nm, hl1, hn1⟩
      · exact Or.inl h
      · obtain ⟨c6, hc6, hcl6⟩ := Cond.classLink_spec hown hl1 e.platform hpl
        obtain ⟨a8, b8, h1, h2, h3⟩ := hn1
        cases Option.some.inj (h1.symm.trans hcl)
        cases Option.some.inj (h2.symm.trans hc6)
        exact Or.inr ⟨hz0, _, hcl6, h3⟩)
  obtain ⟨g₀, hfr⟩ := X'.frames_eq
  have hcell9 : ((T.setVm vm').setFrames (.throwing q :: below)).heap[q]? = some ce := by
    show T.heap[q]? = some ce
    rw [hT]; exact hcell
  have hend : Ended ((T.setVm vm').setFrames (.throwing q :: below)) below (.threw q) := State.frames_setFrames _ (State.cur_lt_of_frames hfr)
  refine ⟨(T.setVm vm').setFrames (.throwing q :: below), ?_, .threw q, X'.here.running, hend, Or.inr ⟨q, rfl, E, ce, locs, hx _ hT (X'.ends _).1.alike, hcell9, hv, hcl, (X'.ends _).1, (X'.ends _).2.mono hc hs, hf⟩⟩
  rw [X.pushThrowing_eq]
  exact st
/-- a thing of a world lies in the heap -/
theorem vx_lt {D : va_G} {cl : List vw_C} {ws : va_W} {H1 : Heap} (h : va_P D cl ws H1) {k : Nat} {q : Nat × va_E} (hk : ws[k]? = some q) : q.1 < H1.size := (h k q hk).lt
end VXS
/-! ===== END ===== -/
/-! ===== BEGIN methods with a table of their own: called by a name, returning or throwing ===== -/
section VXH
/-! vx_backW, vx_callVX, vx_callSX, vx_callVW, vx_runVW, vx_runVX, vx_runSX, vx_ofWH follow the same proofs as their sisters above (Free/Laws.lean, Shelf42/LK1.lean); vx_outP calls Shelf42/NT130.lean (outThrough). -/
section
variable {l : Launch} {R : Room} {p : Program} {e : Env} {below : List Frame} {s : State} {sargs : Array Value} {y : MethodName} {len W9 : Nat}
theorem vx_backW {ws : List Cond} {rm : Room} {Pc : Array Value → State → Prop} {Qc : Array Value → State → Outcome → State → Prop} {XC : String → State → State → Prop} {mc ms : Nat} {free : Addr → Prop} {bytes : ByteArray} {maxL : Nat} {ret : Option FieldType} {hh : List (Nat × Nat × Nat × Nat)}
    (hM : vx_Met l y ws rm Pc Qc XC mc ms free) (hblind : FrameBlind Pc) (hrc : rm.cells = mc) (hrs : rm.slots = ms)
    (hframes : rm.frames + 1 ≤ R.frames) (hlocals : W9 + (maxL + 11) + rm.locals ≤ R.locals)
    (hws : ∀ w ∈ ws, ∀ a' U, s.WarmedH U.vm → w.before a' U = true) (hcode : Cond.codeWith y bytes maxL ret hh ∈ ws) (hinit : ∀ a' U, s.WarmedH U.vm → (Cond.initialized y.cls).before a' U = true) :
    vx_Back l R p e below s sargs y len W9 (PreOf R mc ms Pc) (PostOf Qc mc ms free) (vx_Post XC mc ms free) := by
  intro m meth c A g ig mk a X hg hsize hdg hW hn hp
  have h1 : (headSpec ws rm).pre.before a A.U = true := atoms_intro fun w hw => hws w hw _ _ X.warmed
  have h2 : (Cond.codeWith y bytes maxL ret hh).before a A.U = true := hws _ hcode _ _ X.warmed
  have h3 : (Cond.initialized y.cls).before a A.U = true := hinit _ _ X.warmed
  have h4 : A.cells + (headSpec ws rm).room.cells ≤ R.cells := by rw [show (headSpec ws rm).room.cells = mc from hrc]; exact hp.1
  have h5 : A.slots + (headSpec ws rm).room.slots ≤ R.slots := by rw [show (headSpec ws rm).room.slots = ms from hrs]; exact hp.2.1
  have hPc : Pc a (A.U.calling g mk a) := hblind _ _ _ _ hp.2.2
  obtain ⟨U, Ls, c0, s0⟩ := A
  dsimp only [Pt.U, Pt.locs, Pt.cells, Pt.slots] at h1 h2 h3 h4 h5 X hn hPc ⊢
  obtain ⟨m9, methY, cY, hn9, hmY, hcY, -, hlY, -⟩ := Cond.codeWith_spec h2
  cases Option.some.inj (hn9.symm.trans hn)
  obtain ⟨kY, hkY, -⟩ := className_of_methodNamed hn
  have hinitY : kY.init = .initialized := Cond.initialized_spec (findClass_of_methodNamed hn) hkY h3
  have h : At U g.method c below := by rw [hg]; exact X.here
  have hlocals9 : W9 + (maxL + 11) + (headSpec ws rm).room.locals ≤ R.locals := hlocals
  have happ : (headSpec ws rm).appliesLoose y e.platform (U.calling g mk a) = true :=
    Spec.appliesLoose_calling (g := g) h hdg hn hkY hinitY
      (X.room_calling (g := g) (R' := (headSpec ws rm).room) hsize hmY hcY hframes (by rw [hlY]; omega) h4 h5) h1
  obtain ⟨mid, hmid⟩ := h.above
  have hfr : (U.setTop g).frames = (.java g :: mid) ++ below := by rw [State.frames_setTop' g h.top, hmid]; rfl
  obtain ⟨o, s₂, hsteps, -, hend, hq⟩ := Steps.callFree hM p X.admits X.cas X.clock (acts := []) hfr happ hPc trivial
  have hq' : vx_Q Qc XC mc ms free a (U.calling g mk a) o s₂ := hq
  rw [State.frames_setTop' g h.top] at hend
  obtain ⟨g₀, hg0⟩ := Option.isSome_iff_exists.mp h.top
  obtain ⟨r, hr⟩ := State.topJava?_eq_some.mp hg0
  have hr' : (({ U with heap := s₂.heap, slotsUsed := s₂.slotsUsed } : State).setVm s₂.vm).frames = .java g₀ :: r := hr
  rcases hq' with ⟨hqc, L, hfe, hL⟩ | ⟨q, rfl, E, ce, L, hx, hce, hcv, hcl, hW₂, hsm, hL⟩
  · obtain ⟨⟨v, rfl⟩, hW₂, e2, q2, q3, q4, q5, q6⟩ := id hfe
    have e3 : s₂ = ({ (U.calling g mk a).setFrames s₂.frames with heap := s₂.heap, slotsUsed := s₂.slotsUsed } : State).setVm s₂.vm := by
      have : s₂ = ({ s₂ with vm := (U.calling g mk a).vm } : State).setVm s₂.vm := rfl
      rw [e2] at this
      exact this
    obtain ⟨c₂, i₂, len₂, hc₂, hd₂, hf₂⟩ := hend
    have hW' : U.WarmedH s₂.vm := hW₂
    have hcc : c₂ = c := by
      have h1 : s₂.code? g.method = U.code? g.method := by
        rw [State.code?_eq, State.code?_eq, hW'.alike.method?]
      exact Option.some.inj (hc₂.symm.trans (h1.trans h.code))
    subst hcc
    have hlen : len₂ = len := by rw [hdg] at hd₂; cases hd₂; rfl
    subst hlen
    have hs₂ : s₂ = (({ U with heap := s₂.heap, slotsUsed := s₂.slotsUsed } : State).setVm s₂.vm).setTop { g with pc := g.pc + len₂, stack := v.toList ++ g.stack } := by
      refine e3.trans ?_
      rw [hf₂, State.calling_eq h.top, State.setFrames_setFrames, State.setTop_of_frames _ hr', hr]
      rfl
    have hsame : U.sameButNew ({ U with heap := s₂.heap, slotsUsed := s₂.slotsUsed } : State) L mc ms := by
      refine ⟨?_, q2, q3, q4, q5, q6⟩
      obtain ⟨t, ht, -⟩ := State.frames_cons hr
      show ({ U with heap := s₂.heap, slotsUsed := s₂.slotsUsed } : State) = { U.setFrames U.frames with heap := s₂.heap, slotsUsed := s₂.slotsUsed }
      rw [State.setFrames_self ht]
    subst hg
    refine Or.inl ⟨v, ⟨(({ U with heap := s₂.heap, slotsUsed := s₂.slotsUsed } : State).setVm s₂.vm), Ls ++ L, c0 + mc, s0 + ms⟩,
      ⟨X.admits, X.cas, X.clock, X.frames, X.room, X.hears, X.method, X.code, (X.here.setHeapUsed s₂.heap s₂.slotsUsed).setVm hW'.alike, X.tail, State.WarmedH.trans X.warmed hW', X.limits, X.bytes, X.same.trans (hsame.setVm s.vm)⟩,
      ⟨g, mk, s₂, L, rfl, rfl, hqc, rfl, hL, rfl, rfl⟩, ?_⟩
    show Steps p.tables e below _ ((({ U with heap := s₂.heap, slotsUsed := s₂.slotsUsed } : State).setVm s₂.vm).setTop { g with pc := g.pc + len₂, stack := v.toList ++ g.stack })
    rw [← hs₂]
    exact hsteps
  · obtain ⟨e2, q2, q3, q4, q5, q6⟩ := id hsm
    have e3 : s₂ = ({ (U.calling g mk a).setFrames s₂.frames with heap := s₂.heap, slotsUsed := s₂.slotsUsed } : State).setVm s₂.vm := by
      have : s₂ = ({ s₂ with vm := (U.calling g mk a).vm } : State).setVm s₂.vm := rfl
      rw [e2] at this
      exact this
    have hf₂ : s₂.frames = .throwing q :: .java g :: U.frames.tail := hend
    have hW' : U.WarmedH s₂.vm := hW₂
    have hs₂ : s₂ = ((({ U with heap := s₂.heap, slotsUsed := s₂.slotsUsed } : State).setVm s₂.vm).setTop g).pushFrame (.throwing q) := by
      refine e3.trans ?_
      rw [hf₂, State.calling_eq h.top, State.setFrames_setFrames, State.pushFrame, State.frames_setTop _ hr', State.setTop_of_frames _ hr', State.setFrames_setFrames, hr]
      rfl
    have hsame : U.sameButNew ({ U with heap := s₂.heap, slotsUsed := s₂.slotsUsed } : State) L mc ms := by
      refine ⟨?_, q2, q3, q4, q5, q6⟩
      obtain ⟨t, ht, -⟩ := State.frames_cons hr
      show ({ U with heap := s₂.heap, slotsUsed := s₂.slotsUsed } : State) = { U.setFrames U.frames with heap := s₂.heap, slotsUsed := s₂.slotsUsed }
      rw [State.setFrames_self ht]
    subst hg
    refine Or.inr ⟨q, ⟨(({ U with heap := s₂.heap, slotsUsed := s₂.slotsUsed } : State).setVm s₂.vm), Ls ++ L, c0 + mc, s0 + ms⟩,
      ⟨X.admits, X.cas, X.clock, X.frames, X.room, X.hears, X.method, X.code, (X.here.setHeapUsed s₂.heap s₂.slotsUsed).setVm hW'.alike, X.tail, State.WarmedH.trans X.warmed hW', X.limits, X.bytes, X.same.trans (hsame.setVm s.vm)⟩,
      ⟨g, mk, s₂, L, E, ce, rfl, rfl, hx, hce, hcv, hcl, rfl, hL, rfl, rfl⟩, ?_⟩
    show Steps p.tables e below _ (((({ U with heap := s₂.heap, slotsUsed := s₂.slotsUsed } : State).setVm s₂.vm).setTop g).pushFrame (.throwing q))
    rw [← hs₂]
    exact hsteps
end
variable {p : Program} {l : Launch} {e : Env} {R : Room} {s : State} {m : MethodId} {args : Array Value} {below : List Frame} {meth : Method} {c : Code} {T : State} {H : Heap} {locs : List Loc} {cells slots : Nat}
theorem vx_callVX (X : Stand p l e R s m args below meth c T locs cells slots) (hexec : p.tables.exec = Jvm.exec) {own C : String} {index : Nat} {y : MethodName} {bytes : ByteArray} {maxL : Nat} {ret : Option FieldType} {hh : List (Nat × Nat × Nat × Nat)}
    (hown : s.vm.findClass own = some m.cls) (hlink : (Cond.methodLink own index y).before args s = true) (hinst : (Cond.instanceMethod y).before args s = true) (hsel : (Cond.selects C y y).before args s = true)
    (hcode : (Cond.codeWith y bytes maxL ret hh).before args s = true) (hy : y.cls ≠ "java/lang/invoke/MethodHandle" ∧ y.cls ≠ "java/lang/invoke/VarHandle")
    {W9 : Nat} {Pre : Pt → Array Value → Prop} {Post : Pt → Array Value → Option Value → Pt → Prop} {PostX : Pt → Array Value → Addr → Pt → Prop} (hK : vx_Back l R p e below s args y 3 W9 Pre Post PostX)
    {b : Addr} {cellB : Cell} (hcell : T.heap[b]? = some cellB) (hobj : cellB.vm.isStatics = false) (hcls : s.vm.findClass C = some cellB.cls)
    {g : JFrame} (hg : g.method = m) (hsize : g.locals.size = c.maxLocals) {argsL rest : List Value} (hlen : ∀ sig, parseMethodDescriptor y.desc = some sig → argsL.length = sig.parameters.length)
    (hstack : g.stack = argsL.reverse ++ .ref b :: rest) (hW : 2 * g.monitorRoom + (rest.map fun v => v.category).sum ≤ W9) (hdg : decode c.code g.pc = .ok (.invokevirtual index, 3))
    (hpre : ∀ vm₁, s.WarmedH vm₁ → Pre ⟨T.setVm vm₁, locs, cells, slots⟩ (Value.ref b :: argsL).toArray) :
    (∃ (v : Option Value) (vm₁ : Vm) (B : Pt), s.WarmedH vm₁ ∧ Stand p l e R s m args below meth c B.U B.locs B.cells B.slots ∧ Post ⟨T.setVm vm₁, locs, cells, slots⟩ (Value.ref b :: argsL).toArray v B ∧
      ∀ target, Steps p.tables e below (B.U.setTop { g with pc := g.pc + 3, stack := v.toList ++ rest }) target → Steps p.tables e below (T.setTop g) target) ∨
    (∃ (q : Addr) (vm₁ : Vm) (B : Pt), s.WarmedH vm₁ ∧ Stand p l e R s m args below meth c B.U B.locs B.cells B.slots ∧ PostX ⟨T.setVm vm₁, locs, cells, slots⟩ (Value.ref b :: argsL).toArray q B ∧
      Steps p.tables e below (T.setTop g) ((B.U.setTop { g with stack := rest }).pushFrame (.throwing q))) := by
  obtain ⟨mk, methM, hnamed, hmethM, hstM, habM⟩ := Cond.instanceMethod_spec hinst
  obtain ⟨m8, methM', cM, hn8, hmethM', -, -, -, -, -, -, hsigM⟩ := Cond.codeWith_spec hcode
  cases Option.some.inj (hn8.symm.trans hnamed)
  cases hmethM.symm.trans hmethM'
  obtain ⟨c2, r2, m2, q1, q2, q3, q4, kP, hkP, hkPi⟩ := Cond.selects_spec hsel
  cases hcls.symm.trans q1
  cases (State.methodFound?_of_named hnamed hy).symm.trans q2
  cases hnamed.symm.trans q3
  have hselP : selectMethod e.platform s.vm cellB.cls mk = .method mk := by rw [Launch.admits_selectMethod X.admits]; exact q4
  obtain ⟨vm₁, X₁, hstep₁⟩ := X.invokevirtual hexec hown hlink hnamed hmethM hstM hkP hkPi hy (a := b) (cell := cellB) hcell
    (fun z h => by rw [h] at hobj; cases hobj) hselP hmethM habM hkP hkPi (g := g) hg (argsL := argsL) (rest := rest) (hlen _ hsigM) hstack hdg
  rcases hK m meth c ⟨T.setVm vm₁, locs, cells, slots⟩ { g with stack := rest } (.invokevirtual index) mk (Value.ref b :: argsL).toArray X₁ hg hsize hdg hW (X₁.named hnamed) (hpre vm₁ X₁.warmed) with ⟨v, B, X', hpost, hsteps⟩ | ⟨q, B, X', hpost, hsteps⟩
  · exact Or.inl ⟨v, vm₁, B, X₁.warmed, X', hpost, fun target h => hstep₁ _ fun acts => by rw [doInvoke_state]; exact hsteps.trans h⟩
  · exact Or.inr ⟨q, vm₁, B, X₁.warmed, X', hpost, hstep₁ _ fun acts => by rw [doInvoke_state]; exact hsteps⟩
theorem vx_callSX (X : Stand p l e R s m args below meth c T locs cells slots) (hexec : p.tables.exec = Jvm.exec) {own : String} {index : Nat} {y : MethodName} {bytes : ByteArray} {maxL : Nat} {ret : Option FieldType} {hh : List (Nat × Nat × Nat × Nat)}
    (hown : s.vm.findClass own = some m.cls) (hlink : (Cond.methodLink own index y).before args s = true) (hstat : (Cond.static y).before args s = true) (hinit : (Cond.initialized y.cls).before args s = true)
    (hcode : (Cond.codeWith y bytes maxL ret hh).before args s = true) (hy : y.cls ≠ "java/lang/invoke/MethodHandle" ∧ y.cls ≠ "java/lang/invoke/VarHandle")
    {W9 : Nat} {Pre : Pt → Array Value → Prop} {Post : Pt → Array Value → Option Value → Pt → Prop} {PostX : Pt → Array Value → Addr → Pt → Prop} (hK : vx_Back l R p e below s args y 3 W9 Pre Post PostX)
    {g : JFrame} (hg : g.method = m) (hsize : g.locals.size = c.maxLocals) {argsL rest : List Value} (hlen : ∀ sig, parseMethodDescriptor y.desc = some sig → argsL.length = sig.parameters.length)
    (hstack : g.stack = argsL.reverse ++ rest) (hW : 2 * g.monitorRoom + (rest.map fun v => v.category).sum ≤ W9) (hdg : decode c.code g.pc = .ok (.invokestatic index, 3))
    (hpre : ∀ vm₁, s.WarmedH vm₁ → Pre ⟨T.setVm vm₁, locs, cells, slots⟩ argsL.toArray) :
    (∃ (v : Option Value) (vm₁ : Vm) (B : Pt), s.WarmedH vm₁ ∧ Stand p l e R s m args below meth c B.U B.locs B.cells B.slots ∧ Post ⟨T.setVm vm₁, locs, cells, slots⟩ argsL.toArray v B ∧
      ∀ target, Steps p.tables e below (B.U.setTop { g with pc := g.pc + 3, stack := v.toList ++ rest }) target → Steps p.tables e below (T.setTop g) target) ∨
    (∃ (q : Addr) (vm₁ : Vm) (B : Pt), s.WarmedH vm₁ ∧ Stand p l e R s m args below meth c B.U B.locs B.cells B.slots ∧ PostX ⟨T.setVm vm₁, locs, cells, slots⟩ argsL.toArray q B ∧
      Steps p.tables e below (T.setTop g) ((B.U.setTop { g with stack := rest }).pushFrame (.throwing q))) := by
  obtain ⟨mk, methM, cM, hnamed, hmethM, -, -, -, -, -, -, hsigM⟩ := Cond.codeWith_spec hcode
  have hstatic : methM.isStatic = true := Cond.static_spec hnamed hmethM hstat
  obtain ⟨kP, hkP, -⟩ := className_of_methodNamed hnamed
  have hinitP : kP.init = .initialized := Cond.initialized_spec (findClass_of_methodNamed hnamed) hkP hinit
  obtain ⟨vm₁, X₁, hstep₁⟩ := X.invokestatic hexec hown hlink hnamed hmethM hstatic hkP hinitP hy (g := g) hg (argsL := argsL) (rest := rest) (hlen _ hsigM) hstack hdg
  rcases hK m meth c ⟨T.setVm vm₁, locs, cells, slots⟩ { g with stack := rest } (.invokestatic index) mk argsL.toArray X₁ hg hsize hdg hW (X₁.named hnamed) (hpre vm₁ X₁.warmed) with ⟨v, B, X', hpost, hsteps⟩ | ⟨q, B, X', hpost, hsteps⟩
  · exact Or.inl ⟨v, vm₁, B, X₁.warmed, X', hpost, fun target h => hstep₁ _ fun acts => by rw [doInvoke_state]; exact hsteps.trans h⟩
  · exact Or.inr ⟨q, vm₁, B, X₁.warmed, X', hpost, hstep₁ _ fun acts => by rw [doInvoke_state]; exact hsteps⟩
theorem vx_callVW (X : Stand p l e R s m args below meth c T locs cells slots) (hexec : p.tables.exec = Jvm.exec) {own C : String} {index : Nat} {y : MethodName} {bytes : ByteArray} {maxL : Nat} {ret : Option FieldType} {hh : List (Nat × Nat × Nat × Nat)}
    (hown : s.vm.findClass own = some m.cls) (hlink : (Cond.methodLink own index y).before args s = true) (hinst : (Cond.instanceMethod y).before args s = true) (hsel : (Cond.selects C y y).before args s = true)
    (hcode : (Cond.codeWith y bytes maxL ret hh).before args s = true) (hy : y.cls ≠ "java/lang/invoke/MethodHandle" ∧ y.cls ≠ "java/lang/invoke/VarHandle")
    {W9 : Nat} {Pre : Pt → Array Value → Prop} {Post : Pt → Array Value → Option Value → Pt → Prop} (hK : Back l R p e below s args y 3 W9 Pre Post)
    {b : Addr} {cellB : Cell} (hcell : T.heap[b]? = some cellB) (hobj : cellB.vm.isStatics = false) (hcls : s.vm.findClass C = some cellB.cls)
    {g : JFrame} (hg : g.method = m) (hsize : g.locals.size = c.maxLocals) {argsL rest : List Value} (hlen : ∀ sig, parseMethodDescriptor y.desc = some sig → argsL.length = sig.parameters.length)
    (hstack : g.stack = argsL.reverse ++ .ref b :: rest) (hW : 2 * g.monitorRoom + (rest.map fun v => v.category).sum ≤ W9) (hdg : decode c.code g.pc = .ok (.invokevirtual index, 3))
    (hpre : ∀ vm₁, s.WarmedH vm₁ → Pre ⟨T.setVm vm₁, locs, cells, slots⟩ (Value.ref b :: argsL).toArray) :
    ∃ (v : Option Value) (vm₁ : Vm) (B : Pt), s.WarmedH vm₁ ∧ Stand p l e R s m args below meth c B.U B.locs B.cells B.slots ∧ Post ⟨T.setVm vm₁, locs, cells, slots⟩ (Value.ref b :: argsL).toArray v B ∧
      ∀ target, Steps p.tables e below (B.U.setTop { g with pc := g.pc + 3, stack := v.toList ++ rest }) target → Steps p.tables e below (T.setTop g) target := by
  obtain ⟨mk, methM, hnamed, hmethM, hstM, habM⟩ := Cond.instanceMethod_spec hinst
  obtain ⟨m8, methM', cM, hn8, hmethM', -, -, -, -, -, -, hsigM⟩ := Cond.codeWith_spec hcode
  cases Option.some.inj (hn8.symm.trans hnamed)
  cases hmethM.symm.trans hmethM'
  obtain ⟨c2, r2, m2, q1, q2, q3, q4, kP, hkP, hkPi⟩ := Cond.selects_spec hsel
  cases hcls.symm.trans q1
  cases (State.methodFound?_of_named hnamed hy).symm.trans q2
  cases hnamed.symm.trans q3
  have hselP : selectMethod e.platform s.vm cellB.cls mk = .method mk := by rw [Launch.admits_selectMethod X.admits]; exact q4
  obtain ⟨vm₁, X₁, hstep₁⟩ := X.invokevirtual hexec hown hlink hnamed hmethM hstM hkP hkPi hy (a := b) (cell := cellB) hcell
    (fun z h => by rw [h] at hobj; cases hobj) hselP hmethM habM hkP hkPi (g := g) hg (argsL := argsL) (rest := rest) (hlen _ hsigM) hstack hdg
  obtain ⟨v, B, X', hpost, hsteps⟩ := hK m meth c ⟨T.setVm vm₁, locs, cells, slots⟩ { g with stack := rest } (.invokevirtual index) mk (Value.ref b :: argsL).toArray X₁ hg hsize hdg hW (X₁.named hnamed) (hpre vm₁ X₁.warmed)
  exact ⟨v, vm₁, B, X₁.warmed, X', hpost, fun target h => hstep₁ _ fun acts => by rw [doInvoke_state]; exact hsteps.trans h⟩
abbrev vx_CVW (R : Room) (s : State) (args : Array Value) (own C : String) (index : Nat) (y : MethodName) (bytes : ByteArray) (maxL : Nat) (ret : Option FieldType) (hh : List (Nat × Nat × Nat × Nat)) (ws : List Cond) (rm : Room) (mc ms n : Nat) : Prop :=
  (rm.cells = mc ∧ rm.slots = ms ∧ rm.frames + 1 ≤ R.frames ∧ 8 + (maxL + 11) + rm.locals ≤ R.locals ∧ (∀ w ∈ ws, ∀ (a' : Array Value) (U : State), s.WarmedH U.vm → w.before a' U = true) ∧ Cond.codeWith y bytes maxL ret hh ∈ ws) ∧
  (Cond.codeWith y bytes maxL ret hh).before args s = true ∧ (Cond.initialized y.cls).before args s = true ∧ (y.cls ≠ "java/lang/invoke/MethodHandle" ∧ y.cls ≠ "java/lang/invoke/VarHandle") ∧
  (∀ sig, parseMethodDescriptor y.desc = some sig → n = sig.parameters.length) ∧ (Cond.methodLink own index y).before args s = true ∧ (Cond.instanceMethod y).before args s = true ∧ (Cond.selects C y y).before args s = true
theorem vx_cwVW {own C : String} {index maxL mc ms : Nat} {y : MethodName} {bytes : ByteArray} {ret : Option FieldType} {hh : List (Nat × Nat × Nat × Nat)} {Ts ws ws' : List Cond} {rm : Room} (n : Nat) (ht : ∀ w ∈ Ts, w.before args s = true) (hT : GoodIn Ts (wsV own index C y ws)) (hw : ws = Cond.codeWith y bytes maxL ret hh :: ws') (hrc : rm.cells = mc) (hrs : rm.slots = ms)
    (hd : y.cls = C ∧ y.cls ≠ "java/lang/invoke/MethodHandle" ∧ y.cls ≠ "java/lang/invoke/VarHandle" ∧ (parseMethodDescriptor y.desc).map (fun d => d.parameters.length) = some n) (hR : rm.frames + 1 ≤ R.frames ∧ 8 + (maxL + 11) + rm.locals ≤ R.locals) :
    vx_CVW R s args own C index y bytes maxL ret hh ws rm mc ms n := by
  obtain ⟨hC, hd⟩ := hd
  subst hC
  have ok : ∀ w ∈ wsV own index y.cls y ws, w.before args s = true := fun w h => ht w (hT w h).1
  have hG : GoodIn Ts ws := fun w h => hT w (by unfold wsV; exact List.mem_append_right _ h)
  have hc : Cond.codeWith y bytes maxL ret hh ∈ ws := by rw [hw]; exact List.mem_cons_self
  refine ⟨⟨hrc, hrs, hR.1, hR.2, pay_in ht hG, hc⟩, ht _ (hG _ hc).1, ok _ (by simp [wsV]), ⟨hd.1, hd.2.1⟩, fun sig h => ?_, ok _ (by simp [wsV]), ok _ (by simp [wsV]), ok _ (by simp [wsV])⟩
  have h2 := hd.2.2
  rw [h] at h2
  exact (Option.some.inj h2).symm
theorem vx_runVW {y : MethodName} {bytes cc : ByteArray} {maxL nL mc ms n index : Nat} {ret : Option FieldType} {hh : List (Nat × Nat × Nat × Nat)} {ws : List Cond} {rm : Room} {Pc : Array Value → State → Prop} {Qc : Array Value → State → Outcome → State → Prop} {free : Addr → Prop} {Ts : List Cond} {own C : String} {b : Addr} {As rest : List Value} {g : JFrame}
    (S : CallFix p m c cc nL s args Ts own) (hM : Met l y ws rm Pc Qc mc ms free) (cw : vx_CVW R s args own C index y bytes maxL ret hh ws rm mc ms n) (hp : PreV s H C b Pc As)
    (hg : g.method = m) (hn : As.length = n) (hsize : g.locals.size = nL) (hstack : g.stack = As.reverse ++ .ref b :: rest) (hW : 2 * g.monitorRoom + (rest.map fun v => v.category).sum ≤ 8) (hdg : decode cc g.pc = .ok (.invokevirtual index, 3)) (hf : cells + mc ≤ R.cells ∧ slots + ms ≤ R.slots) :
    va_Run p l e R s m args below meth c H locs cells slots mc ms g rest (Qc (Value.ref b :: As).toArray) free := by
  obtain ⟨⟨hrc, hrs, hfr, hlo, hws, hcw⟩, hcode, hini, hy, hlen, hl, hin, hse⟩ := cw
  have hK : Back l R p e below s args y 3 8 (PreOf R mc ms Pc) (PostOf Qc mc ms free) := va_backW (hh := hh) (bytes := bytes) (maxL := maxL) (ret := ret) hM hp.1 hrc hrs hfr hlo hws hcw (fun a' U hW => word_at hW (Or.inl (by first | rfl | simp [Cond.onTables, Cond.keeps, Cond.steady])) hini)
  obtain ⟨hx, hb, hml, ho, -⟩ := S
  obtain ⟨-, ⟨cellB, hcB, hoB, hclB⟩, hPc⟩ := hp
  intro T hT X
  obtain ⟨v, vm₁, ⟨U', l2, c2, s2⟩, hW₁, X', ⟨g', mk, t, L, e1, e2, hq, h1, hL, h2, h3⟩, st⟩ := vx_callVW X hx (C := C) (hh := hh) (bytes := bytes) (maxL := maxL) (ret := ret) ho hl hin hse hcode hy hK (by rw [hT]; exact hcB) hoB hclB hg (hsize.trans hml.symm) (argsL := As) (rest := rest) (fun sig h => hn.trans (hlen sig h)) hstack hW (by rw [hb]; exact hdg)
    (fun vm₁ hW₁ => ⟨hf.1, hf.2, hPc (T.setVm vm₁) hT hW₁⟩)
  dsimp only [Pt.U, Pt.locs, Pt.cells, Pt.slots] at X' e1 e2 h1 h2 h3 st
  subst h1; subst h2; subst h3
  exact ⟨v, (T.setVm vm₁).calling g' mk (Value.ref b :: As).toArray, t, U', L, hT, X', hL, e1, e2, hq, st⟩
section
variable {y : MethodName} {bytes cc : ByteArray} {maxL nL mc ms n index : Nat} {ret : Option FieldType} {ws : List Cond} {rm : Room} {Pc : Array Value → State → Prop} {Qc : Array Value → State → Outcome → State → Prop} {XC : String → State → State → Prop} {free : Addr → Prop} {Ts : List Cond} {own C : String} {b : Addr} {As rest : List Value} {g : JFrame}
theorem vx_runVX {hh : List (Nat × Nat × Nat × Nat)} (S : CallFix p m c cc nL s args Ts own) (hM : vx_Met l y ws rm Pc Qc XC mc ms free) (cw : vx_CVW R s args own C index y bytes maxL ret hh ws rm mc ms n) (hp : PreV s H C b Pc As)
    (hg : g.method = m) (hn : As.length = n) (hsize : g.locals.size = nL) (hstack : g.stack = As.reverse ++ .ref b :: rest) (hW : 2 * g.monitorRoom + (rest.map fun v => v.category).sum ≤ 8) (hdg : decode cc g.pc = .ok (.invokevirtual index, 3)) (hf : cells + mc ≤ R.cells ∧ slots + ms ≤ R.slots) :
    vx_Run p l e R s m args below meth c H locs cells slots mc ms g rest (Qc (Value.ref b :: As).toArray) XC free := by
  obtain ⟨⟨hrc, hrs, hfr, hlo, hws, hcw⟩, hcode, hini, hy, hlen, hl, hin, hse⟩ := cw
  have hK : vx_Back l R p e below s args y 3 8 (PreOf R mc ms Pc) (PostOf Qc mc ms free) (vx_Post XC mc ms free) := vx_backW (hh := hh) (bytes := bytes) (maxL := maxL) (ret := ret) hM hp.1 hrc hrs hfr hlo hws hcw (fun a' U hW => word_at hW (Or.inl (by first | rfl | simp [Cond.onTables, Cond.keeps, Cond.steady])) hini)
  obtain ⟨hx, hb, hml, ho, -⟩ := S
  obtain ⟨-, ⟨cellB, hcB, hoB, hclB⟩, hPc⟩ := hp
  intro T hT X
  rcases vx_callVX X hx (C := C) (hh := hh) (bytes := bytes) (maxL := maxL) (ret := ret) ho hl hin hse hcode hy hK (by rw [hT]; exact hcB) hoB hclB hg (hsize.trans hml.symm) (argsL := As) (rest := rest) (fun sig h => hn.trans (hlen sig h)) hstack hW (by rw [hb]; exact hdg)
    (fun vm₁ hW₁ => ⟨hf.1, hf.2, hPc (T.setVm vm₁) hT hW₁⟩) with ⟨v, vm₁, ⟨U', l2, c2, s2⟩, hW₁, X', ⟨g', mk, t, L, e1, e2, hq, h1, hL, h2, h3⟩, st⟩ | ⟨q, vm₁, ⟨U', l2, c2, s2⟩, hW₁, X', ⟨g', mk, t, L, E, ce, e1, e2, hq, hce, hcv, hcl, h1, hL, h2, h3⟩, st⟩
  · dsimp only [Pt.U, Pt.locs, Pt.cells, Pt.slots] at X' e1 e2 h1 h2 h3 st
    subst h1; subst h2; subst h3
    exact Or.inl ⟨v, (T.setVm vm₁).calling g' mk (Value.ref b :: As).toArray, t, U', L, hT, X', hL, e1, e2, hq, st⟩
  · dsimp only [Pt.U, Pt.locs, Pt.cells, Pt.slots] at X' e1 e2 h1 h2 h3 st hcl
    subst h1; subst h2; subst h3
    exact Or.inr ⟨q, (T.setVm vm₁).calling g' mk (Value.ref b :: As).toArray, t, U', L, E, ce, hT, X', hL, e1, e2, hq, hce, hcv, vx_cls hW₁ hcl, st⟩
theorem vx_runSX {hh : List (Nat × Nat × Nat × Nat)} (S : CallFix p m c cc nL s args Ts own) (hM : vx_Met l y ws rm Pc Qc XC mc ms free) (cw : vx_CSW R s args own index y bytes maxL ret hh ws rm mc ms n) (hp : PreS s H Pc As)
    (hg : g.method = m) (hn : As.length = n) (hsize : g.locals.size = nL) (hstack : g.stack = As.reverse ++ rest) (hW : 2 * g.monitorRoom + (rest.map fun v => v.category).sum ≤ 8) (hdg : decode cc g.pc = .ok (.invokestatic index, 3)) (hf : cells + mc ≤ R.cells ∧ slots + ms ≤ R.slots) :
    vx_Run p l e R s m args below meth c H locs cells slots mc ms g rest (Qc As.toArray) XC free := by
  obtain ⟨⟨hrc, hrs, hfr, hlo, hws, hcw⟩, hcode, hini, hy, hlen, hl, hstt⟩ := cw
  have hK : vx_Back l R p e below s args y 3 8 (PreOf R mc ms Pc) (PostOf Qc mc ms free) (vx_Post XC mc ms free) := vx_backW (hh := hh) (bytes := bytes) (maxL := maxL) (ret := ret) hM hp.1 hrc hrs hfr hlo hws hcw (fun a' U hW => word_at hW (Or.inl (by first | rfl | simp [Cond.onTables, Cond.keeps, Cond.steady])) hini)
  obtain ⟨hx, hb, hml, ho, -⟩ := S
  intro T hT X
  rcases vx_callSX X hx (hh := hh) (bytes := bytes) (maxL := maxL) (ret := ret) ho hl hstt hini hcode hy hK hg (hsize.trans hml.symm) (argsL := As) (rest := rest) (fun sig h => hn.trans (hlen sig h)) hstack hW (by rw [hb]; exact hdg)
    (fun vm₁ hW₁ => ⟨hf.1, hf.2, hp.2 (T.setVm vm₁) hT hW₁⟩) with ⟨v, vm₁, ⟨U', l2, c2, s2⟩, hW₁, X', ⟨g', mk, t, L, e1, e2, hq, h1, hL, h2, h3⟩, st⟩ | ⟨q, vm₁, ⟨U', l2, c2, s2⟩, hW₁, X', ⟨g', mk, t, L, E, ce, e1, e2, hq, hce, hcv, hcl, h1, hL, h2, h3⟩, st⟩
  · dsimp only [Pt.U, Pt.locs, Pt.cells, Pt.slots] at X' e1 e2 h1 h2 h3 st
    subst h1; subst h2; subst h3
    exact Or.inl ⟨v, (T.setVm vm₁).calling g' mk As.toArray, t, U', L, hT, X', hL, e1, e2, hq, st⟩
  · dsimp only [Pt.U, Pt.locs, Pt.cells, Pt.slots] at X' e1 e2 h1 h2 h3 st hcl
    subst h1; subst h2; subst h3
    exact Or.inr ⟨q, (T.setVm vm₁).calling g' mk As.toArray, t, U', L, E, ce, hT, X', hL, e1, e2, hq, hce, hcv, vx_cls hW₁ hcl, st⟩
end
end VXH
theorem vx_ofWH {l : Launch} {y : MethodName} {ws ws' : List Cond} {rm : Room} {Pc : Array Value → State → Prop} {Qc : Array Value → State → Outcome → State → Prop} {XC : String → State → State → Prop} {mc ms : Nat} {free : Addr → Prop} {cc : ByteArray} {maxL : Nat} {ret : Option FieldType} {hh : List (Nat × Nat × Nat × Nat)}
    (hy : plainName y.cls = true) (hw : ws = Cond.codeWith y cc maxL ret hh :: ws')
    (body : ∀ p e s m args below meth c s₁, BodyLoose p l y (headSpec ws rm) cc maxL ret e s m args below meth c s₁ → c.maxLocals = maxL → Pc args s →
      W p l e (headSpec ws rm).room s m args below meth c s.heap [] 0 0 (vx_MQ below Qc XC args s mc ms free) (entryFrame m args maxL)) : vx_Met l y ws rm Pc Qc XC mc ms free := by
  refine MetFree.of_bodyS (code := cc) (maxLocals := maxL) (ret := ret) hy ?_ ?_
  · intro args s m h hn
    obtain ⟨m9, meth, c, hn9, h1, h2, h3, h4, -, h5, h6, -⟩ := Cond.codeWith_spec (atoms_spec (ws := ws) h _ (by rw [hw]; exact List.mem_cons_self))
    cases hn.symm.trans hn9
    exact ⟨meth, c, h1, h2, h3, h4, h5, h6⟩
  · intro p e s m args below meth c s₁ B hml hP _
    have hh0 : s₁.heap = s.heap := by rw [B.state]; rfl
    obtain ⟨t, a1, o, b1, b2, b3⟩ := body p e s m args below meth c s₁ B hml hP s₁ hh0 (Stand.of_body B)
    exact ⟨t, o, a1, b1, b2, b3⟩
/-! ===== END ===== -/
end
section
def tm_B : List Cond := lw_tbl.filter goodWord
theorem tm_in {w : Cond} (i : Nat) (h : tables_1[i]? = some w) (hg : goodWord w = true) : w ∈ tm_B := List.mem_filter.mpr ⟨List.mem_append_right _ (List.mem_of_getElem? h), hg⟩
theorem tm_inS {q : MethodName × Nat} (i : Nat) (h : lw_privs[i]? = some q) : Cond.selects q.1.cls q.1 q.1 ∈ tm_B := List.mem_filter.mpr ⟨List.mem_append_left _ (List.mem_map.mpr ⟨q, List.mem_of_getElem? h, rfl⟩), rfl⟩
theorem tm_gd {w : Cond} (h : w ∈ tm_B) : w ∈ tm_B ∧ ((w.onTables && w.keeps) = true ∨ ∃ ty, w = .arrayClass ty) := ⟨h, good_of_word (List.mem_filter.mp h).2⟩
theorem tm_GS {own : String} {idx : Nat} {y : MethodName} {cb : ByteArray} {n : Nat} {r : Option FieldType} (h1 : Cond.methodLink own idx y ∈ tm_B) (h2 : Cond.static y ∈ tm_B) (h3 : Cond.initialized y.cls ∈ tm_B) (h4 : Cond.code y cb n r ∈ tm_B) : GoodIn tm_B (va_wsS own idx y (Cond.code y cb n r :: tm_B)) := by
  intro w hw
  unfold va_wsS at hw
  simp only [List.cons_append, List.nil_append, List.mem_cons] at hw
  rcases hw with rfl | rfl | rfl | rfl | hw
  · exact tm_gd h1
  · exact tm_gd h2
  · exact tm_gd h3
  · exact tm_gd h4
  · exact tm_gd hw
theorem tm_GV {own C : String} {idx : Nat} {y : MethodName} {cb : ByteArray} {n : Nat} {r : Option FieldType} (h1 : Cond.methodLink own idx y ∈ tm_B) (h2 : Cond.instanceMethod y ∈ tm_B) (h5 : Cond.selects C y y ∈ tm_B) (h3 : Cond.initialized C ∈ tm_B) (h4 : Cond.code y cb n r ∈ tm_B) : GoodIn tm_B (wsV own idx C y (Cond.code y cb n r :: tm_B)) := by
  intro w hw
  unfold wsV at hw
  simp only [List.cons_append, List.nil_append, List.mem_cons] at hw
  rcases hw with rfl | rfl | rfl | rfl | rfl | hw
  · exact tm_gd h1
  · exact tm_gd h2
  · exact tm_gd h5
  · exact tm_gd h3
  · exact tm_gd h4
  · exact tm_gd hw
theorem tm_G0 {y : MethodName} {cb : ByteArray} {n : Nat} {r : Option FieldType} (h4 : Cond.code y cb n r ∈ tm_B) : GoodIn tm_B (Cond.code y cb n r :: tm_B) := by
  intro w hw
  rcases List.mem_cons.mp hw with rfl | hw
  · exact tm_gd h4
  · exact tm_gd hw
def RX0 : String := "TrustModule$Blob"
def TX0 : u_T := fun k => match k with
  | 0 => ("TrustModule$Blob", "made", "Z", false)
  | _ => ("TrustModule$Blob", "longs", "[J", true)
def tyX0 : Nat → FieldType := fun k => match k with
  | 0 => .boolean
  | _ => .array .long
abbrev wsX00 : List Cond := u_ws RX0 TX0 2
theorem nmX0 : ∀ a, a < 2 → ∀ b, b < 2 → a ≠ b → (TX0 a).2.1 ≠ (TX0 b).2.1 := by decide +kernel
theorem tyX0_ok : ∀ k, k < 2 → parseFieldDescriptor (TX0 k).2.2.1 = some (tyX0 k) := by decide +kernel
def RX1 : String := "TrustModule$Index"
def TX1 : u_T := fun k => match k with
  | 0 => ("TrustModule$Index", "defined", "Z", false)
  | 1 => ("TrustModule$Index", "counter", "Z", false)
  | 2 => ("TrustModule$Index", "policy", "J", false)
  | 3 => ("TrustModule$Index", "written", "Z", false)
  | _ => ("TrustModule$Index", "value", "J", false)
def tyX1 : Nat → FieldType := fun k => match k with
  | 0 => .boolean
  | 1 => .boolean
  | 2 => .long
  | 3 => .boolean
  | _ => .long
abbrev wsX10 : List Cond := u_ws RX1 TX1 5
theorem nmX1 : ∀ a, a < 5 → ∀ b, b < 5 → a ≠ b → (TX1 a).2.1 ≠ (TX1 b).2.1 := by decide +kernel
theorem tyX1_ok : ∀ k, k < 5 → parseFieldDescriptor (TX1 k).2.2.1 = some (tyX1 k) := by decide +kernel
def RX2 : String := "TrustModule$Key"
def TX2 : u_T := fun k => match k with
  | 0 => ("TrustModule$Key", "held", "Z", false)
  | 1 => ("TrustModule$Key", "value", "J", false)
  | 2 => ("TrustModule$Key", "word", "I", false)
  | 3 => ("TrustModule$Key", "policy", "J", false)
  | 4 => ("TrustModule$Key", "secret", "J", false)
  | _ => ("TrustModule$Key", "parent", "Z", false)
def tyX2 : Nat → FieldType := fun k => match k with
  | 0 => .boolean
  | 1 => .long
  | 2 => .int
  | 3 => .long
  | 4 => .long
  | _ => .boolean
abbrev wsX20 : List Cond := u_ws RX2 TX2 6
theorem nmX2 : ∀ a, a < 6 → ∀ b, b < 6 → a ≠ b → (TX2 a).2.1 ≠ (TX2 b).2.1 := by decide +kernel
theorem tyX2_ok : ∀ k, k < 6 → parseFieldDescriptor (TX2 k).2.2.1 = some (tyX2 k) := by decide +kernel
def RX3 : String := "TrustModule$Session"
def TX3 : u_T := fun k => match k with
  | 0 => ("TrustModule$Session", "digest", "J", false)
  | 1 => ("TrustModule$Session", "looked", "Z", false)
  | _ => ("TrustModule$Session", "countSeen", "I", false)
def tyX3 : Nat → FieldType := fun k => match k with
  | 0 => .long
  | 1 => .boolean
  | _ => .int
abbrev wsX30 : List Cond := u_ws RX3 TX3 3
theorem nmX3 : ∀ a, a < 3 → ∀ b, b < 3 → a ≠ b → (TX3 a).2.1 ≠ (TX3 b).2.1 := by decide +kernel
theorem tyX3_ok : ∀ k, k < 3 → parseFieldDescriptor (TX3 k).2.2.1 = some (tyX3 k) := by decide +kernel
def RX4 : String := "TrustModule"
def TX4 : u_T := fun k => match k with
  | 0 => ("TrustModule", "seeds", "[J", true)
  | 1 => ("TrustModule", "pcrs", "[[J", true)
  | 2 => ("TrustModule", "keys", "[LTrustModule$Key;", true)
  | 3 => ("TrustModule", "blobs", "[LTrustModule$Blob;", true)
  | 4 => ("TrustModule", "sessions", "[LTrustModule$Session;", true)
  | 5 => ("TrustModule", "indices", "[LTrustModule$Index;", true)
  | 6 => ("TrustModule", "pcrCount", "I", false)
  | 7 => ("TrustModule", "greatestCounted", "J", false)
  | 8 => ("TrustModule", "powerLeft", "I", false)
  | 9 => ("TrustModule", "lost", "Z", false)
  | 10 => ("TrustModule", "timesLost", "I", false)
  | 11 => ("TrustModule", "wrongGuesses", "I", false)
  | 12 => ("TrustModule", "mark", "D", false)
  | 13 => ("TrustModule", "now", "D", false)
  | _ => ("TrustModule", "pace", "D", false)
def tyX4 : Nat → FieldType := fun k => match k with
  | 0 => .array .long
  | 1 => .array (.array .long)
  | 2 => .array (.object "TrustModule$Key")
  | 3 => .array (.object "TrustModule$Blob")
  | 4 => .array (.object "TrustModule$Session")
  | 5 => .array (.object "TrustModule$Index")
  | 6 => .int
  | 7 => .long
  | 8 => .int
  | 9 => .boolean
  | 10 => .int
  | 11 => .int
  | 12 => .double
  | 13 => .double
  | _ => .double
abbrev wsX40 : List Cond := u_ws RX4 TX4 15
theorem nmX4 : ∀ a, a < 15 → ∀ b, b < 15 → a ≠ b → (TX4 a).2.1 ≠ (TX4 b).2.1 := by decide +kernel
theorem tyX4_ok : ∀ k, k < 15 → parseFieldDescriptor (TX4 k).2.2.1 = some (tyX4 k) := by decide +kernel
def RX5 : String := "TrustModuleModel"
def TX5 : u_T := fun k => match k with
  | 0 => ("TrustModuleModel", "seed", "[J", true)
  | 1 => ("TrustModuleModel", "pcr", "[J", true)
  | 2 => ("TrustModuleModel", "digest", "[J", true)
  | 3 => ("TrustModuleModel", "blob", "[J", true)
  | 4 => ("TrustModuleModel", "cell", "[J", true)
  | 5 => ("TrustModuleModel", "cellPolicy", "[J", true)
  | 6 => ("TrustModuleModel", "keyValue", "[J", true)
  | 7 => ("TrustModuleModel", "policy", "[J", true)
  | 8 => ("TrustModuleModel", "secret", "[J", true)
  | 9 => ("TrustModuleModel", "word", "[I", true)
  | 10 => ("TrustModuleModel", "seen", "[I", true)
  | 11 => ("TrustModuleModel", "used", "[Z", true)
  | 12 => ("TrustModuleModel", "isParent", "[Z", true)
  | 13 => ("TrustModuleModel", "there", "[Z", true)
  | 14 => ("TrustModuleModel", "looked", "[Z", true)
  | 15 => ("TrustModuleModel", "defined", "[Z", true)
  | 16 => ("TrustModuleModel", "counting", "[Z", true)
  | 17 => ("TrustModuleModel", "filled", "[Z", true)
  | 18 => ("TrustModuleModel", "pcrCount", "I", false)
  | 19 => ("TrustModuleModel", "guesses", "I", false)
  | 20 => ("TrustModuleModel", "power", "I", false)
  | 21 => ("TrustModuleModel", "losses", "I", false)
  | 22 => ("TrustModuleModel", "thrown", "I", false)
  | 23 => ("TrustModuleModel", "lost", "Z", false)
  | 24 => ("TrustModuleModel", "highest", "J", false)
  | 25 => ("TrustModuleModel", "clock", "D", false)
  | 26 => ("TrustModuleModel", "mark", "D", false)
  | _ => ("TrustModuleModel", "rate", "D", false)
def tyX5 : Nat → FieldType := fun k => match k with
  | 0 => .array .long
  | 1 => .array .long
  | 2 => .array .long
  | 3 => .array .long
  | 4 => .array .long
  | 5 => .array .long
  | 6 => .array .long
  | 7 => .array .long
  | 8 => .array .long
  | 9 => .array .int
  | 10 => .array .int
  | 11 => .array .boolean
  | 12 => .array .boolean
  | 13 => .array .boolean
  | 14 => .array .boolean
  | 15 => .array .boolean
  | 16 => .array .boolean
  | 17 => .array .boolean
  | 18 => .int
  | 19 => .int
  | 20 => .int
  | 21 => .int
  | 22 => .int
  | 23 => .boolean
  | 24 => .long
  | 25 => .double
  | 26 => .double
  | _ => .double
abbrev wsX50 : List Cond := u_ws RX5 TX5 28
theorem nmX5 : ∀ a, a < 28 → ∀ b, b < 28 → a ≠ b → (TX5 a).2.1 ≠ (TX5 b).2.1 := by decide +kernel
theorem tyX5_ok : ∀ k, k < 28 → parseFieldDescriptor (TX5 k).2.2.1 = some (tyX5 k) := by decide +kernel
def RL : String := "TrustModuleLaw"
abbrev vwCl : List vw_C := [(RX0, TX0, 2), (RX1, TX1, 5), (RX2, TX2, 6), (RX3, TX3, 3), (RX4, TX4, 15), (RX5, TX5, 28)]
abbrev cX4_init : ByteArray := prog_1_method_1_code
def yX4_init : MethodName := ⟨RX4, "<init>", "(I)V"⟩
def wsX4_init : List Cond := .code yX4_init cX4_init 3 none :: tm_B
abbrev cX4_power : ByteArray := prog_1_method_2_code
def yX4_power : MethodName := ⟨RX4, "power", "(I)V"⟩
def wsX4_power : List Cond := .code yX4_power cX4_power 2 none :: tm_B
abbrev cX4_extend : ByteArray := prog_1_method_3_code
def yX4_extend : MethodName := ⟨RX4, "extend", "(IIJ)J"⟩
def wsX4_extend : List Cond := .code yX4_extend cX4_extend 5 (some .long) :: tm_B
abbrev cX4_primary : ByteArray := prog_1_method_4_code
def yX4_primary : MethodName := ⟨RX4, "primary", "(IJ)I"⟩
def wsX4_primary : List Cond := .code yX4_primary cX4_primary 5 (some .int) :: tm_B
abbrev cX4_create : ByteArray := prog_1_method_5_code
def yX4_create : MethodName := ⟨RX4, "create", "(IIJIJ)V"⟩
def wsX4_create : List Cond := .code yX4_create cX4_create 9 none :: tm_B
abbrev cX4_load : ByteArray := prog_1_method_6_code
def yX4_load : MethodName := ⟨RX4, "load", "(II)I"⟩
def wsX4_load : List Cond := .code yX4_load cX4_load 8 (some .int) :: tm_B
abbrev cX4_tamper : ByteArray := prog_1_method_7_code
def yX4_tamper : MethodName := ⟨RX4, "tamper", "(IIJ)V"⟩
def wsX4_tamper : List Cond := .code yX4_tamper cX4_tamper 6 none :: tm_B
abbrev cX4_flush : ByteArray := prog_1_method_8_code
def yX4_flush : MethodName := ⟨RX4, "flush", "(I)V"⟩
def wsX4_flush : List Cond := .code yX4_flush cX4_flush 2 none :: tm_B
abbrev cX4_open : ByteArray := prog_1_method_9_code
def yX4_open : MethodName := ⟨RX4, "open", "(II)J"⟩
def wsX4_open : List Cond := .code yX4_open cX4_open 4 (some .long) :: tm_B
abbrev cX4_unseal : ByteArray := prog_1_method_10_code
def yX4_unseal : MethodName := ⟨RX4, "unseal", "(II)J"⟩
def wsX4_unseal : List Cond := .code yX4_unseal cX4_unseal 4 (some .long) :: tm_B
abbrev cX4_session : ByteArray := prog_1_method_11_code
def yX4_session : MethodName := ⟨RX4, "session", "(I)V"⟩
def wsX4_session : List Cond := .code yX4_session cX4_session 2 none :: tm_B
abbrev cX4_pcr : ByteArray := prog_1_method_12_code
def yX4_pcr : MethodName := ⟨RX4, "pcr", "(III)J"⟩
def wsX4_pcr : List Cond := .code yX4_pcr cX4_pcr 5 (some .long) :: tm_B
abbrev cX4_either : ByteArray := prog_1_method_13_code
def yX4_either : MethodName := ⟨RX4, "either", "(IJJ)J"⟩
def wsX4_either : List Cond := .code yX4_either cX4_either 7 (some .long) :: tm_B
abbrev cX4_with : ByteArray := prog_1_method_14_code
def yX4_with : MethodName := ⟨RX4, "with", "(III)J"⟩
def wsX4_with : List Cond := .code yX4_with cX4_with 6 (some .long) :: tm_B
abbrev cX4_define : ByteArray := prog_1_method_15_code
def yX4_define : MethodName := ⟨RX4, "define", "(IZJ)V"⟩
def wsX4_define : List Cond := .code yX4_define cX4_define 5 none :: tm_B
abbrev cX4_remove : ByteArray := prog_1_method_16_code
def yX4_remove : MethodName := ⟨RX4, "remove", "(I)V"⟩
def wsX4_remove : List Cond := .code yX4_remove cX4_remove 3 none :: tm_B
abbrev cX4_write : ByteArray := prog_1_method_17_code
def yX4_write : MethodName := ⟨RX4, "write", "(IIJ)J"⟩
def wsX4_write : List Cond := .code yX4_write cX4_write 6 (some .long) :: tm_B
abbrev cX4_read : ByteArray := prog_1_method_18_code
def yX4_read : MethodName := ⟨RX4, "read", "(I)J"⟩
def wsX4_read : List Cond := .code yX4_read cX4_read 3 (some .long) :: tm_B
abbrev cX4_clock : ByteArray := prog_1_method_19_code
def yX4_clock : MethodName := ⟨RX4, "clock", "(II)D"⟩
def wsX4_clock : List Cond := .code yX4_clock cX4_clock 3 (some .double) :: tm_B
abbrev cX4_clear : ByteArray := prog_1_method_20_code
def yX4_clear : MethodName := ⟨RX4, "clear", "()V"⟩
def wsX4_clear : List Cond := .code yX4_clear cX4_clear 2 none :: tm_B
abbrev cX4_told : ByteArray := prog_1_method_21_code
def yX4_told : MethodName := ⟨RX4, "told", "(II)J"⟩
def wsX4_told : List Cond := .code yX4_told cX4_told 3 (some .long) :: tm_B
abbrev cX4_count : ByteArray := prog_1_method_22_code
def yX4_count : MethodName := ⟨RX4, "count", "(I)I"⟩
def wsX4_count : List Cond := .code yX4_count cX4_count 2 (some .int) :: tm_B
abbrev cX4_rate : ByteArray := prog_1_method_23_code
def yX4_rate : MethodName := ⟨RX4, "rate", "()D"⟩
def wsX4_rate : List Cond := .code yX4_rate cX4_rate 1 (some .double) :: tm_B
abbrev cX4_hash : ByteArray := prog_1_method_24_code
def yX4_hash : MethodName := ⟨RX4, "hash", "(JJ)J"⟩
def wsX4_hash : List Cond := .code yX4_hash cX4_hash 6 (some .long) :: tm_B
abbrev cX4_refuseOutside : ByteArray := prog_1_method_25_code
def yX4_refuseOutside : MethodName := ⟨RX4, "refuseOutside", "(III)V"⟩
def wsX4_refuseOutside : List Cond := .code yX4_refuseOutside cX4_refuseOutside 3 none :: tm_B
abbrev cX4_refuseUnlessBelow : ByteArray := prog_1_method_26_code
def yX4_refuseUnlessBelow : MethodName := ⟨RX4, "refuseUnlessBelow", "(II)V"⟩
def wsX4_refuseUnlessBelow : List Cond := .code yX4_refuseUnlessBelow cX4_refuseUnlessBelow 2 none :: tm_B
abbrev cX4_refuseWhenLost : ByteArray := prog_1_method_27_code
def yX4_refuseWhenLost : MethodName := ⟨RX4, "refuseWhenLost", "()V"⟩
def wsX4_refuseWhenLost : List Cond := .code yX4_refuseWhenLost cX4_refuseWhenLost 1 none :: tm_B
abbrev cX4_refuseUnlessParent : ByteArray := prog_1_method_28_code
def yX4_refuseUnlessParent : MethodName := ⟨RX4, "refuseUnlessParent", "(LTrustModule$Key;)V"⟩
def wsX4_refuseUnlessParent : List Cond := .code yX4_refuseUnlessParent cX4_refuseUnlessParent 1 none :: tm_B
abbrev cX4_refuseTampered : ByteArray := prog_1_method_29_code
def yX4_refuseTampered : MethodName := ⟨RX4, "refuseTampered", "(LTrustModule$Blob;J)V"⟩
def wsX4_refuseTampered : List Cond := .code yX4_refuseTampered cX4_refuseTampered 3 none :: tm_B
abbrev cX4_heldKey : ByteArray := prog_1_method_30_code
def yX4_heldKey : MethodName := ⟨RX4, "heldKey", "(I)LTrustModule$Key;"⟩
def wsX4_heldKey : List Cond := .code yX4_heldKey cX4_heldKey 2 (some (.object "TrustModule$Key")) :: tm_B
abbrev cX4_madeBlob : ByteArray := prog_1_method_31_code
def yX4_madeBlob : MethodName := ⟨RX4, "madeBlob", "(I)LTrustModule$Blob;"⟩
def wsX4_madeBlob : List Cond := .code yX4_madeBlob cX4_madeBlob 2 (some (.object "TrustModule$Blob")) :: tm_B
abbrev cX4_definedIndex : ByteArray := prog_1_method_32_code
def yX4_definedIndex : MethodName := ⟨RX4, "definedIndex", "(I)LTrustModule$Index;"⟩
def wsX4_definedIndex : List Cond := .code yX4_definedIndex cX4_definedIndex 2 (some (.object "TrustModule$Index")) :: tm_B
abbrev cX4_leastFreeHandle : ByteArray := prog_1_method_33_code
def yX4_leastFreeHandle : MethodName := ⟨RX4, "leastFreeHandle", "()I"⟩
def wsX4_leastFreeHandle : List Cond := .code yX4_leastFreeHandle cX4_leastFreeHandle 2 (some .int) :: tm_B
abbrev cX4_powerComes : ByteArray := prog_1_method_34_code
def yX4_powerComes : MethodName := ⟨RX4, "powerComes", "(I)V"⟩
def wsX4_powerComes : List Cond := .code yX4_powerComes cX4_powerComes 3 none :: tm_B
abbrev cX4_forgetPcrs : ByteArray := prog_1_method_35_code
def yX4_forgetPcrs : MethodName := ⟨RX4, "forgetPcrs", "()V"⟩
def wsX4_forgetPcrs : List Cond := .code yX4_forgetPcrs cX4_forgetPcrs 3 none :: tm_B
abbrev cX4_freeHandles : ByteArray := prog_1_method_36_code
def yX4_freeHandles : MethodName := ⟨RX4, "freeHandles", "()V"⟩
def wsX4_freeHandles : List Cond := .code yX4_freeHandles cX4_freeHandles 2 none :: tm_B
abbrev cX4_useParts : ByteArray := prog_1_method_37_code
def yX4_useParts : MethodName := ⟨RX4, "useParts", "(I)V"⟩
def wsX4_useParts : List Cond := .code yX4_useParts cX4_useParts 2 none :: tm_B
abbrev cX4_nextCounted : ByteArray := prog_1_method_38_code
def yX4_nextCounted : MethodName := ⟨RX4, "nextCounted", "()J"⟩
def wsX4_nextCounted : List Cond := .code yX4_nextCounted cX4_nextCounted 1 (some .long) :: tm_B
abbrev cX4_allowByWord : ByteArray := prog_1_method_39_code
def yX4_allowByWord : MethodName := ⟨RX4, "allowByWord", "(LTrustModule$Key;I)V"⟩
def wsX4_allowByWord : List Cond := .code yX4_allowByWord cX4_allowByWord 3 none :: tm_B
abbrev cX4_allowBySession : ByteArray := prog_1_method_40_code
def yX4_allowBySession : MethodName := ⟨RX4, "allowBySession", "(JLTrustModule$Session;)V"⟩
def wsX4_allowBySession : List Cond := .code yX4_allowBySession cX4_allowBySession 4 none :: tm_B
abbrev cX4_hashOfPcrs : ByteArray := prog_1_method_41_code
def yX4_hashOfPcrs : MethodName := ⟨RX4, "hashOfPcrs", "(II)J"⟩
def wsX4_hashOfPcrs : List Cond := .code yX4_hashOfPcrs cX4_hashOfPcrs 6 (some .long) :: tm_B
abbrev cX4_forgiveGuesses : ByteArray := prog_1_method_42_code
def yX4_forgiveGuesses : MethodName := ⟨RX4, "forgiveGuesses", "()V"⟩
def wsX4_forgiveGuesses : List Cond := .code yX4_forgiveGuesses cX4_forgiveGuesses 1 none :: tm_B
abbrev cX4_setPace : ByteArray := prog_1_method_43_code
def yX4_setPace : MethodName := ⟨RX4, "setPace", "(D)V"⟩
def wsX4_setPace : List Cond := .code yX4_setPace cX4_setPace 3 none :: tm_B
abbrev cX4_heldKeys : ByteArray := prog_1_method_44_code
def yX4_heldKeys : MethodName := ⟨RX4, "heldKeys", "()I"⟩
def wsX4_heldKeys : List Cond := .code yX4_heldKeys cX4_heldKeys 3 (some .int) :: tm_B
abbrev cX4_definedIndices : ByteArray := prog_1_method_45_code
def yX4_definedIndices : MethodName := ⟨RX4, "definedIndices", "()I"⟩
def wsX4_definedIndices : List Cond := .code yX4_definedIndices cX4_definedIndices 3 (some .int) :: tm_B
abbrev cX4_madeBlobs : ByteArray := prog_1_method_46_code
def yX4_madeBlobs : MethodName := ⟨RX4, "madeBlobs", "()I"⟩
def wsX4_madeBlobs : List Cond := .code yX4_madeBlobs cX4_madeBlobs 3 (some .int) :: tm_B
abbrev cX2_init : ByteArray := prog_4_method_1_code
def yX2_init : MethodName := ⟨RX2, "<init>", "()V"⟩
def wsX2_init : List Cond := .code yX2_init cX2_init 1 none :: tm_B
abbrev cX2_hold : ByteArray := prog_4_method_2_code
def yX2_hold : MethodName := ⟨RX2, "hold", "(JIJJZ)V"⟩
def wsX2_hold : List Cond := .code yX2_hold cX2_hold 9 none :: tm_B
abbrev cX2_name : ByteArray := prog_4_method_3_code
def yX2_name : MethodName := ⟨RX2, "name", "()J"⟩
def wsX2_name : List Cond := .code yX2_name cX2_name 1 (some .long) :: tm_B
abbrev cX0_init : ByteArray := prog_2_method_1_code
def yX0_init : MethodName := ⟨RX0, "<init>", "()V"⟩
def wsX0_init : List Cond := .code yX0_init cX0_init 1 none :: tm_B
abbrev cX0_wrap : ByteArray := prog_2_method_2_code
def yX0_wrap : MethodName := ⟨RX0, "wrap", "(JJIJ)V"⟩
def wsX0_wrap : List Cond := .code yX0_wrap cX0_wrap 8 none :: tm_B
abbrev cX0_sealUnder : ByteArray := prog_2_method_3_code
def yX0_sealUnder : MethodName := ⟨RX0, "sealUnder", "(J)J"⟩
def wsX0_sealUnder : List Cond := .code yX0_sealUnder cX0_sealUnder 3 (some .long) :: tm_B
abbrev cX0_secretUnder : ByteArray := prog_2_method_4_code
def yX0_secretUnder : MethodName := ⟨RX0, "secretUnder", "(J)J"⟩
def wsX0_secretUnder : List Cond := .code yX0_secretUnder cX0_secretUnder 3 (some .long) :: tm_B
abbrev cX0_wordUnder : ByteArray := prog_2_method_5_code
def yX0_wordUnder : MethodName := ⟨RX0, "wordUnder", "(J)I"⟩
def wsX0_wordUnder : List Cond := .code yX0_wordUnder cX0_wordUnder 3 (some .int) :: tm_B
abbrev cX3_init : ByteArray := prog_5_method_1_code
def yX3_init : MethodName := ⟨RX3, "<init>", "()V"⟩
def wsX3_init : List Cond := .code yX3_init cX3_init 1 none :: tm_B
abbrev cX3_beginAnew : ByteArray := prog_5_method_2_code
def yX3_beginAnew : MethodName := ⟨RX3, "beginAnew", "()V"⟩
def wsX3_beginAnew : List Cond := .code yX3_beginAnew cX3_beginAnew 1 none :: tm_B
abbrev cX1_init : ByteArray := prog_3_method_1_code
def yX1_init : MethodName := ⟨RX1, "<init>", "()V"⟩
def wsX1_init : List Cond := .code yX1_init cX1_init 1 none :: tm_B
abbrev cX1_begin : ByteArray := prog_3_method_2_code
def yX1_begin : MethodName := ⟨RX1, "begin", "(ZJ)V"⟩
def wsX1_begin : List Cond := .code yX1_begin cX1_begin 4 none :: tm_B
abbrev cX5_init : ByteArray := prog_7_method_1_code
def yX5_init : MethodName := ⟨RX5, "<init>", "(I)V"⟩
def wsX5_init : List Cond := .code yX5_init cX5_init 3 none :: tm_B
abbrev cX5_thrown : ByteArray := prog_7_method_2_code
def yX5_thrown : MethodName := ⟨RX5, "thrown", "()I"⟩
def wsX5_thrown : List Cond := .code yX5_thrown cX5_thrown 1 (some .int) :: tm_B
abbrev cX5_mix : ByteArray := prog_7_method_3_code
def yX5_mix : MethodName := ⟨RX5, "mix", "(JJ)J"⟩
def wsX5_mix : List Cond := .code yX5_mix cX5_mix 7 (some .long) :: tm_B
abbrev cX5_come : ByteArray := prog_7_method_4_code
def yX5_come : MethodName := ⟨RX5, "come", "()V"⟩
def wsX5_come : List Cond := .code yX5_come cX5_come 2 none :: tm_B
abbrev cX5_anew : ByteArray := prog_7_method_5_code
def yX5_anew : MethodName := ⟨RX5, "anew", "(I)V"⟩
def wsX5_anew : List Cond := .code yX5_anew cX5_anew 2 none :: tm_B
abbrev cX5_out : ByteArray := prog_7_method_6_code
def yX5_out : MethodName := ⟨RX5, "out", "(II)Z"⟩
def wsX5_out : List Cond := .code yX5_out cX5_out 3 (some .boolean) :: tm_B
abbrev cX5_begin : ByteArray := prog_7_method_7_code
def yX5_begin : MethodName := ⟨RX5, "begin", "(Z)Z"⟩
def wsX5_begin : List Cond := .code yX5_begin cX5_begin 2 (some .boolean) :: tm_B
abbrev cX5_name : ByteArray := prog_7_method_8_code
def yX5_name : MethodName := ⟨RX5, "name", "(I)J"⟩
def wsX5_name : List Cond := .code yX5_name cX5_name 2 (some .long) :: tm_B
abbrev cX5_power : ByteArray := prog_7_method_9_code
def yX5_power : MethodName := ⟨RX5, "power", "(I)V"⟩
def wsX5_power : List Cond := .code yX5_power cX5_power 2 none :: tm_B
abbrev cX5_extend : ByteArray := prog_7_method_10_code
def yX5_extend : MethodName := ⟨RX5, "extend", "(IIJ)J"⟩
def wsX5_extend : List Cond := .code yX5_extend cX5_extend 5 (some .long) :: tm_B
abbrev cX5_room : ByteArray := prog_7_method_11_code
def yX5_room : MethodName := ⟨RX5, "room", "()I"⟩
def wsX5_room : List Cond := .code yX5_room cX5_room 2 (some .int) :: tm_B
abbrev cX5_key : ByteArray := prog_7_method_12_code
def yX5_key : MethodName := ⟨RX5, "key", "(JIJJZ)I"⟩
def wsX5_key : List Cond := .code yX5_key cX5_key 10 (some .int) :: tm_B
abbrev cX5_primary : ByteArray := prog_7_method_13_code
def yX5_primary : MethodName := ⟨RX5, "primary", "(IJ)I"⟩
def wsX5_primary : List Cond := .code yX5_primary cX5_primary 4 (some .int) :: tm_B
abbrev cX5_seal : ByteArray := prog_7_method_14_code
def yX5_seal : MethodName := ⟨RX5, "seal", "(II)J"⟩
def wsX5_seal : List Cond := .code yX5_seal cX5_seal 3 (some .long) :: tm_B
abbrev cX5_create : ByteArray := prog_7_method_15_code
def yX5_create : MethodName := ⟨RX5, "create", "(IIJIJ)V"⟩
def wsX5_create : List Cond := .code yX5_create cX5_create 8 none :: tm_B
abbrev cX5_load : ByteArray := prog_7_method_16_code
def yX5_load : MethodName := ⟨RX5, "load", "(II)I"⟩
def wsX5_load : List Cond := .code yX5_load cX5_load 6 (some .int) :: tm_B
abbrev cX5_tamper : ByteArray := prog_7_method_17_code
def yX5_tamper : MethodName := ⟨RX5, "tamper", "(IIJ)V"⟩
def wsX5_tamper : List Cond := .code yX5_tamper cX5_tamper 5 none :: tm_B
abbrev cX5_flush : ByteArray := prog_7_method_18_code
def yX5_flush : MethodName := ⟨RX5, "flush", "(I)V"⟩
def wsX5_flush : List Cond := .code yX5_flush cX5_flush 2 none :: tm_B
abbrev cX5_allowed : ByteArray := prog_7_method_19_code
def yX5_allowed : MethodName := ⟨RX5, "allowed", "(II)I"⟩
def wsX5_allowed : List Cond := .code yX5_allowed cX5_allowed 3 (some .int) :: tm_B
abbrev cX5_satisfied : ByteArray := prog_7_method_20_code
def yX5_satisfied : MethodName := ⟨RX5, "satisfied", "(IJ)I"⟩
def wsX5_satisfied : List Cond := .code yX5_satisfied cX5_satisfied 4 (some .int) :: tm_B
abbrev cX5_open : ByteArray := prog_7_method_21_code
def yX5_open : MethodName := ⟨RX5, "open", "(II)J"⟩
def wsX5_open : List Cond := .code yX5_open cX5_open 3 (some .long) :: tm_B
abbrev cX5_unseal : ByteArray := prog_7_method_22_code
def yX5_unseal : MethodName := ⟨RX5, "unseal", "(II)J"⟩
def wsX5_unseal : List Cond := .code yX5_unseal cX5_unseal 3 (some .long) :: tm_B
abbrev cX5_session : ByteArray := prog_7_method_23_code
def yX5_session : MethodName := ⟨RX5, "session", "(I)V"⟩
def wsX5_session : List Cond := .code yX5_session cX5_session 2 none :: tm_B
abbrev cX5_pcr : ByteArray := prog_7_method_24_code
def yX5_pcr : MethodName := ⟨RX5, "pcr", "(III)J"⟩
def wsX5_pcr : List Cond := .code yX5_pcr cX5_pcr 7 (some .long) :: tm_B
abbrev cX5_either : ByteArray := prog_7_method_25_code
def yX5_either : MethodName := ⟨RX5, "either", "(IJJ)J"⟩
def wsX5_either : List Cond := .code yX5_either cX5_either 6 (some .long) :: tm_B
abbrev cX5_with : ByteArray := prog_7_method_26_code
def yX5_with : MethodName := ⟨RX5, "with", "(III)J"⟩
def wsX5_with : List Cond := .code yX5_with cX5_with 4 (some .long) :: tm_B
abbrev cX5_lasts : ByteArray := prog_7_method_27_code
def yX5_lasts : MethodName := ⟨RX5, "lasts", "(I)Z"⟩
def wsX5_lasts : List Cond := .code yX5_lasts cX5_lasts 3 (some .boolean) :: tm_B
abbrev cX5_define : ByteArray := prog_7_method_28_code
def yX5_define : MethodName := ⟨RX5, "define", "(IZJ)V"⟩
def wsX5_define : List Cond := .code yX5_define cX5_define 5 none :: tm_B
abbrev cX5_remove : ByteArray := prog_7_method_29_code
def yX5_remove : MethodName := ⟨RX5, "remove", "(I)V"⟩
def wsX5_remove : List Cond := .code yX5_remove cX5_remove 2 none :: tm_B
abbrev cX5_write : ByteArray := prog_7_method_30_code
def yX5_write : MethodName := ⟨RX5, "write", "(IIJ)J"⟩
def wsX5_write : List Cond := .code yX5_write cX5_write 5 (some .long) :: tm_B
abbrev cX5_read : ByteArray := prog_7_method_31_code
def yX5_read : MethodName := ⟨RX5, "read", "(I)J"⟩
def wsX5_read : List Cond := .code yX5_read cX5_read 2 (some .long) :: tm_B
abbrev cX5_clock : ByteArray := prog_7_method_32_code
def yX5_clock : MethodName := ⟨RX5, "clock", "(II)D"⟩
def wsX5_clock : List Cond := .code yX5_clock cX5_clock 5 (some .double) :: tm_B
abbrev cX5_clear : ByteArray := prog_7_method_33_code
def yX5_clear : MethodName := ⟨RX5, "clear", "()V"⟩
def wsX5_clear : List Cond := .code yX5_clear cX5_clear 2 none :: tm_B
abbrev cX5_told : ByteArray := prog_7_method_34_code
def yX5_told : MethodName := ⟨RX5, "told", "(II)J"⟩
def wsX5_told : List Cond := .code yX5_told cX5_told 3 (some .long) :: tm_B
abbrev cX5_count : ByteArray := prog_7_method_35_code
def yX5_count : MethodName := ⟨RX5, "count", "(I)I"⟩
def wsX5_count : List Cond := .code yX5_count cX5_count 4 (some .int) :: tm_B
abbrev cX5_rate : ByteArray := prog_7_method_36_code
def yX5_rate : MethodName := ⟨RX5, "rate", "()D"⟩
def wsX5_rate : List Cond := .code yX5_rate cX5_rate 1 (some .double) :: tm_B
abbrev cL_cell : ByteArray := method_2_code
def yL_cell : MethodName := ⟨RL, "cell", "([II)I"⟩
def wsL_cell : List Cond := .code yL_cell cL_cell 2 (some .int) :: tm_B
abbrev cL_power : ByteArray := method_3_code
def yL_power : MethodName := ⟨RL, "power", "(LTrustModule;I)I"⟩
def wsL_power : List Cond := .codeWith yL_power cL_power 3 (some .int) [(0, 5, 8, 13)] :: tm_B
abbrev cL_extend : ByteArray := method_4_code
def yL_extend : MethodName := ⟨RL, "extend", "(LTrustModule;IIJ[J)I"⟩
def wsL_extend : List Cond := .codeWith yL_extend cL_extend 7 (some .int) [(0, 11, 14, 13), (0, 11, 18, 19)] :: tm_B
abbrev cL_primary : ByteArray := method_5_code
def yL_primary : MethodName := ⟨RL, "primary", "(LTrustModule;IJ[J)I"⟩
def wsL_primary : List Cond := .codeWith yL_primary cL_primary 6 (some .int) [(0, 11, 14, 13), (0, 11, 18, 19)] :: tm_B
abbrev cL_create : ByteArray := method_6_code
def yL_create : MethodName := ⟨RL, "create", "(LTrustModule;IIJIJ)I"⟩
def wsL_create : List Cond := .codeWith yL_create cL_create 9 (some .int) [(0, 11, 14, 13), (0, 11, 18, 19), (0, 11, 22, 29), (0, 11, 26, 31)] :: tm_B
abbrev cL_load : ByteArray := method_7_code
def yL_load : MethodName := ⟨RL, "load", "(LTrustModule;II[J)I"⟩
def wsL_load : List Cond := .codeWith yL_load cL_load 5 (some .int) [(0, 10, 13, 13), (0, 10, 17, 19), (0, 10, 21, 29), (0, 10, 25, 31), (0, 10, 29, 37)] :: tm_B
abbrev cL_tamper : ByteArray := method_8_code
def yL_tamper : MethodName := ⟨RL, "tamper", "(LTrustModule;IIJ)I"⟩
def wsL_tamper : List Cond := .codeWith yL_tamper cL_tamper 6 (some .int) [(0, 7, 10, 13), (0, 7, 14, 29)] :: tm_B
abbrev cL_flush : ByteArray := method_9_code
def yL_flush : MethodName := ⟨RL, "flush", "(LTrustModule;I)I"⟩
def wsL_flush : List Cond := .codeWith yL_flush cL_flush 3 (some .int) [(0, 5, 8, 13), (0, 5, 11, 19), (0, 5, 14, 29)] :: tm_B
abbrev cL_open : ByteArray := method_10_code
def yL_open : MethodName := ⟨RL, "open", "(LTrustModule;II[J)I"⟩
def wsL_open : List Cond := .codeWith yL_open cL_open 5 (some .int) [(0, 9, 12, 13), (0, 9, 16, 19), (0, 9, 20, 29), (0, 9, 24, 31)] :: tm_B
abbrev cL_unseal : ByteArray := method_11_code
def yL_unseal : MethodName := ⟨RL, "unseal", "(LTrustModule;II[J)I"⟩
def wsL_unseal : List Cond := .codeWith yL_unseal cL_unseal 5 (some .int) [(0, 9, 12, 13), (0, 9, 16, 19), (0, 9, 20, 29), (0, 9, 24, 31)] :: tm_B
abbrev cL_session : ByteArray := method_12_code
def yL_session : MethodName := ⟨RL, "session", "(LTrustModule;I)I"⟩
def wsL_session : List Cond := .codeWith yL_session cL_session 3 (some .int) [(0, 5, 8, 13), (0, 5, 11, 19)] :: tm_B
abbrev cL_pcr : ByteArray := method_13_code
def yL_pcr : MethodName := ⟨RL, "pcr", "(LTrustModule;III[J)I"⟩
def wsL_pcr : List Cond := .codeWith yL_pcr cL_pcr 6 (some .int) [(0, 11, 14, 13), (0, 11, 18, 19)] :: tm_B
abbrev cL_either : ByteArray := method_14_code
def yL_either : MethodName := ⟨RL, "either", "(LTrustModule;IJJ[J)I"⟩
def wsL_either : List Cond := .codeWith yL_either cL_either 8 (some .int) [(0, 12, 15, 13), (0, 12, 19, 19), (0, 12, 23, 31)] :: tm_B
abbrev cL_with : ByteArray := method_15_code
def yL_with : MethodName := ⟨RL, "with", "(LTrustModule;III[J)I"⟩
def wsL_with : List Cond := .codeWith yL_with cL_with 6 (some .int) [(0, 11, 14, 13), (0, 11, 18, 19), (0, 11, 22, 29), (0, 11, 26, 31)] :: tm_B
abbrev cL_define : ByteArray := method_16_code
def yL_define : MethodName := ⟨RL, "define", "(LTrustModule;IZJ)I"⟩
def wsL_define : List Cond := .codeWith yL_define cL_define 6 (some .int) [(0, 7, 10, 13), (0, 7, 14, 19)] :: tm_B
abbrev cL_remove : ByteArray := method_17_code
def yL_remove : MethodName := ⟨RL, "remove", "(LTrustModule;I)I"⟩
def wsL_remove : List Cond := .codeWith yL_remove cL_remove 3 (some .int) [(0, 5, 8, 13), (0, 5, 11, 19), (0, 5, 14, 29)] :: tm_B
abbrev cL_write : ByteArray := method_18_code
def yL_write : MethodName := ⟨RL, "write", "(LTrustModule;IIJ[J)I"⟩
def wsL_write : List Cond := .codeWith yL_write cL_write 7 (some .int) [(0, 11, 14, 13), (0, 11, 18, 19), (0, 11, 22, 29), (0, 11, 26, 31)] :: tm_B
abbrev cL_read : ByteArray := method_19_code
def yL_read : MethodName := ⟨RL, "read", "(LTrustModule;I[J)I"⟩
def wsL_read : List Cond := .codeWith yL_read cL_read 4 (some .int) [(0, 8, 11, 13), (0, 8, 14, 19), (0, 8, 17, 29)] :: tm_B
abbrev cL_clock : ByteArray := method_20_code
def yL_clock : MethodName := ⟨RL, "clock", "(LTrustModule;II[D)I"⟩
def wsL_clock : List Cond := .codeWith yL_clock cL_clock 5 (some .int) [(0, 9, 12, 13), (0, 9, 16, 19)] :: tm_B
abbrev cL_clear : ByteArray := method_21_code
def yL_clear : MethodName := ⟨RL, "clear", "(LTrustModule;)I"⟩
def wsL_clear : List Cond := .codeWith yL_clear cL_clear 2 (some .int) [(0, 4, 7, 19)] :: tm_B
abbrev cL_told : ByteArray := method_22_code
def yL_told : MethodName := ⟨RL, "told", "(LTrustModule;II[J)I"⟩
def wsL_told : List Cond := .codeWith yL_told cL_told 5 (some .int) [(0, 9, 12, 13), (0, 9, 16, 29)] :: tm_B
abbrev cL_law : ByteArray := code
def yL_law : MethodName := ⟨RL, "law", "([I)Z"⟩
end
section
theorem mb_1 : Cond.initialized RX4 ∈ tm_B := tm_in 1 (by decide +kernel) (by decide +kernel)
theorem mb_2 : Cond.initialized RX2 ∈ tm_B := tm_in 2 (by decide +kernel) (by decide +kernel)
theorem mb_3 : Cond.initialized RX0 ∈ tm_B := tm_in 3 (by decide +kernel) (by decide +kernel)
theorem mb_4 : Cond.initialized RX3 ∈ tm_B := tm_in 4 (by decide +kernel) (by decide +kernel)
theorem mb_5 : Cond.initialized RX1 ∈ tm_B := tm_in 5 (by decide +kernel) (by decide +kernel)
theorem mb_6 : Cond.initialized RX5 ∈ tm_B := tm_in 6 (by decide +kernel) (by decide +kernel)
theorem mb_10 : Cond.initialized "java/lang/IllegalArgumentException" ∈ tm_B := tm_in 10 (by decide +kernel) (by decide +kernel)
theorem mb_11 : Cond.initialized "java/lang/IllegalStateException" ∈ tm_B := tm_in 11 (by decide +kernel) (by decide +kernel)
theorem mb_12 : Cond.initialized "java/util/NoSuchElementException" ∈ tm_B := tm_in 12 (by decide +kernel) (by decide +kernel)
theorem mb_13 : Cond.initialized "java/lang/UnsupportedOperationException" ∈ tm_B := tm_in 13 (by decide +kernel) (by decide +kernel)
theorem mb_14 : Cond.initialized "java/lang/ArithmeticException" ∈ tm_B := tm_in 14 (by decide +kernel) (by decide +kernel)
theorem mb_33 : Cond.methodLink RX4 42 yX4_hash ∈ tm_B := tm_in 33 (by decide +kernel) (by decide +kernel)
theorem mb_34 : Cond.static yX4_hash ∈ tm_B := tm_in 34 (by decide +kernel) (by decide +kernel)
set_option maxRecDepth 100000 in
theorem mb_35 : Cond.code yX4_hash prog_1_method_24_code 6 (some .long) ∈ tm_B := tm_in 35 rfl rfl
theorem mb_36 : Cond.constantLong RX4 246 1000003 ∈ tm_B := tm_in 36 (by decide +kernel) (by decide +kernel)
theorem mb_37 : Cond.constantLong RX4 248 (-7046029254386353131) ∈ tm_B := tm_in 37 (by decide +kernel) (by decide +kernel)
theorem mb_38 : Cond.constantLong RX4 250 31 ∈ tm_B := tm_in 38 (by decide +kernel) (by decide +kernel)
theorem mb_44 : Cond.fieldLink RX2 7 "TrustModule$Key" "held" "Z" ∈ tm_B := tm_in 44 (by decide +kernel) (by decide +kernel)
theorem mb_45 : Cond.fieldLink RX4 116 "TrustModule$Key" "held" "Z" ∈ tm_B := tm_in 45 (by decide +kernel) (by decide +kernel)
theorem mb_46 : Cond.fieldLink RX2 13 "TrustModule$Key" "value" "J" ∈ tm_B := tm_in 46 (by decide +kernel) (by decide +kernel)
theorem mb_47 : Cond.fieldLink RX4 89 "TrustModule$Key" "value" "J" ∈ tm_B := tm_in 47 (by decide +kernel) (by decide +kernel)
theorem mb_48 : Cond.fieldLink RX2 17 "TrustModule$Key" "word" "I" ∈ tm_B := tm_in 48 (by decide +kernel) (by decide +kernel)
theorem mb_49 : Cond.fieldLink RX4 296 "TrustModule$Key" "word" "I" ∈ tm_B := tm_in 49 (by decide +kernel) (by decide +kernel)
theorem mb_50 : Cond.fieldLink RX2 21 "TrustModule$Key" "policy" "J" ∈ tm_B := tm_in 50 (by decide +kernel) (by decide +kernel)
theorem mb_51 : Cond.fieldLink RX4 127 "TrustModule$Key" "policy" "J" ∈ tm_B := tm_in 51 (by decide +kernel) (by decide +kernel)
theorem mb_52 : Cond.fieldLink RX2 24 "TrustModule$Key" "secret" "J" ∈ tm_B := tm_in 52 (by decide +kernel) (by decide +kernel)
theorem mb_53 : Cond.fieldLink RX4 124 "TrustModule$Key" "secret" "J" ∈ tm_B := tm_in 53 (by decide +kernel) (by decide +kernel)
theorem mb_54 : Cond.fieldLink RX2 27 "TrustModule$Key" "parent" "Z" ∈ tm_B := tm_in 54 (by decide +kernel) (by decide +kernel)
theorem mb_55 : Cond.fieldLink RX4 259 "TrustModule$Key" "parent" "Z" ∈ tm_B := tm_in 55 (by decide +kernel) (by decide +kernel)
theorem mb_56 : Cond.lays RX2 "TrustModule$Key" "held" "Z" ∈ tm_B := tm_in 56 (by decide +kernel) (by decide +kernel)
theorem mb_58 : Cond.lays RX2 "TrustModule$Key" "value" "J" ∈ tm_B := tm_in 58 (by decide +kernel) (by decide +kernel)
theorem mb_60 : Cond.lays RX2 "TrustModule$Key" "word" "I" ∈ tm_B := tm_in 60 (by decide +kernel) (by decide +kernel)
theorem mb_62 : Cond.lays RX2 "TrustModule$Key" "policy" "J" ∈ tm_B := tm_in 62 (by decide +kernel) (by decide +kernel)
theorem mb_64 : Cond.lays RX2 "TrustModule$Key" "secret" "J" ∈ tm_B := tm_in 64 (by decide +kernel) (by decide +kernel)
theorem mb_66 : Cond.lays RX2 "TrustModule$Key" "parent" "Z" ∈ tm_B := tm_in 66 (by decide +kernel) (by decide +kernel)
theorem mb_75 : Cond.fieldLink RX0 15 "TrustModule$Blob" "made" "Z" ∈ tm_B := tm_in 75 (by decide +kernel) (by decide +kernel)
theorem mb_76 : Cond.fieldLink RX4 274 "TrustModule$Blob" "made" "Z" ∈ tm_B := tm_in 76 (by decide +kernel) (by decide +kernel)
theorem mb_77 : Cond.fieldLink RX0 9 "TrustModule$Blob" "longs" "[J" ∈ tm_B := tm_in 77 (by decide +kernel) (by decide +kernel)
theorem mb_78 : Cond.fieldLink RX4 109 "TrustModule$Blob" "longs" "[J" ∈ tm_B := tm_in 78 (by decide +kernel) (by decide +kernel)
theorem mb_79 : Cond.lays RX0 "TrustModule$Blob" "made" "Z" ∈ tm_B := tm_in 79 (by decide +kernel) (by decide +kernel)
theorem mb_81 : Cond.laysFinal RX0 "TrustModule$Blob" "longs" "[J" ∈ tm_B := tm_in 81 (by decide +kernel) (by decide +kernel)
theorem mb_89 : Cond.fieldLink RX3 7 "TrustModule$Session" "digest" "J" ∈ tm_B := tm_in 89 (by decide +kernel) (by decide +kernel)
theorem mb_90 : Cond.fieldLink RX4 137 "TrustModule$Session" "digest" "J" ∈ tm_B := tm_in 90 (by decide +kernel) (by decide +kernel)
theorem mb_91 : Cond.fieldLink RX3 13 "TrustModule$Session" "looked" "Z" ∈ tm_B := tm_in 91 (by decide +kernel) (by decide +kernel)
theorem mb_92 : Cond.fieldLink RX4 146 "TrustModule$Session" "looked" "Z" ∈ tm_B := tm_in 92 (by decide +kernel) (by decide +kernel)
theorem mb_93 : Cond.fieldLink RX3 17 "TrustModule$Session" "countSeen" "I" ∈ tm_B := tm_in 93 (by decide +kernel) (by decide +kernel)
theorem mb_94 : Cond.fieldLink RX4 149 "TrustModule$Session" "countSeen" "I" ∈ tm_B := tm_in 94 (by decide +kernel) (by decide +kernel)
theorem mb_95 : Cond.lays RX3 "TrustModule$Session" "digest" "J" ∈ tm_B := tm_in 95 (by decide +kernel) (by decide +kernel)
theorem mb_97 : Cond.lays RX3 "TrustModule$Session" "looked" "Z" ∈ tm_B := tm_in 97 (by decide +kernel) (by decide +kernel)
theorem mb_99 : Cond.lays RX3 "TrustModule$Session" "countSeen" "I" ∈ tm_B := tm_in 99 (by decide +kernel) (by decide +kernel)
theorem mb_107 : Cond.fieldLink RX1 7 "TrustModule$Index" "defined" "Z" ∈ tm_B := tm_in 107 (by decide +kernel) (by decide +kernel)
theorem mb_108 : Cond.fieldLink RX4 167 "TrustModule$Index" "defined" "Z" ∈ tm_B := tm_in 108 (by decide +kernel) (by decide +kernel)
theorem mb_109 : Cond.fieldLink RX1 13 "TrustModule$Index" "counter" "Z" ∈ tm_B := tm_in 109 (by decide +kernel) (by decide +kernel)
theorem mb_110 : Cond.fieldLink RX4 187 "TrustModule$Index" "counter" "Z" ∈ tm_B := tm_in 110 (by decide +kernel) (by decide +kernel)
theorem mb_111 : Cond.fieldLink RX1 16 "TrustModule$Index" "policy" "J" ∈ tm_B := tm_in 111 (by decide +kernel) (by decide +kernel)
theorem mb_112 : Cond.fieldLink RX4 186 "TrustModule$Index" "policy" "J" ∈ tm_B := tm_in 112 (by decide +kernel) (by decide +kernel)
theorem mb_113 : Cond.fieldLink RX1 20 "TrustModule$Index" "written" "Z" ∈ tm_B := tm_in 113 (by decide +kernel) (by decide +kernel)
theorem mb_114 : Cond.fieldLink RX4 194 "TrustModule$Index" "written" "Z" ∈ tm_B := tm_in 114 (by decide +kernel) (by decide +kernel)
theorem mb_115 : Cond.fieldLink RX1 23 "TrustModule$Index" "value" "J" ∈ tm_B := tm_in 115 (by decide +kernel) (by decide +kernel)
theorem mb_116 : Cond.fieldLink RX4 193 "TrustModule$Index" "value" "J" ∈ tm_B := tm_in 116 (by decide +kernel) (by decide +kernel)
theorem mb_117 : Cond.lays RX1 "TrustModule$Index" "defined" "Z" ∈ tm_B := tm_in 117 (by decide +kernel) (by decide +kernel)
theorem mb_119 : Cond.lays RX1 "TrustModule$Index" "counter" "Z" ∈ tm_B := tm_in 119 (by decide +kernel) (by decide +kernel)
theorem mb_121 : Cond.lays RX1 "TrustModule$Index" "policy" "J" ∈ tm_B := tm_in 121 (by decide +kernel) (by decide +kernel)
theorem mb_123 : Cond.lays RX1 "TrustModule$Index" "written" "Z" ∈ tm_B := tm_in 123 (by decide +kernel) (by decide +kernel)
theorem mb_125 : Cond.lays RX1 "TrustModule$Index" "value" "J" ∈ tm_B := tm_in 125 (by decide +kernel) (by decide +kernel)
theorem mb_128 : Cond.methodLink RX4 54 yX4_powerComes ∈ tm_B := tm_in 128 (by decide +kernel) (by decide +kernel)
theorem mb_130 : Cond.instanceMethod yX4_powerComes ∈ tm_B := tm_in 130 (by decide +kernel) (by decide +kernel)
set_option maxRecDepth 100000 in
theorem mb_131 : Cond.code yX4_powerComes prog_1_method_34_code 3 none ∈ tm_B := tm_in 131 rfl rfl
theorem mb_132 : Cond.methodLink RX4 283 yX4_forgetPcrs ∈ tm_B := tm_in 132 (by decide +kernel) (by decide +kernel)
theorem mb_134 : Cond.instanceMethod yX4_forgetPcrs ∈ tm_B := tm_in 134 (by decide +kernel) (by decide +kernel)
set_option maxRecDepth 100000 in
theorem mb_135 : Cond.code yX4_forgetPcrs prog_1_method_35_code 3 none ∈ tm_B := tm_in 135 rfl rfl
theorem mb_136 : Cond.methodLink RX4 218 yX4_freeHandles ∈ tm_B := tm_in 136 (by decide +kernel) (by decide +kernel)
theorem mb_138 : Cond.instanceMethod yX4_freeHandles ∈ tm_B := tm_in 138 (by decide +kernel) (by decide +kernel)
set_option maxRecDepth 100000 in
theorem mb_139 : Cond.code yX4_freeHandles prog_1_method_36_code 2 none ∈ tm_B := tm_in 139 rfl rfl
theorem mb_140 : Cond.methodLink RX4 134 yX3_beginAnew ∈ tm_B := tm_in 140 (by decide +kernel) (by decide +kernel)
theorem mb_141 : Cond.instanceMethod yX3_beginAnew ∈ tm_B := tm_in 141 (by decide +kernel) (by decide +kernel)
theorem mb_142 : Cond.selects RX3 yX3_beginAnew yX3_beginAnew ∈ tm_B := tm_in 142 (by decide +kernel) (by decide +kernel)
set_option maxRecDepth 100000 in
theorem mb_143 : Cond.code yX3_beginAnew prog_5_method_2_code 1 none ∈ tm_B := tm_in 143 rfl rfl
theorem mb_144 : Cond.constantLong RX4 286 5 ∈ tm_B := tm_in 144 (by decide +kernel) (by decide +kernel)
theorem mb_145 : Cond.fieldLink RX4 9 "TrustModule" "seeds" "[J" ∈ tm_B := tm_in 145 (by decide +kernel) (by decide +kernel)
theorem mb_146 : Cond.fieldLink RX4 15 "TrustModule" "pcrs" "[[J" ∈ tm_B := tm_in 146 (by decide +kernel) (by decide +kernel)
theorem mb_147 : Cond.fieldLink RX4 20 "TrustModule" "keys" "[LTrustModule$Key;" ∈ tm_B := tm_in 147 (by decide +kernel) (by decide +kernel)
theorem mb_148 : Cond.fieldLink RX4 26 "TrustModule" "blobs" "[LTrustModule$Blob;" ∈ tm_B := tm_in 148 (by decide +kernel) (by decide +kernel)
theorem mb_149 : Cond.fieldLink RX4 32 "TrustModule" "sessions" "[LTrustModule$Session;" ∈ tm_B := tm_in 149 (by decide +kernel) (by decide +kernel)
theorem mb_150 : Cond.fieldLink RX4 38 "TrustModule" "indices" "[LTrustModule$Index;" ∈ tm_B := tm_in 150 (by decide +kernel) (by decide +kernel)
theorem mb_151 : Cond.fieldLink RX4 69 "TrustModule" "pcrCount" "I" ∈ tm_B := tm_in 151 (by decide +kernel) (by decide +kernel)
theorem mb_152 : Cond.fieldLink RX4 293 "TrustModule" "greatestCounted" "J" ∈ tm_B := tm_in 152 (by decide +kernel) (by decide +kernel)
theorem mb_153 : Cond.fieldLink RX4 231 "TrustModule" "powerLeft" "I" ∈ tm_B := tm_in 153 (by decide +kernel) (by decide +kernel)
theorem mb_154 : Cond.fieldLink RX4 234 "TrustModule" "lost" "Z" ∈ tm_B := tm_in 154 (by decide +kernel) (by decide +kernel)
theorem mb_155 : Cond.fieldLink RX4 243 "TrustModule" "timesLost" "I" ∈ tm_B := tm_in 155 (by decide +kernel) (by decide +kernel)
theorem mb_156 : Cond.fieldLink RX4 221 "TrustModule" "wrongGuesses" "I" ∈ tm_B := tm_in 156 (by decide +kernel) (by decide +kernel)
theorem mb_157 : Cond.fieldLink RX4 288 "TrustModule" "mark" "D" ∈ tm_B := tm_in 157 (by decide +kernel) (by decide +kernel)
theorem mb_158 : Cond.fieldLink RX4 202 "TrustModule" "now" "D" ∈ tm_B := tm_in 158 (by decide +kernel) (by decide +kernel)
theorem mb_159 : Cond.fieldLink RX4 50 "TrustModule" "pace" "D" ∈ tm_B := tm_in 159 (by decide +kernel) (by decide +kernel)
theorem mb_160 : Cond.laysFinal RX4 "TrustModule" "seeds" "[J" ∈ tm_B := tm_in 160 (by decide +kernel) (by decide +kernel)
theorem mb_162 : Cond.laysFinal RX4 "TrustModule" "pcrs" "[[J" ∈ tm_B := tm_in 162 (by decide +kernel) (by decide +kernel)
theorem mb_164 : Cond.laysFinal RX4 "TrustModule" "keys" "[LTrustModule$Key;" ∈ tm_B := tm_in 164 (by decide +kernel) (by decide +kernel)
theorem mb_166 : Cond.laysFinal RX4 "TrustModule" "blobs" "[LTrustModule$Blob;" ∈ tm_B := tm_in 166 (by decide +kernel) (by decide +kernel)
theorem mb_168 : Cond.laysFinal RX4 "TrustModule" "sessions" "[LTrustModule$Session;" ∈ tm_B := tm_in 168 (by decide +kernel) (by decide +kernel)
theorem mb_170 : Cond.laysFinal RX4 "TrustModule" "indices" "[LTrustModule$Index;" ∈ tm_B := tm_in 170 (by decide +kernel) (by decide +kernel)
theorem mb_172 : Cond.lays RX4 "TrustModule" "pcrCount" "I" ∈ tm_B := tm_in 172 (by decide +kernel) (by decide +kernel)
theorem mb_174 : Cond.lays RX4 "TrustModule" "greatestCounted" "J" ∈ tm_B := tm_in 174 (by decide +kernel) (by decide +kernel)
theorem mb_176 : Cond.lays RX4 "TrustModule" "powerLeft" "I" ∈ tm_B := tm_in 176 (by decide +kernel) (by decide +kernel)
theorem mb_178 : Cond.lays RX4 "TrustModule" "lost" "Z" ∈ tm_B := tm_in 178 (by decide +kernel) (by decide +kernel)
theorem mb_180 : Cond.lays RX4 "TrustModule" "timesLost" "I" ∈ tm_B := tm_in 180 (by decide +kernel) (by decide +kernel)
theorem mb_182 : Cond.lays RX4 "TrustModule" "wrongGuesses" "I" ∈ tm_B := tm_in 182 (by decide +kernel) (by decide +kernel)
theorem mb_184 : Cond.lays RX4 "TrustModule" "mark" "D" ∈ tm_B := tm_in 184 (by decide +kernel) (by decide +kernel)
theorem mb_186 : Cond.lays RX4 "TrustModule" "now" "D" ∈ tm_B := tm_in 186 (by decide +kernel) (by decide +kernel)
theorem mb_188 : Cond.lays RX4 "TrustModule" "pace" "D" ∈ tm_B := tm_in 188 (by decide +kernel) (by decide +kernel)
theorem mb_195 : Cond.methodLink RX4 228 yX4_heldKeys ∈ tm_B := tm_in 195 (by decide +kernel) (by decide +kernel)
theorem mb_197 : Cond.instanceMethod yX4_heldKeys ∈ tm_B := tm_in 197 (by decide +kernel) (by decide +kernel)
set_option maxRecDepth 100000 in
theorem mb_198 : Cond.code yX4_heldKeys prog_1_method_44_code 3 (some .int) ∈ tm_B := tm_in 198 rfl rfl
theorem mb_199 : Cond.methodLink RX4 237 yX4_definedIndices ∈ tm_B := tm_in 199 (by decide +kernel) (by decide +kernel)
theorem mb_201 : Cond.instanceMethod yX4_definedIndices ∈ tm_B := tm_in 201 (by decide +kernel) (by decide +kernel)
set_option maxRecDepth 100000 in
theorem mb_202 : Cond.code yX4_definedIndices prog_1_method_45_code 3 (some .int) ∈ tm_B := tm_in 202 rfl rfl
theorem mb_203 : Cond.methodLink RX4 240 yX4_madeBlobs ∈ tm_B := tm_in 203 (by decide +kernel) (by decide +kernel)
theorem mb_205 : Cond.instanceMethod yX4_madeBlobs ∈ tm_B := tm_in 205 (by decide +kernel) (by decide +kernel)
set_option maxRecDepth 100000 in
theorem mb_206 : Cond.code yX4_madeBlobs prog_1_method_46_code 3 (some .int) ∈ tm_B := tm_in 206 rfl rfl
theorem mb_222 : Cond.methodLink RX4 58 yX4_refuseOutside ∈ tm_B := tm_in 222 (by decide +kernel) (by decide +kernel)
theorem mb_223 : Cond.static yX4_refuseOutside ∈ tm_B := tm_in 223 (by decide +kernel) (by decide +kernel)
set_option maxRecDepth 100000 in
theorem mb_224 : Cond.code yX4_refuseOutside prog_1_method_25_code 3 none ∈ tm_B := tm_in 224 rfl rfl
theorem mb_225 : Cond.classLink RX4 252 "java/lang/IllegalArgumentException" ∈ tm_B := tm_in 225 (by decide +kernel) (by decide +kernel)
theorem mb_303 : Cond.methodLink RX4 62 yX4_refuseUnlessBelow ∈ tm_B := tm_in 303 (by decide +kernel) (by decide +kernel)
theorem mb_304 : Cond.static yX4_refuseUnlessBelow ∈ tm_B := tm_in 304 (by decide +kernel) (by decide +kernel)
set_option maxRecDepth 100000 in
theorem mb_305 : Cond.code yX4_refuseUnlessBelow prog_1_method_26_code 2 none ∈ tm_B := tm_in 305 rfl rfl
theorem mb_306 : Cond.methodLink RX4 66 yX4_refuseWhenLost ∈ tm_B := tm_in 306 (by decide +kernel) (by decide +kernel)
theorem mb_308 : Cond.instanceMethod yX4_refuseWhenLost ∈ tm_B := tm_in 308 (by decide +kernel) (by decide +kernel)
set_option maxRecDepth 100000 in
theorem mb_309 : Cond.code yX4_refuseWhenLost prog_1_method_27_code 1 none ∈ tm_B := tm_in 309 rfl rfl
theorem mb_310 : Cond.classLink RX4 170 "java/lang/IllegalStateException" ∈ tm_B := tm_in 310 (by decide +kernel) (by decide +kernel)
theorem mb_333 : Cond.methodLink RX4 73 yX4_leastFreeHandle ∈ tm_B := tm_in 333 (by decide +kernel) (by decide +kernel)
theorem mb_335 : Cond.instanceMethod yX4_leastFreeHandle ∈ tm_B := tm_in 335 (by decide +kernel) (by decide +kernel)
set_option maxRecDepth 100000 in
theorem mb_336 : Cond.code yX4_leastFreeHandle prog_1_method_33_code 2 (some .int) ∈ tm_B := tm_in 336 rfl rfl
theorem mb_338 : Cond.methodLink RX4 77 yX2_hold ∈ tm_B := tm_in 338 (by decide +kernel) (by decide +kernel)
theorem mb_339 : Cond.instanceMethod yX2_hold ∈ tm_B := tm_in 339 (by decide +kernel) (by decide +kernel)
theorem mb_340 : Cond.selects RX2 yX2_hold yX2_hold ∈ tm_B := tm_in 340 (by decide +kernel) (by decide +kernel)
set_option maxRecDepth 100000 in
theorem mb_341 : Cond.code yX2_hold prog_4_method_2_code 9 none ∈ tm_B := tm_in 341 rfl rfl
theorem mb_351 : Cond.methodLink RX4 81 yX4_heldKey ∈ tm_B := tm_in 351 (by decide +kernel) (by decide +kernel)
theorem mb_353 : Cond.instanceMethod yX4_heldKey ∈ tm_B := tm_in 353 (by decide +kernel) (by decide +kernel)
set_option maxRecDepth 100000 in
theorem mb_354 : Cond.code yX4_heldKey prog_1_method_30_code 2 (some (.object "TrustModule$Key")) ∈ tm_B := tm_in 354 rfl rfl
theorem mb_355 : Cond.classLink RX4 197 "java/util/NoSuchElementException" ∈ tm_B := tm_in 355 (by decide +kernel) (by decide +kernel)
theorem mb_371 : Cond.methodLink RX4 85 yX4_refuseUnlessParent ∈ tm_B := tm_in 371 (by decide +kernel) (by decide +kernel)
theorem mb_372 : Cond.static yX4_refuseUnlessParent ∈ tm_B := tm_in 372 (by decide +kernel) (by decide +kernel)
set_option maxRecDepth 100000 in
theorem mb_373 : Cond.code yX4_refuseUnlessParent prog_1_method_28_code 1 none ∈ tm_B := tm_in 373 rfl rfl
theorem mb_374 : Cond.classLink RX4 152 "java/lang/UnsupportedOperationException" ∈ tm_B := tm_in 374 (by decide +kernel) (by decide +kernel)
theorem mb_390 : Cond.methodLink RX4 93 yX0_wrap ∈ tm_B := tm_in 390 (by decide +kernel) (by decide +kernel)
theorem mb_391 : Cond.instanceMethod yX0_wrap ∈ tm_B := tm_in 391 (by decide +kernel) (by decide +kernel)
theorem mb_392 : Cond.selects RX0 yX0_wrap yX0_wrap ∈ tm_B := tm_in 392 (by decide +kernel) (by decide +kernel)
set_option maxRecDepth 100000 in
theorem mb_393 : Cond.code yX0_wrap prog_2_method_2_code 8 none ∈ tm_B := tm_in 393 rfl rfl
theorem mb_395 : Cond.constantLong RX0 23 2 ∈ tm_B := tm_in 395 (by decide +kernel) (by decide +kernel)
theorem mb_396 : Cond.methodLink RX0 25 yX0_sealUnder ∈ tm_B := tm_in 396 (by decide +kernel) (by decide +kernel)
theorem mb_397 : Cond.instanceMethod yX0_sealUnder ∈ tm_B := tm_in 397 (by decide +kernel) (by decide +kernel)
theorem mb_398 : Cond.selects RX0 yX0_sealUnder yX0_sealUnder ∈ tm_B := tm_in 398 (by decide +kernel) (by decide +kernel)
set_option maxRecDepth 100000 in
theorem mb_399 : Cond.code yX0_sealUnder prog_2_method_3_code 3 (some .long) ∈ tm_B := tm_in 399 rfl rfl
theorem mb_400 : Cond.constantLong RX0 29 3 ∈ tm_B := tm_in 400 (by decide +kernel) (by decide +kernel)
theorem mb_409 : Cond.methodLink RX4 97 yX4_madeBlob ∈ tm_B := tm_in 409 (by decide +kernel) (by decide +kernel)
theorem mb_411 : Cond.instanceMethod yX4_madeBlob ∈ tm_B := tm_in 411 (by decide +kernel) (by decide +kernel)
set_option maxRecDepth 100000 in
theorem mb_412 : Cond.code yX4_madeBlob prog_1_method_31_code 2 (some (.object "TrustModule$Blob")) ∈ tm_B := tm_in 412 rfl rfl
theorem mb_414 : Cond.methodLink RX4 101 yX4_refuseTampered ∈ tm_B := tm_in 414 (by decide +kernel) (by decide +kernel)
theorem mb_415 : Cond.static yX4_refuseTampered ∈ tm_B := tm_in 415 (by decide +kernel) (by decide +kernel)
set_option maxRecDepth 100000 in
theorem mb_416 : Cond.code yX4_refuseTampered prog_1_method_29_code 3 none ∈ tm_B := tm_in 416 rfl rfl
theorem mb_417 : Cond.methodLink RX4 264 yX0_sealUnder ∈ tm_B := tm_in 417 (by decide +kernel) (by decide +kernel)
theorem mb_418 : Cond.classLink RX4 267 "java/lang/ArithmeticException" ∈ tm_B := tm_in 418 (by decide +kernel) (by decide +kernel)
theorem mb_434 : Cond.methodLink RX4 105 yX0_secretUnder ∈ tm_B := tm_in 434 (by decide +kernel) (by decide +kernel)
theorem mb_435 : Cond.instanceMethod yX0_secretUnder ∈ tm_B := tm_in 435 (by decide +kernel) (by decide +kernel)
theorem mb_436 : Cond.selects RX0 yX0_secretUnder yX0_secretUnder ∈ tm_B := tm_in 436 (by decide +kernel) (by decide +kernel)
set_option maxRecDepth 100000 in
theorem mb_437 : Cond.code yX0_secretUnder prog_2_method_4_code 3 (some .long) ∈ tm_B := tm_in 437 rfl rfl
theorem mb_438 : Cond.methodLink RX4 112 yX0_wordUnder ∈ tm_B := tm_in 438 (by decide +kernel) (by decide +kernel)
theorem mb_439 : Cond.instanceMethod yX0_wordUnder ∈ tm_B := tm_in 439 (by decide +kernel) (by decide +kernel)
theorem mb_440 : Cond.selects RX0 yX0_wordUnder yX0_wordUnder ∈ tm_B := tm_in 440 (by decide +kernel) (by decide +kernel)
set_option maxRecDepth 100000 in
theorem mb_441 : Cond.code yX0_wordUnder prog_2_method_5_code 3 (some .int) ∈ tm_B := tm_in 441 rfl rfl
theorem mb_463 : Cond.methodLink RX4 120 yX4_allowByWord ∈ tm_B := tm_in 463 (by decide +kernel) (by decide +kernel)
theorem mb_465 : Cond.instanceMethod yX4_allowByWord ∈ tm_B := tm_in 465 (by decide +kernel) (by decide +kernel)
set_option maxRecDepth 100000 in
theorem mb_466 : Cond.code yX4_allowByWord prog_1_method_39_code 3 none ∈ tm_B := tm_in 466 rfl rfl
theorem mb_476 : Cond.methodLink RX4 130 yX4_allowBySession ∈ tm_B := tm_in 476 (by decide +kernel) (by decide +kernel)
theorem mb_478 : Cond.instanceMethod yX4_allowBySession ∈ tm_B := tm_in 478 (by decide +kernel) (by decide +kernel)
set_option maxRecDepth 100000 in
theorem mb_479 : Cond.code yX4_allowBySession prog_1_method_40_code 4 none ∈ tm_B := tm_in 479 rfl rfl
theorem mb_496 : Cond.constantLong RX4 140 11 ∈ tm_B := tm_in 496 (by decide +kernel) (by decide +kernel)
theorem mb_497 : Cond.methodLink RX4 142 yX4_hashOfPcrs ∈ tm_B := tm_in 497 (by decide +kernel) (by decide +kernel)
theorem mb_499 : Cond.instanceMethod yX4_hashOfPcrs ∈ tm_B := tm_in 499 (by decide +kernel) (by decide +kernel)
set_option maxRecDepth 100000 in
theorem mb_500 : Cond.code yX4_hashOfPcrs prog_1_method_41_code 6 (some .long) ∈ tm_B := tm_in 500 rfl rfl
theorem mb_509 : Cond.constantLong RX4 159 12 ∈ tm_B := tm_in 509 (by decide +kernel) (by decide +kernel)
theorem mb_517 : Cond.constantLong RX4 161 13 ∈ tm_B := tm_in 517 (by decide +kernel) (by decide +kernel)
theorem mb_518 : Cond.methodLink RX4 163 yX2_name ∈ tm_B := tm_in 518 (by decide +kernel) (by decide +kernel)
theorem mb_519 : Cond.instanceMethod yX2_name ∈ tm_B := tm_in 519 (by decide +kernel) (by decide +kernel)
theorem mb_520 : Cond.selects RX2 yX2_name yX2_name ∈ tm_B := tm_in 520 (by decide +kernel) (by decide +kernel)
set_option maxRecDepth 100000 in
theorem mb_521 : Cond.code yX2_name prog_4_method_3_code 1 (some .long) ∈ tm_B := tm_in 521 rfl rfl
theorem mb_531 : Cond.methodLink RX4 175 yX4_useParts ∈ tm_B := tm_in 531 (by decide +kernel) (by decide +kernel)
theorem mb_533 : Cond.instanceMethod yX4_useParts ∈ tm_B := tm_in 533 (by decide +kernel) (by decide +kernel)
set_option maxRecDepth 100000 in
theorem mb_534 : Cond.code yX4_useParts prog_1_method_37_code 2 none ∈ tm_B := tm_in 534 rfl rfl
theorem mb_536 : Cond.methodLink RX4 178 yX1_begin ∈ tm_B := tm_in 536 (by decide +kernel) (by decide +kernel)
theorem mb_537 : Cond.instanceMethod yX1_begin ∈ tm_B := tm_in 537 (by decide +kernel) (by decide +kernel)
theorem mb_538 : Cond.selects RX1 yX1_begin yX1_begin ∈ tm_B := tm_in 538 (by decide +kernel) (by decide +kernel)
set_option maxRecDepth 100000 in
theorem mb_539 : Cond.code yX1_begin prog_3_method_2_code 4 none ∈ tm_B := tm_in 539 rfl rfl
theorem mb_547 : Cond.methodLink RX4 182 yX4_definedIndex ∈ tm_B := tm_in 547 (by decide +kernel) (by decide +kernel)
theorem mb_549 : Cond.instanceMethod yX4_definedIndex ∈ tm_B := tm_in 549 (by decide +kernel) (by decide +kernel)
set_option maxRecDepth 100000 in
theorem mb_550 : Cond.code yX4_definedIndex prog_1_method_32_code 2 (some (.object "TrustModule$Index")) ∈ tm_B := tm_in 550 rfl rfl
theorem mb_559 : Cond.methodLink RX4 190 yX4_nextCounted ∈ tm_B := tm_in 559 (by decide +kernel) (by decide +kernel)
theorem mb_561 : Cond.instanceMethod yX4_nextCounted ∈ tm_B := tm_in 561 (by decide +kernel) (by decide +kernel)
set_option maxRecDepth 100000 in
theorem mb_562 : Cond.code yX4_nextCounted prog_1_method_38_code 1 (some .long) ∈ tm_B := tm_in 562 rfl rfl
theorem mb_578 : Cond.methodLink RX4 205 yX4_forgiveGuesses ∈ tm_B := tm_in 578 (by decide +kernel) (by decide +kernel)
theorem mb_580 : Cond.instanceMethod yX4_forgiveGuesses ∈ tm_B := tm_in 580 (by decide +kernel) (by decide +kernel)
set_option maxRecDepth 100000 in
theorem mb_581 : Cond.code yX4_forgiveGuesses prog_1_method_42_code 1 none ∈ tm_B := tm_in 581 rfl rfl
theorem mb_582 : Cond.constantDouble RX4 307 4621819117588971520 ∈ tm_B := tm_in 582 (by decide +kernel) (by decide +kernel)
theorem mb_583 : Cond.constantDouble RX4 208 4608308318706860032 ∈ tm_B := tm_in 583 (by decide +kernel) (by decide +kernel)
theorem mb_584 : Cond.methodLink RX4 210 yX4_setPace ∈ tm_B := tm_in 584 (by decide +kernel) (by decide +kernel)
theorem mb_586 : Cond.instanceMethod yX4_setPace ∈ tm_B := tm_in 586 (by decide +kernel) (by decide +kernel)
set_option maxRecDepth 100000 in
theorem mb_587 : Cond.code yX4_setPace prog_1_method_43_code 3 none ∈ tm_B := tm_in 587 rfl rfl
theorem mb_588 : Cond.constantDouble RX4 309 4598175219545276416 ∈ tm_B := tm_in 588 (by decide +kernel) (by decide +kernel)
theorem mb_589 : Cond.constantDouble RX4 311 4616189618054758400 ∈ tm_B := tm_in 589 (by decide +kernel) (by decide +kernel)
theorem mb_590 : Cond.constantDouble RX4 214 4604930618986332160 ∈ tm_B := tm_in 590 (by decide +kernel) (by decide +kernel)
theorem mb_598 : Cond.constantLong RX4 216 4 ∈ tm_B := tm_in 598 (by decide +kernel) (by decide +kernel)
theorem mb_606 : Cond.fieldLink RX4 224 "TrustModule" "TOLD_SIZES" "[I" ∈ tm_B := tm_in 606 (by decide +kernel) (by decide +kernel)
theorem mb_614 : Cond.methodLink RX5 74 yX5_mix ∈ tm_B := tm_in 614 (by decide +kernel) (by decide +kernel)
theorem mb_616 : Cond.instanceMethod yX5_mix ∈ tm_B := tm_in 616 (by decide +kernel) (by decide +kernel)
set_option maxRecDepth 100000 in
theorem mb_617 : Cond.code yX5_mix prog_7_method_3_code 7 (some .long) ∈ tm_B := tm_in 617 rfl rfl
theorem mb_618 : Cond.constantLong RX5 84 1000003 ∈ tm_B := tm_in 618 (by decide +kernel) (by decide +kernel)
theorem mb_619 : Cond.constantLong RX5 86 (-7046029254386353131) ∈ tm_B := tm_in 619 (by decide +kernel) (by decide +kernel)
theorem mb_620 : Cond.constantLong RX5 88 31 ∈ tm_B := tm_in 620 (by decide +kernel) (by decide +kernel)
theorem mb_621 : Cond.methodLink RX5 78 yX5_come ∈ tm_B := tm_in 621 (by decide +kernel) (by decide +kernel)
theorem mb_623 : Cond.instanceMethod yX5_come ∈ tm_B := tm_in 623 (by decide +kernel) (by decide +kernel)
set_option maxRecDepth 100000 in
theorem mb_624 : Cond.code yX5_come prog_7_method_4_code 2 none ∈ tm_B := tm_in 624 rfl rfl
theorem mb_625 : Cond.constantLong RX5 103 5 ∈ tm_B := tm_in 625 (by decide +kernel) (by decide +kernel)
theorem mb_626 : Cond.methodLink RX5 105 yX5_anew ∈ tm_B := tm_in 626 (by decide +kernel) (by decide +kernel)
theorem mb_628 : Cond.instanceMethod yX5_anew ∈ tm_B := tm_in 628 (by decide +kernel) (by decide +kernel)
set_option maxRecDepth 100000 in
theorem mb_629 : Cond.code yX5_anew prog_7_method_5_code 2 none ∈ tm_B := tm_in 629 rfl rfl
theorem mb_630 : Cond.fieldLink RX5 7 "TrustModuleModel" "seed" "[J" ∈ tm_B := tm_in 630 (by decide +kernel) (by decide +kernel)
theorem mb_631 : Cond.fieldLink RX5 13 "TrustModuleModel" "pcr" "[J" ∈ tm_B := tm_in 631 (by decide +kernel) (by decide +kernel)
theorem mb_632 : Cond.fieldLink RX5 16 "TrustModuleModel" "digest" "[J" ∈ tm_B := tm_in 632 (by decide +kernel) (by decide +kernel)
theorem mb_633 : Cond.fieldLink RX5 19 "TrustModuleModel" "blob" "[J" ∈ tm_B := tm_in 633 (by decide +kernel) (by decide +kernel)
theorem mb_634 : Cond.fieldLink RX5 22 "TrustModuleModel" "cell" "[J" ∈ tm_B := tm_in 634 (by decide +kernel) (by decide +kernel)
theorem mb_635 : Cond.fieldLink RX5 25 "TrustModuleModel" "cellPolicy" "[J" ∈ tm_B := tm_in 635 (by decide +kernel) (by decide +kernel)
theorem mb_636 : Cond.fieldLink RX5 28 "TrustModuleModel" "keyValue" "[J" ∈ tm_B := tm_in 636 (by decide +kernel) (by decide +kernel)
theorem mb_637 : Cond.fieldLink RX5 31 "TrustModuleModel" "policy" "[J" ∈ tm_B := tm_in 637 (by decide +kernel) (by decide +kernel)
theorem mb_638 : Cond.fieldLink RX5 34 "TrustModuleModel" "secret" "[J" ∈ tm_B := tm_in 638 (by decide +kernel) (by decide +kernel)
theorem mb_639 : Cond.fieldLink RX5 37 "TrustModuleModel" "word" "[I" ∈ tm_B := tm_in 639 (by decide +kernel) (by decide +kernel)
theorem mb_640 : Cond.fieldLink RX5 41 "TrustModuleModel" "seen" "[I" ∈ tm_B := tm_in 640 (by decide +kernel) (by decide +kernel)
theorem mb_641 : Cond.fieldLink RX5 44 "TrustModuleModel" "used" "[Z" ∈ tm_B := tm_in 641 (by decide +kernel) (by decide +kernel)
theorem mb_642 : Cond.fieldLink RX5 48 "TrustModuleModel" "isParent" "[Z" ∈ tm_B := tm_in 642 (by decide +kernel) (by decide +kernel)
theorem mb_643 : Cond.fieldLink RX5 51 "TrustModuleModel" "there" "[Z" ∈ tm_B := tm_in 643 (by decide +kernel) (by decide +kernel)
theorem mb_644 : Cond.fieldLink RX5 54 "TrustModuleModel" "looked" "[Z" ∈ tm_B := tm_in 644 (by decide +kernel) (by decide +kernel)
theorem mb_645 : Cond.fieldLink RX5 57 "TrustModuleModel" "defined" "[Z" ∈ tm_B := tm_in 645 (by decide +kernel) (by decide +kernel)
theorem mb_646 : Cond.fieldLink RX5 60 "TrustModuleModel" "counting" "[Z" ∈ tm_B := tm_in 646 (by decide +kernel) (by decide +kernel)
theorem mb_647 : Cond.fieldLink RX5 63 "TrustModuleModel" "filled" "[Z" ∈ tm_B := tm_in 647 (by decide +kernel) (by decide +kernel)
theorem mb_648 : Cond.fieldLink RX5 94 "TrustModuleModel" "pcrCount" "I" ∈ tm_B := tm_in 648 (by decide +kernel) (by decide +kernel)
theorem mb_649 : Cond.fieldLink RX5 133 "TrustModuleModel" "guesses" "I" ∈ tm_B := tm_in 649 (by decide +kernel) (by decide +kernel)
theorem mb_650 : Cond.fieldLink RX5 66 "TrustModuleModel" "power" "I" ∈ tm_B := tm_in 650 (by decide +kernel) (by decide +kernel)
theorem mb_651 : Cond.fieldLink RX5 154 "TrustModuleModel" "losses" "I" ∈ tm_B := tm_in 651 (by decide +kernel) (by decide +kernel)
theorem mb_652 : Cond.fieldLink RX5 81 "TrustModuleModel" "thrown" "I" ∈ tm_B := tm_in 652 (by decide +kernel) (by decide +kernel)
theorem mb_653 : Cond.fieldLink RX5 90 "TrustModuleModel" "lost" "Z" ∈ tm_B := tm_in 653 (by decide +kernel) (by decide +kernel)
theorem mb_654 : Cond.fieldLink RX5 161 "TrustModuleModel" "highest" "J" ∈ tm_B := tm_in 654 (by decide +kernel) (by decide +kernel)
theorem mb_655 : Cond.fieldLink RX5 97 "TrustModuleModel" "clock" "D" ∈ tm_B := tm_in 655 (by decide +kernel) (by decide +kernel)
theorem mb_656 : Cond.fieldLink RX5 100 "TrustModuleModel" "mark" "D" ∈ tm_B := tm_in 656 (by decide +kernel) (by decide +kernel)
theorem mb_657 : Cond.fieldLink RX5 70 "TrustModuleModel" "rate" "D" ∈ tm_B := tm_in 657 (by decide +kernel) (by decide +kernel)
theorem mb_658 : Cond.laysFinal RX5 "TrustModuleModel" "seed" "[J" ∈ tm_B := tm_in 658 (by decide +kernel) (by decide +kernel)
theorem mb_660 : Cond.laysFinal RX5 "TrustModuleModel" "pcr" "[J" ∈ tm_B := tm_in 660 (by decide +kernel) (by decide +kernel)
theorem mb_662 : Cond.laysFinal RX5 "TrustModuleModel" "digest" "[J" ∈ tm_B := tm_in 662 (by decide +kernel) (by decide +kernel)
theorem mb_664 : Cond.laysFinal RX5 "TrustModuleModel" "blob" "[J" ∈ tm_B := tm_in 664 (by decide +kernel) (by decide +kernel)
theorem mb_666 : Cond.laysFinal RX5 "TrustModuleModel" "cell" "[J" ∈ tm_B := tm_in 666 (by decide +kernel) (by decide +kernel)
theorem mb_668 : Cond.laysFinal RX5 "TrustModuleModel" "cellPolicy" "[J" ∈ tm_B := tm_in 668 (by decide +kernel) (by decide +kernel)
theorem mb_670 : Cond.laysFinal RX5 "TrustModuleModel" "keyValue" "[J" ∈ tm_B := tm_in 670 (by decide +kernel) (by decide +kernel)
theorem mb_672 : Cond.laysFinal RX5 "TrustModuleModel" "policy" "[J" ∈ tm_B := tm_in 672 (by decide +kernel) (by decide +kernel)
theorem mb_674 : Cond.laysFinal RX5 "TrustModuleModel" "secret" "[J" ∈ tm_B := tm_in 674 (by decide +kernel) (by decide +kernel)
theorem mb_676 : Cond.laysFinal RX5 "TrustModuleModel" "word" "[I" ∈ tm_B := tm_in 676 (by decide +kernel) (by decide +kernel)
theorem mb_678 : Cond.laysFinal RX5 "TrustModuleModel" "seen" "[I" ∈ tm_B := tm_in 678 (by decide +kernel) (by decide +kernel)
theorem mb_680 : Cond.laysFinal RX5 "TrustModuleModel" "used" "[Z" ∈ tm_B := tm_in 680 (by decide +kernel) (by decide +kernel)
theorem mb_682 : Cond.laysFinal RX5 "TrustModuleModel" "isParent" "[Z" ∈ tm_B := tm_in 682 (by decide +kernel) (by decide +kernel)
theorem mb_684 : Cond.laysFinal RX5 "TrustModuleModel" "there" "[Z" ∈ tm_B := tm_in 684 (by decide +kernel) (by decide +kernel)
theorem mb_686 : Cond.laysFinal RX5 "TrustModuleModel" "looked" "[Z" ∈ tm_B := tm_in 686 (by decide +kernel) (by decide +kernel)
theorem mb_688 : Cond.laysFinal RX5 "TrustModuleModel" "defined" "[Z" ∈ tm_B := tm_in 688 (by decide +kernel) (by decide +kernel)
theorem mb_690 : Cond.laysFinal RX5 "TrustModuleModel" "counting" "[Z" ∈ tm_B := tm_in 690 (by decide +kernel) (by decide +kernel)
theorem mb_692 : Cond.laysFinal RX5 "TrustModuleModel" "filled" "[Z" ∈ tm_B := tm_in 692 (by decide +kernel) (by decide +kernel)
theorem mb_694 : Cond.lays RX5 "TrustModuleModel" "pcrCount" "I" ∈ tm_B := tm_in 694 (by decide +kernel) (by decide +kernel)
theorem mb_696 : Cond.lays RX5 "TrustModuleModel" "guesses" "I" ∈ tm_B := tm_in 696 (by decide +kernel) (by decide +kernel)
theorem mb_698 : Cond.lays RX5 "TrustModuleModel" "power" "I" ∈ tm_B := tm_in 698 (by decide +kernel) (by decide +kernel)
theorem mb_700 : Cond.lays RX5 "TrustModuleModel" "losses" "I" ∈ tm_B := tm_in 700 (by decide +kernel) (by decide +kernel)
theorem mb_702 : Cond.lays RX5 "TrustModuleModel" "thrown" "I" ∈ tm_B := tm_in 702 (by decide +kernel) (by decide +kernel)
theorem mb_704 : Cond.lays RX5 "TrustModuleModel" "lost" "Z" ∈ tm_B := tm_in 704 (by decide +kernel) (by decide +kernel)
theorem mb_706 : Cond.lays RX5 "TrustModuleModel" "highest" "J" ∈ tm_B := tm_in 706 (by decide +kernel) (by decide +kernel)
theorem mb_708 : Cond.lays RX5 "TrustModuleModel" "clock" "D" ∈ tm_B := tm_in 708 (by decide +kernel) (by decide +kernel)
theorem mb_710 : Cond.lays RX5 "TrustModuleModel" "mark" "D" ∈ tm_B := tm_in 710 (by decide +kernel) (by decide +kernel)
theorem mb_712 : Cond.lays RX5 "TrustModuleModel" "rate" "D" ∈ tm_B := tm_in 712 (by decide +kernel) (by decide +kernel)
theorem mb_729 : Cond.methodLink RX5 109 yX5_out ∈ tm_B := tm_in 729 (by decide +kernel) (by decide +kernel)
theorem mb_731 : Cond.instanceMethod yX5_out ∈ tm_B := tm_in 731 (by decide +kernel) (by decide +kernel)
set_option maxRecDepth 100000 in
theorem mb_732 : Cond.code yX5_out prog_7_method_6_code 3 (some .boolean) ∈ tm_B := tm_in 732 rfl rfl
theorem mb_733 : Cond.methodLink RX5 113 yX5_begin ∈ tm_B := tm_in 733 (by decide +kernel) (by decide +kernel)
theorem mb_735 : Cond.instanceMethod yX5_begin ∈ tm_B := tm_in 735 (by decide +kernel) (by decide +kernel)
set_option maxRecDepth 100000 in
theorem mb_736 : Cond.code yX5_begin prog_7_method_7_code 2 (some .boolean) ∈ tm_B := tm_in 736 rfl rfl
theorem mb_741 : Cond.methodLink RX5 121 yX5_key ∈ tm_B := tm_in 741 (by decide +kernel) (by decide +kernel)
theorem mb_743 : Cond.instanceMethod yX5_key ∈ tm_B := tm_in 743 (by decide +kernel) (by decide +kernel)
set_option maxRecDepth 100000 in
theorem mb_744 : Cond.code yX5_key prog_7_method_12_code 10 (some .int) ∈ tm_B := tm_in 744 rfl rfl
theorem mb_745 : Cond.methodLink RX5 117 yX5_room ∈ tm_B := tm_in 745 (by decide +kernel) (by decide +kernel)
theorem mb_747 : Cond.instanceMethod yX5_room ∈ tm_B := tm_in 747 (by decide +kernel) (by decide +kernel)
set_option maxRecDepth 100000 in
theorem mb_748 : Cond.code yX5_room prog_7_method_11_code 2 (some .int) ∈ tm_B := tm_in 748 rfl rfl
theorem mb_753 : Cond.constantLong RX5 127 2 ∈ tm_B := tm_in 753 (by decide +kernel) (by decide +kernel)
theorem mb_754 : Cond.methodLink RX5 129 yX5_seal ∈ tm_B := tm_in 754 (by decide +kernel) (by decide +kernel)
theorem mb_756 : Cond.instanceMethod yX5_seal ∈ tm_B := tm_in 756 (by decide +kernel) (by decide +kernel)
set_option maxRecDepth 100000 in
theorem mb_757 : Cond.code yX5_seal prog_7_method_14_code 3 (some .long) ∈ tm_B := tm_in 757 rfl rfl
theorem mb_758 : Cond.constantLong RX5 125 3 ∈ tm_B := tm_in 758 (by decide +kernel) (by decide +kernel)
theorem mb_775 : Cond.methodLink RX5 136 yX5_allowed ∈ tm_B := tm_in 775 (by decide +kernel) (by decide +kernel)
theorem mb_777 : Cond.instanceMethod yX5_allowed ∈ tm_B := tm_in 777 (by decide +kernel) (by decide +kernel)
set_option maxRecDepth 100000 in
theorem mb_778 : Cond.code yX5_allowed prog_7_method_19_code 3 (some .int) ∈ tm_B := tm_in 778 rfl rfl
theorem mb_783 : Cond.methodLink RX5 140 yX5_satisfied ∈ tm_B := tm_in 783 (by decide +kernel) (by decide +kernel)
theorem mb_785 : Cond.instanceMethod yX5_satisfied ∈ tm_B := tm_in 785 (by decide +kernel) (by decide +kernel)
set_option maxRecDepth 100000 in
theorem mb_786 : Cond.code yX5_satisfied prog_7_method_20_code 4 (some .int) ∈ tm_B := tm_in 786 rfl rfl
theorem mb_800 : Cond.constantLong RX5 146 12 ∈ tm_B := tm_in 800 (by decide +kernel) (by decide +kernel)
theorem mb_805 : Cond.constantLong RX5 148 13 ∈ tm_B := tm_in 805 (by decide +kernel) (by decide +kernel)
theorem mb_806 : Cond.methodLink RX5 150 yX5_name ∈ tm_B := tm_in 806 (by decide +kernel) (by decide +kernel)
theorem mb_808 : Cond.instanceMethod yX5_name ∈ tm_B := tm_in 808 (by decide +kernel) (by decide +kernel)
set_option maxRecDepth 100000 in
theorem mb_809 : Cond.code yX5_name prog_7_method_8_code 2 (some .long) ∈ tm_B := tm_in 809 rfl rfl
theorem mb_814 : Cond.methodLink RX5 157 yX5_lasts ∈ tm_B := tm_in 814 (by decide +kernel) (by decide +kernel)
theorem mb_816 : Cond.instanceMethod yX5_lasts ∈ tm_B := tm_in 816 (by decide +kernel) (by decide +kernel)
set_option maxRecDepth 100000 in
theorem mb_817 : Cond.code yX5_lasts prog_7_method_27_code 3 (some .boolean) ∈ tm_B := tm_in 817 rfl rfl
theorem mb_843 : Cond.constantLong RX5 175 4 ∈ tm_B := tm_in 843 (by decide +kernel) (by decide +kernel)
theorem inB_X0 : ∀ w ∈ wsX00, w ∈ tm_B := by
  intro w hw
  obtain ⟨k, hk, rfl⟩ := List.mem_map.mp hw
  have hk : k < 2 := List.mem_range.mp hk
  match k, hk with
  | 0, _ => exact mb_79
  | 1, _ => exact mb_81
theorem inB_X1 : ∀ w ∈ wsX10, w ∈ tm_B := by
  intro w hw
  obtain ⟨k, hk, rfl⟩ := List.mem_map.mp hw
  have hk : k < 5 := List.mem_range.mp hk
  match k, hk with
  | 0, _ => exact mb_117
  | 1, _ => exact mb_119
  | 2, _ => exact mb_121
  | 3, _ => exact mb_123
  | 4, _ => exact mb_125
theorem inB_X2 : ∀ w ∈ wsX20, w ∈ tm_B := by
  intro w hw
  obtain ⟨k, hk, rfl⟩ := List.mem_map.mp hw
  have hk : k < 6 := List.mem_range.mp hk
  match k, hk with
  | 0, _ => exact mb_56
  | 1, _ => exact mb_58
  | 2, _ => exact mb_60
  | 3, _ => exact mb_62
  | 4, _ => exact mb_64
  | 5, _ => exact mb_66
theorem inB_X3 : ∀ w ∈ wsX30, w ∈ tm_B := by
  intro w hw
  obtain ⟨k, hk, rfl⟩ := List.mem_map.mp hw
  have hk : k < 3 := List.mem_range.mp hk
  match k, hk with
  | 0, _ => exact mb_95
  | 1, _ => exact mb_97
  | 2, _ => exact mb_99
theorem inB_X4 : ∀ w ∈ wsX40, w ∈ tm_B := by
  intro w hw
  obtain ⟨k, hk, rfl⟩ := List.mem_map.mp hw
  have hk : k < 15 := List.mem_range.mp hk
  match k, hk with
  | 0, _ => exact mb_160
  | 1, _ => exact mb_162
  | 2, _ => exact mb_164
  | 3, _ => exact mb_166
  | 4, _ => exact mb_168
  | 5, _ => exact mb_170
  | 6, _ => exact mb_172
  | 7, _ => exact mb_174
  | 8, _ => exact mb_176
  | 9, _ => exact mb_178
  | 10, _ => exact mb_180
  | 11, _ => exact mb_182
  | 12, _ => exact mb_184
  | 13, _ => exact mb_186
  | 14, _ => exact mb_188
theorem inB_X5 : ∀ w ∈ wsX50, w ∈ tm_B := by
  intro w hw
  obtain ⟨k, hk, rfl⟩ := List.mem_map.mp hw
  have hk : k < 28 := List.mem_range.mp hk
  match k, hk with
  | 0, _ => exact mb_658
  | 1, _ => exact mb_660
  | 2, _ => exact mb_662
  | 3, _ => exact mb_664
  | 4, _ => exact mb_666
  | 5, _ => exact mb_668
  | 6, _ => exact mb_670
  | 7, _ => exact mb_672
  | 8, _ => exact mb_674
  | 9, _ => exact mb_676
  | 10, _ => exact mb_678
  | 11, _ => exact mb_680
  | 12, _ => exact mb_682
  | 13, _ => exact mb_684
  | 14, _ => exact mb_686
  | 15, _ => exact mb_688
  | 16, _ => exact mb_690
  | 17, _ => exact mb_692
  | 18, _ => exact mb_694
  | 19, _ => exact mb_696
  | 20, _ => exact mb_698
  | 21, _ => exact mb_700
  | 22, _ => exact mb_702
  | 23, _ => exact mb_704
  | 24, _ => exact mb_706
  | 25, _ => exact mb_708
  | 26, _ => exact mb_710
  | 27, _ => exact mb_712
  | k + 28, hk => exact absurd hk (by omega)
theorem sl_X4_allowBySession : Cond.selects RX4 yX4_allowBySession yX4_allowBySession ∈ tm_B := tm_inS (q := (yX4_allowBySession, 15)) 12 (by decide +kernel)
theorem sl_X4_allowByWord : Cond.selects RX4 yX4_allowByWord yX4_allowByWord ∈ tm_B := tm_inS (q := (yX4_allowByWord, 15)) 11 (by decide +kernel)
theorem sl_X4_definedIndex : Cond.selects RX4 yX4_definedIndex yX4_definedIndex ∈ tm_B := tm_inS (q := (yX4_definedIndex, 15)) 15 (by decide +kernel)
theorem sl_X4_definedIndices : Cond.selects RX4 yX4_definedIndices yX4_definedIndices ∈ tm_B := tm_inS (q := (yX4_definedIndices, 15)) 4 (by decide +kernel)
theorem sl_X4_forgetPcrs : Cond.selects RX4 yX4_forgetPcrs yX4_forgetPcrs ∈ tm_B := tm_inS (q := (yX4_forgetPcrs, 15)) 1 (by decide +kernel)
theorem sl_X4_forgiveGuesses : Cond.selects RX4 yX4_forgiveGuesses yX4_forgiveGuesses ∈ tm_B := tm_inS (q := (yX4_forgiveGuesses, 15)) 17 (by decide +kernel)
theorem sl_X4_freeHandles : Cond.selects RX4 yX4_freeHandles yX4_freeHandles ∈ tm_B := tm_inS (q := (yX4_freeHandles, 15)) 2 (by decide +kernel)
theorem sl_X4_hashOfPcrs : Cond.selects RX4 yX4_hashOfPcrs yX4_hashOfPcrs ∈ tm_B := tm_inS (q := (yX4_hashOfPcrs, 15)) 13 (by decide +kernel)
theorem sl_X4_heldKey : Cond.selects RX4 yX4_heldKey yX4_heldKey ∈ tm_B := tm_inS (q := (yX4_heldKey, 15)) 9 (by decide +kernel)
theorem sl_X4_heldKeys : Cond.selects RX4 yX4_heldKeys yX4_heldKeys ∈ tm_B := tm_inS (q := (yX4_heldKeys, 15)) 3 (by decide +kernel)
theorem sl_X4_leastFreeHandle : Cond.selects RX4 yX4_leastFreeHandle yX4_leastFreeHandle ∈ tm_B := tm_inS (q := (yX4_leastFreeHandle, 15)) 8 (by decide +kernel)
theorem sl_X4_madeBlob : Cond.selects RX4 yX4_madeBlob yX4_madeBlob ∈ tm_B := tm_inS (q := (yX4_madeBlob, 15)) 10 (by decide +kernel)
theorem sl_X4_madeBlobs : Cond.selects RX4 yX4_madeBlobs yX4_madeBlobs ∈ tm_B := tm_inS (q := (yX4_madeBlobs, 15)) 5 (by decide +kernel)
theorem sl_X4_nextCounted : Cond.selects RX4 yX4_nextCounted yX4_nextCounted ∈ tm_B := tm_inS (q := (yX4_nextCounted, 15)) 16 (by decide +kernel)
theorem sl_X4_powerComes : Cond.selects RX4 yX4_powerComes yX4_powerComes ∈ tm_B := tm_inS (q := (yX4_powerComes, 15)) 0 (by decide +kernel)
theorem sl_X4_refuseWhenLost : Cond.selects RX4 yX4_refuseWhenLost yX4_refuseWhenLost ∈ tm_B := tm_inS (q := (yX4_refuseWhenLost, 15)) 7 (by decide +kernel)
theorem sl_X4_setPace : Cond.selects RX4 yX4_setPace yX4_setPace ∈ tm_B := tm_inS (q := (yX4_setPace, 15)) 18 (by decide +kernel)
theorem sl_X4_useParts : Cond.selects RX4 yX4_useParts yX4_useParts ∈ tm_B := tm_inS (q := (yX4_useParts, 15)) 14 (by decide +kernel)
theorem sl_X5_allowed : Cond.selects RX5 yX5_allowed yX5_allowed ∈ tm_B := tm_inS (q := (yX5_allowed, 28)) 27 (by decide +kernel)
theorem sl_X5_anew : Cond.selects RX5 yX5_anew yX5_anew ∈ tm_B := tm_inS (q := (yX5_anew, 28)) 21 (by decide +kernel)
theorem sl_X5_begin : Cond.selects RX5 yX5_begin yX5_begin ∈ tm_B := tm_inS (q := (yX5_begin, 28)) 23 (by decide +kernel)
theorem sl_X5_come : Cond.selects RX5 yX5_come yX5_come ∈ tm_B := tm_inS (q := (yX5_come, 28)) 20 (by decide +kernel)
theorem sl_X5_key : Cond.selects RX5 yX5_key yX5_key ∈ tm_B := tm_inS (q := (yX5_key, 28)) 24 (by decide +kernel)
theorem sl_X5_lasts : Cond.selects RX5 yX5_lasts yX5_lasts ∈ tm_B := tm_inS (q := (yX5_lasts, 28)) 30 (by decide +kernel)
theorem sl_X5_mix : Cond.selects RX5 yX5_mix yX5_mix ∈ tm_B := tm_inS (q := (yX5_mix, 28)) 19 (by decide +kernel)
theorem sl_X5_name : Cond.selects RX5 yX5_name yX5_name ∈ tm_B := tm_inS (q := (yX5_name, 28)) 29 (by decide +kernel)
theorem sl_X5_out : Cond.selects RX5 yX5_out yX5_out ∈ tm_B := tm_inS (q := (yX5_out, 28)) 22 (by decide +kernel)
theorem sl_X5_room : Cond.selects RX5 yX5_room yX5_room ∈ tm_B := tm_inS (q := (yX5_room, 28)) 25 (by decide +kernel)
theorem sl_X5_satisfied : Cond.selects RX5 yX5_satisfied yX5_satisfied ∈ tm_B := tm_inS (q := (yX5_satisfied, 28)) 28 (by decide +kernel)
theorem sl_X5_seal : Cond.selects RX5 yX5_seal yX5_seal ∈ tm_B := tm_inS (q := (yX5_seal, 28)) 26 (by decide +kernel)
theorem gX4_58_X4_refuseOutside : GoodIn tm_B (va_wsS RX4 58 yX4_refuseOutside wsX4_refuseOutside) := tm_GS mb_222 mb_223 mb_1 mb_224
theorem gX2_30_X4_hash : GoodIn tm_B wsX4_hash := tm_G0 mb_35
theorem gX0_19_X4_hash : GoodIn tm_B wsX4_hash := tm_G0 mb_35
theorem gX0_25_X0_sealUnder : GoodIn tm_B (wsV RX0 25 RX0 yX0_sealUnder wsX0_sealUnder) := tm_GV mb_396 mb_397 mb_398 mb_3 mb_399
theorem gX4_264_X0_sealUnder : GoodIn tm_B (wsV RX4 264 RX0 yX0_sealUnder wsX0_sealUnder) := tm_GV mb_417 mb_397 mb_398 mb_3 mb_399
theorem gX4_283_X4_forgetPcrs : GoodIn tm_B (wsV RX4 283 RX4 yX4_forgetPcrs wsX4_forgetPcrs) := tm_GV mb_132 mb_134 sl_X4_forgetPcrs mb_1 mb_135
theorem gX4_218_X4_freeHandles : GoodIn tm_B (wsV RX4 218 RX4 yX4_freeHandles wsX4_freeHandles) := tm_GV mb_136 mb_138 sl_X4_freeHandles mb_1 mb_139
theorem gX4_134_X3_beginAnew : GoodIn tm_B (wsV RX4 134 RX3 yX3_beginAnew wsX3_beginAnew) := tm_GV mb_140 mb_141 mb_142 mb_4 mb_143
theorem gX4_42_X4_hash : GoodIn tm_B (va_wsS RX4 42 yX4_hash wsX4_hash) := tm_GS mb_33 mb_34 mb_1 mb_35
theorem gX4_54_X4_powerComes : GoodIn tm_B (wsV RX4 54 RX4 yX4_powerComes wsX4_powerComes) := tm_GV mb_128 mb_130 sl_X4_powerComes mb_1 mb_131
theorem gX4_62_X4_refuseUnlessBelow : GoodIn tm_B (va_wsS RX4 62 yX4_refuseUnlessBelow wsX4_refuseUnlessBelow) := tm_GS mb_303 mb_304 mb_1 mb_305
theorem gX4_66_X4_refuseWhenLost : GoodIn tm_B (wsV RX4 66 RX4 yX4_refuseWhenLost wsX4_refuseWhenLost) := tm_GV mb_306 mb_308 sl_X4_refuseWhenLost mb_1 mb_309
theorem gX4_73_X4_leastFreeHandle : GoodIn tm_B (wsV RX4 73 RX4 yX4_leastFreeHandle wsX4_leastFreeHandle) := tm_GV mb_333 mb_335 sl_X4_leastFreeHandle mb_1 mb_336
theorem gX4_77_X2_hold : GoodIn tm_B (wsV RX4 77 RX2 yX2_hold wsX2_hold) := tm_GV mb_338 mb_339 mb_340 mb_2 mb_341
theorem gX4_81_X4_heldKey : GoodIn tm_B (wsV RX4 81 RX4 yX4_heldKey wsX4_heldKey) := tm_GV mb_351 mb_353 sl_X4_heldKey mb_1 mb_354
theorem gX4_85_X4_refuseUnlessParent : GoodIn tm_B (va_wsS RX4 85 yX4_refuseUnlessParent wsX4_refuseUnlessParent) := tm_GS mb_371 mb_372 mb_1 mb_373
theorem gX4_93_X0_wrap : GoodIn tm_B (wsV RX4 93 RX0 yX0_wrap wsX0_wrap) := tm_GV mb_390 mb_391 mb_392 mb_3 mb_393
theorem gX4_97_X4_madeBlob : GoodIn tm_B (wsV RX4 97 RX4 yX4_madeBlob wsX4_madeBlob) := tm_GV mb_409 mb_411 sl_X4_madeBlob mb_1 mb_412
theorem gX4_101_X4_refuseTampered : GoodIn tm_B (va_wsS RX4 101 yX4_refuseTampered wsX4_refuseTampered) := tm_GS mb_414 mb_415 mb_1 mb_416
theorem gX4_105_X0_secretUnder : GoodIn tm_B (wsV RX4 105 RX0 yX0_secretUnder wsX0_secretUnder) := tm_GV mb_434 mb_435 mb_436 mb_3 mb_437
theorem gX4_112_X0_wordUnder : GoodIn tm_B (wsV RX4 112 RX0 yX0_wordUnder wsX0_wordUnder) := tm_GV mb_438 mb_439 mb_440 mb_3 mb_441
theorem gX4_120_X4_allowByWord : GoodIn tm_B (wsV RX4 120 RX4 yX4_allowByWord wsX4_allowByWord) := tm_GV mb_463 mb_465 sl_X4_allowByWord mb_1 mb_466
theorem gX4_130_X4_allowBySession : GoodIn tm_B (wsV RX4 130 RX4 yX4_allowBySession wsX4_allowBySession) := tm_GV mb_476 mb_478 sl_X4_allowBySession mb_1 mb_479
theorem gX4_163_X2_name : GoodIn tm_B (wsV RX4 163 RX2 yX2_name wsX2_name) := tm_GV mb_518 mb_519 mb_520 mb_2 mb_521
theorem gX4_175_X4_useParts : GoodIn tm_B (wsV RX4 175 RX4 yX4_useParts wsX4_useParts) := tm_GV mb_531 mb_533 sl_X4_useParts mb_1 mb_534
theorem gX4_178_X1_begin : GoodIn tm_B (wsV RX4 178 RX1 yX1_begin wsX1_begin) := tm_GV mb_536 mb_537 mb_538 mb_5 mb_539
theorem gX4_182_X4_definedIndex : GoodIn tm_B (wsV RX4 182 RX4 yX4_definedIndex wsX4_definedIndex) := tm_GV mb_547 mb_549 sl_X4_definedIndex mb_1 mb_550
theorem gX4_190_X4_nextCounted : GoodIn tm_B (wsV RX4 190 RX4 yX4_nextCounted wsX4_nextCounted) := tm_GV mb_559 mb_561 sl_X4_nextCounted mb_1 mb_562
theorem gX5_74_X5_mix : GoodIn tm_B (wsV RX5 74 RX5 yX5_mix wsX5_mix) := tm_GV mb_614 mb_616 sl_X5_mix mb_6 mb_617
theorem gX5_105_X5_anew : GoodIn tm_B (wsV RX5 105 RX5 yX5_anew wsX5_anew) := tm_GV mb_626 mb_628 sl_X5_anew mb_6 mb_629
theorem gX5_117_X5_room : GoodIn tm_B (wsV RX5 117 RX5 yX5_room wsX5_room) := tm_GV mb_745 mb_747 sl_X5_room mb_6 mb_748
theorem gX5_78_X5_come : GoodIn tm_B (wsV RX5 78 RX5 yX5_come wsX5_come) := tm_GV mb_621 mb_623 sl_X5_come mb_6 mb_624
theorem gX5_109_X5_out : GoodIn tm_B (wsV RX5 109 RX5 yX5_out wsX5_out) := tm_GV mb_729 mb_731 sl_X5_out mb_6 mb_732
theorem gX5_113_X5_begin : GoodIn tm_B (wsV RX5 113 RX5 yX5_begin wsX5_begin) := tm_GV mb_733 mb_735 sl_X5_begin mb_6 mb_736
theorem gX5_121_X5_key : GoodIn tm_B (wsV RX5 121 RX5 yX5_key wsX5_key) := tm_GV mb_741 mb_743 sl_X5_key mb_6 mb_744
theorem gX5_129_X5_seal : GoodIn tm_B (wsV RX5 129 RX5 yX5_seal wsX5_seal) := tm_GV mb_754 mb_756 sl_X5_seal mb_6 mb_757
theorem gX5_136_X5_allowed : GoodIn tm_B (wsV RX5 136 RX5 yX5_allowed wsX5_allowed) := tm_GV mb_775 mb_777 sl_X5_allowed mb_6 mb_778
theorem gX5_140_X5_satisfied : GoodIn tm_B (wsV RX5 140 RX5 yX5_satisfied wsX5_satisfied) := tm_GV mb_783 mb_785 sl_X5_satisfied mb_6 mb_786
theorem gX5_150_X5_name : GoodIn tm_B (wsV RX5 150 RX5 yX5_name wsX5_name) := tm_GV mb_806 mb_808 sl_X5_name mb_6 mb_809
theorem gX5_157_X5_lasts : GoodIn tm_B (wsV RX5 157 RX5 yX5_lasts wsX5_lasts) := tm_GV mb_814 mb_816 sl_X5_lasts mb_6 mb_817
theorem gX4_205_X4_forgiveGuesses : GoodIn tm_B (wsV RX4 205 RX4 yX4_forgiveGuesses wsX4_forgiveGuesses) := tm_GV mb_578 mb_580 sl_X4_forgiveGuesses mb_1 mb_581
theorem gX4_210_X4_setPace : GoodIn tm_B (wsV RX4 210 RX4 yX4_setPace wsX4_setPace) := tm_GV mb_584 mb_586 sl_X4_setPace mb_1 mb_587
theorem gX4_142_X4_hashOfPcrs : GoodIn tm_B (wsV RX4 142 RX4 yX4_hashOfPcrs wsX4_hashOfPcrs) := tm_GV mb_497 mb_499 sl_X4_hashOfPcrs mb_1 mb_500
theorem gX4_228_X4_heldKeys : GoodIn tm_B (wsV RX4 228 RX4 yX4_heldKeys wsX4_heldKeys) := tm_GV mb_195 mb_197 sl_X4_heldKeys mb_1 mb_198
theorem gX4_237_X4_definedIndices : GoodIn tm_B (wsV RX4 237 RX4 yX4_definedIndices wsX4_definedIndices) := tm_GV mb_199 mb_201 sl_X4_definedIndices mb_1 mb_202
theorem gX4_240_X4_madeBlobs : GoodIn tm_B (wsV RX4 240 RX4 yX4_madeBlobs wsX4_madeBlobs) := tm_GV mb_203 mb_205 sl_X4_madeBlobs mb_1 mb_206
end
section
theorem dX4_init_0 : decode cX4_init 0 = .ok (.aload_n 0, 1) := by decide +kernel
theorem dX4_init_1 : decode cX4_init 1 = .ok (.invokespecial 1, 3) := by decide +kernel
theorem dX4_init_4 : decode cX4_init 4 = .ok (.aload_n 0, 1) := by decide +kernel
theorem dX4_init_5 : decode cX4_init 5 = .ok (.iconst 3, 1) := by decide +kernel
theorem dX4_init_6 : decode cX4_init 6 = .ok (.newarray .long, 2) := by decide +kernel
theorem dX4_init_8 : decode cX4_init 8 = .ok (.putfield 9, 3) := by decide +kernel
theorem dX4_init_11 : decode cX4_init 11 = .ok (.aload_n 0, 1) := by decide +kernel
theorem dX4_init_12 : decode cX4_init 12 = .ok (.iconst 2, 1) := by decide +kernel
theorem dX4_init_13 : decode cX4_init 13 = .ok (.bipush 8, 2) := by decide +kernel
theorem dX4_init_15 : decode cX4_init 15 = .ok (.multianewarray 13 2, 4) := by decide +kernel
theorem dX4_init_19 : decode cX4_init 19 = .ok (.putfield 15, 3) := by decide +kernel
theorem dX4_init_22 : decode cX4_init 22 = .ok (.aload_n 0, 1) := by decide +kernel
theorem dX4_init_23 : decode cX4_init 23 = .ok (.iconst 4, 1) := by decide +kernel
theorem dX4_init_24 : decode cX4_init 24 = .ok (.anewarray 18, 3) := by decide +kernel
theorem dX4_init_27 : decode cX4_init 27 = .ok (.putfield 20, 3) := by decide +kernel
theorem dX4_init_30 : decode cX4_init 30 = .ok (.aload_n 0, 1) := by decide +kernel
theorem dX4_init_31 : decode cX4_init 31 = .ok (.bipush 8, 2) := by decide +kernel
theorem dX4_init_33 : decode cX4_init 33 = .ok (.anewarray 24, 3) := by decide +kernel
theorem dX4_init_36 : decode cX4_init 36 = .ok (.putfield 26, 3) := by decide +kernel
theorem dX4_init_39 : decode cX4_init 39 = .ok (.aload_n 0, 1) := by decide +kernel
theorem dX4_init_40 : decode cX4_init 40 = .ok (.iconst 3, 1) := by decide +kernel
theorem dX4_init_41 : decode cX4_init 41 = .ok (.anewarray 30, 3) := by decide +kernel
theorem dX4_init_44 : decode cX4_init 44 = .ok (.putfield 32, 3) := by decide +kernel
theorem dX4_init_47 : decode cX4_init 47 = .ok (.aload_n 0, 1) := by decide +kernel
theorem dX4_init_48 : decode cX4_init 48 = .ok (.iconst 4, 1) := by decide +kernel
theorem dX4_init_49 : decode cX4_init 49 = .ok (.anewarray 36, 3) := by decide +kernel
theorem dX4_init_52 : decode cX4_init 52 = .ok (.putfield 38, 3) := by decide +kernel
theorem dX4_init_55 : decode cX4_init 55 = .ok (.iconst 0, 1) := by decide +kernel
theorem dX4_init_56 : decode cX4_init 56 = .ok (.istore_n 2, 1) := by decide +kernel
theorem dX4_init_57 : decode cX4_init 57 = .ok (.iload_n 2, 1) := by decide +kernel
theorem dX4_init_58 : decode cX4_init 58 = .ok (.iconst 3, 1) := by decide +kernel
theorem dX4_init_59 : decode cX4_init 59 = .ok (.if_icmp .ge 22, 3) := by decide +kernel
theorem dX4_init_62 : decode cX4_init 62 = .ok (.aload_n 0, 1) := by decide +kernel
theorem dX4_init_63 : decode cX4_init 63 = .ok (.getfield 9, 3) := by decide +kernel
theorem dX4_init_66 : decode cX4_init 66 = .ok (.iload_n 2, 1) := by decide +kernel
theorem dX4_init_67 : decode cX4_init 67 = .ok (.iload_n 1, 1) := by decide +kernel
theorem dX4_init_68 : decode cX4_init 68 = .ok (.i2l, 1) := by decide +kernel
theorem dX4_init_69 : decode cX4_init 69 = .ok (.iload_n 2, 1) := by decide +kernel
theorem dX4_init_70 : decode cX4_init 70 = .ok (.i2l, 1) := by decide +kernel
theorem dX4_init_71 : decode cX4_init 71 = .ok (.invokestatic 42, 3) := by decide +kernel
theorem dX4_init_74 : decode cX4_init 74 = .ok (.lastore, 1) := by decide +kernel
theorem dX4_init_75 : decode cX4_init 75 = .ok (.iinc 2 1, 3) := by decide +kernel
theorem dX4_init_78 : decode cX4_init 78 = .ok (.goto (-21), 3) := by decide +kernel
theorem dX4_init_81 : decode cX4_init 81 = .ok (.iconst 0, 1) := by decide +kernel
theorem dX4_init_82 : decode cX4_init 82 = .ok (.istore_n 2, 1) := by decide +kernel
theorem dX4_init_83 : decode cX4_init 83 = .ok (.iload_n 2, 1) := by decide +kernel
theorem dX4_init_84 : decode cX4_init 84 = .ok (.iconst 4, 1) := by decide +kernel
theorem dX4_init_85 : decode cX4_init 85 = .ok (.if_icmp .ge 22, 3) := by decide +kernel
theorem dX4_init_88 : decode cX4_init 88 = .ok (.aload_n 0, 1) := by decide +kernel
theorem dX4_init_89 : decode cX4_init 89 = .ok (.getfield 20, 3) := by decide +kernel
theorem dX4_init_92 : decode cX4_init 92 = .ok (.iload_n 2, 1) := by decide +kernel
theorem dX4_init_93 : decode cX4_init 93 = .ok (.new 18, 3) := by decide +kernel
theorem dX4_init_96 : decode cX4_init 96 = .ok (.dup, 1) := by decide +kernel
theorem dX4_init_97 : decode cX4_init 97 = .ok (.invokespecial 46, 3) := by decide +kernel
theorem dX4_init_100 : decode cX4_init 100 = .ok (.aastore, 1) := by decide +kernel
theorem dX4_init_101 : decode cX4_init 101 = .ok (.iinc 2 1, 3) := by decide +kernel
theorem dX4_init_104 : decode cX4_init 104 = .ok (.goto (-21), 3) := by decide +kernel
theorem dX4_init_107 : decode cX4_init 107 = .ok (.iconst 0, 1) := by decide +kernel
theorem dX4_init_108 : decode cX4_init 108 = .ok (.istore_n 2, 1) := by decide +kernel
theorem dX4_init_109 : decode cX4_init 109 = .ok (.iload_n 2, 1) := by decide +kernel
theorem dX4_init_110 : decode cX4_init 110 = .ok (.bipush 8, 2) := by decide +kernel
theorem dX4_init_112 : decode cX4_init 112 = .ok (.if_icmp .ge 22, 3) := by decide +kernel
theorem dX4_init_115 : decode cX4_init 115 = .ok (.aload_n 0, 1) := by decide +kernel
theorem dX4_init_116 : decode cX4_init 116 = .ok (.getfield 26, 3) := by decide +kernel
theorem dX4_init_119 : decode cX4_init 119 = .ok (.iload_n 2, 1) := by decide +kernel
theorem dX4_init_120 : decode cX4_init 120 = .ok (.new 24, 3) := by decide +kernel
theorem dX4_init_123 : decode cX4_init 123 = .ok (.dup, 1) := by decide +kernel
theorem dX4_init_124 : decode cX4_init 124 = .ok (.invokespecial 47, 3) := by decide +kernel
theorem dX4_init_127 : decode cX4_init 127 = .ok (.aastore, 1) := by decide +kernel
theorem dX4_init_128 : decode cX4_init 128 = .ok (.iinc 2 1, 3) := by decide +kernel
theorem dX4_init_131 : decode cX4_init 131 = .ok (.goto (-22), 3) := by decide +kernel
theorem dX4_init_134 : decode cX4_init 134 = .ok (.iconst 0, 1) := by decide +kernel
theorem dX4_init_135 : decode cX4_init 135 = .ok (.istore_n 2, 1) := by decide +kernel
theorem dX4_init_136 : decode cX4_init 136 = .ok (.iload_n 2, 1) := by decide +kernel
theorem dX4_init_137 : decode cX4_init 137 = .ok (.iconst 3, 1) := by decide +kernel
theorem dX4_init_138 : decode cX4_init 138 = .ok (.if_icmp .ge 22, 3) := by decide +kernel
theorem dX4_init_141 : decode cX4_init 141 = .ok (.aload_n 0, 1) := by decide +kernel
theorem dX4_init_142 : decode cX4_init 142 = .ok (.getfield 32, 3) := by decide +kernel
theorem dX4_init_145 : decode cX4_init 145 = .ok (.iload_n 2, 1) := by decide +kernel
theorem dX4_init_146 : decode cX4_init 146 = .ok (.new 30, 3) := by decide +kernel
theorem dX4_init_149 : decode cX4_init 149 = .ok (.dup, 1) := by decide +kernel
theorem dX4_init_150 : decode cX4_init 150 = .ok (.invokespecial 48, 3) := by decide +kernel
theorem dX4_init_153 : decode cX4_init 153 = .ok (.aastore, 1) := by decide +kernel
theorem dX4_init_154 : decode cX4_init 154 = .ok (.iinc 2 1, 3) := by decide +kernel
theorem dX4_init_157 : decode cX4_init 157 = .ok (.goto (-21), 3) := by decide +kernel
theorem dX4_init_160 : decode cX4_init 160 = .ok (.iconst 0, 1) := by decide +kernel
theorem dX4_init_161 : decode cX4_init 161 = .ok (.istore_n 2, 1) := by decide +kernel
theorem dX4_init_162 : decode cX4_init 162 = .ok (.iload_n 2, 1) := by decide +kernel
theorem dX4_init_163 : decode cX4_init 163 = .ok (.iconst 4, 1) := by decide +kernel
theorem dX4_init_164 : decode cX4_init 164 = .ok (.if_icmp .ge 22, 3) := by decide +kernel
theorem dX4_init_167 : decode cX4_init 167 = .ok (.aload_n 0, 1) := by decide +kernel
theorem dX4_init_168 : decode cX4_init 168 = .ok (.getfield 38, 3) := by decide +kernel
theorem dX4_init_171 : decode cX4_init 171 = .ok (.iload_n 2, 1) := by decide +kernel
theorem dX4_init_172 : decode cX4_init 172 = .ok (.new 36, 3) := by decide +kernel
theorem dX4_init_175 : decode cX4_init 175 = .ok (.dup, 1) := by decide +kernel
theorem dX4_init_176 : decode cX4_init 176 = .ok (.invokespecial 49, 3) := by decide +kernel
theorem dX4_init_179 : decode cX4_init 179 = .ok (.aastore, 1) := by decide +kernel
theorem dX4_init_180 : decode cX4_init 180 = .ok (.iinc 2 1, 3) := by decide +kernel
theorem dX4_init_183 : decode cX4_init 183 = .ok (.goto (-21), 3) := by decide +kernel
theorem dX4_init_186 : decode cX4_init 186 = .ok (.aload_n 0, 1) := by decide +kernel
theorem dX4_init_187 : decode cX4_init 187 = .ok (.dconst 1, 1) := by decide +kernel
theorem dX4_init_188 : decode cX4_init 188 = .ok (.putfield 50, 3) := by decide +kernel
theorem dX4_init_191 : decode cX4_init 191 = .ok (.aload_n 0, 1) := by decide +kernel
theorem dX4_init_192 : decode cX4_init 192 = .ok (.iconst (-1), 1) := by decide +kernel
theorem dX4_init_193 : decode cX4_init 193 = .ok (.invokevirtual 54, 3) := by decide +kernel
theorem dX4_init_196 : decode cX4_init 196 = .ok (.return_, 1) := by decide +kernel
theorem dX4_power_0 : decode cX4_power 0 = .ok (.iload_n 1, 1) := by decide +kernel
theorem dX4_power_1 : decode cX4_power 1 = .ok (.iconst (-1), 1) := by decide +kernel
theorem dX4_power_2 : decode cX4_power 2 = .ok (.bipush 100, 2) := by decide +kernel
theorem dX4_power_4 : decode cX4_power 4 = .ok (.invokestatic 58, 3) := by decide +kernel
theorem dX4_power_7 : decode cX4_power 7 = .ok (.aload_n 0, 1) := by decide +kernel
theorem dX4_power_8 : decode cX4_power 8 = .ok (.iload_n 1, 1) := by decide +kernel
theorem dX4_power_9 : decode cX4_power 9 = .ok (.invokevirtual 54, 3) := by decide +kernel
theorem dX4_power_12 : decode cX4_power 12 = .ok (.return_, 1) := by decide +kernel
theorem dX4_extend_0 : decode cX4_extend 0 = .ok (.iload_n 1, 1) := by decide +kernel
theorem dX4_extend_1 : decode cX4_extend 1 = .ok (.iconst 2, 1) := by decide +kernel
theorem dX4_extend_2 : decode cX4_extend 2 = .ok (.invokestatic 62, 3) := by decide +kernel
theorem dX4_extend_5 : decode cX4_extend 5 = .ok (.iload_n 2, 1) := by decide +kernel
theorem dX4_extend_6 : decode cX4_extend 6 = .ok (.bipush 8, 2) := by decide +kernel
theorem dX4_extend_8 : decode cX4_extend 8 = .ok (.invokestatic 62, 3) := by decide +kernel
theorem dX4_extend_11 : decode cX4_extend 11 = .ok (.aload_n 0, 1) := by decide +kernel
theorem dX4_extend_12 : decode cX4_extend 12 = .ok (.invokevirtual 66, 3) := by decide +kernel
theorem dX4_extend_15 : decode cX4_extend 15 = .ok (.aload_n 0, 1) := by decide +kernel
theorem dX4_extend_16 : decode cX4_extend 16 = .ok (.getfield 15, 3) := by decide +kernel
theorem dX4_extend_19 : decode cX4_extend 19 = .ok (.iload_n 1, 1) := by decide +kernel
theorem dX4_extend_20 : decode cX4_extend 20 = .ok (.aaload, 1) := by decide +kernel
theorem dX4_extend_21 : decode cX4_extend 21 = .ok (.iload_n 2, 1) := by decide +kernel
theorem dX4_extend_22 : decode cX4_extend 22 = .ok (.aload_n 0, 1) := by decide +kernel
theorem dX4_extend_23 : decode cX4_extend 23 = .ok (.getfield 15, 3) := by decide +kernel
theorem dX4_extend_26 : decode cX4_extend 26 = .ok (.iload_n 1, 1) := by decide +kernel
theorem dX4_extend_27 : decode cX4_extend 27 = .ok (.aaload, 1) := by decide +kernel
theorem dX4_extend_28 : decode cX4_extend 28 = .ok (.iload_n 2, 1) := by decide +kernel
theorem dX4_extend_29 : decode cX4_extend 29 = .ok (.laload, 1) := by decide +kernel
theorem dX4_extend_30 : decode cX4_extend 30 = .ok (.lload_n 3, 1) := by decide +kernel
theorem dX4_extend_31 : decode cX4_extend 31 = .ok (.invokestatic 42, 3) := by decide +kernel
theorem dX4_extend_34 : decode cX4_extend 34 = .ok (.lastore, 1) := by decide +kernel
theorem dX4_extend_35 : decode cX4_extend 35 = .ok (.aload_n 0, 1) := by decide +kernel
theorem dX4_extend_36 : decode cX4_extend 36 = .ok (.dup, 1) := by decide +kernel
theorem dX4_extend_37 : decode cX4_extend 37 = .ok (.getfield 69, 3) := by decide +kernel
theorem dX4_extend_40 : decode cX4_extend 40 = .ok (.iconst 1, 1) := by decide +kernel
theorem dX4_extend_41 : decode cX4_extend 41 = .ok (.iadd, 1) := by decide +kernel
theorem dX4_extend_42 : decode cX4_extend 42 = .ok (.putfield 69, 3) := by decide +kernel
theorem dX4_extend_45 : decode cX4_extend 45 = .ok (.aload_n 0, 1) := by decide +kernel
theorem dX4_extend_46 : decode cX4_extend 46 = .ok (.getfield 15, 3) := by decide +kernel
theorem dX4_extend_49 : decode cX4_extend 49 = .ok (.iload_n 1, 1) := by decide +kernel
theorem dX4_extend_50 : decode cX4_extend 50 = .ok (.aaload, 1) := by decide +kernel
theorem dX4_extend_51 : decode cX4_extend 51 = .ok (.iload_n 2, 1) := by decide +kernel
theorem dX4_extend_52 : decode cX4_extend 52 = .ok (.laload, 1) := by decide +kernel
theorem dX4_extend_53 : decode cX4_extend 53 = .ok (.lreturn, 1) := by decide +kernel
theorem dX4_primary_0 : decode cX4_primary 0 = .ok (.iload_n 1, 1) := by decide +kernel
theorem dX4_primary_1 : decode cX4_primary 1 = .ok (.iconst 3, 1) := by decide +kernel
theorem dX4_primary_2 : decode cX4_primary 2 = .ok (.invokestatic 62, 3) := by decide +kernel
theorem dX4_primary_5 : decode cX4_primary 5 = .ok (.aload_n 0, 1) := by decide +kernel
theorem dX4_primary_6 : decode cX4_primary 6 = .ok (.invokevirtual 66, 3) := by decide +kernel
theorem dX4_primary_9 : decode cX4_primary 9 = .ok (.aload_n 0, 1) := by decide +kernel
theorem dX4_primary_10 : decode cX4_primary 10 = .ok (.invokevirtual 73, 3) := by decide +kernel
theorem dX4_primary_13 : decode cX4_primary 13 = .ok (.istore 4, 2) := by decide +kernel
theorem dX4_primary_15 : decode cX4_primary 15 = .ok (.aload_n 0, 1) := by decide +kernel
theorem dX4_primary_16 : decode cX4_primary 16 = .ok (.getfield 20, 3) := by decide +kernel
theorem dX4_primary_19 : decode cX4_primary 19 = .ok (.iload 4, 2) := by decide +kernel
theorem dX4_primary_21 : decode cX4_primary 21 = .ok (.aaload, 1) := by decide +kernel
theorem dX4_primary_22 : decode cX4_primary 22 = .ok (.aload_n 0, 1) := by decide +kernel
theorem dX4_primary_23 : decode cX4_primary 23 = .ok (.getfield 9, 3) := by decide +kernel
theorem dX4_primary_26 : decode cX4_primary 26 = .ok (.iload_n 1, 1) := by decide +kernel
theorem dX4_primary_27 : decode cX4_primary 27 = .ok (.laload, 1) := by decide +kernel
theorem dX4_primary_28 : decode cX4_primary 28 = .ok (.lload_n 2, 1) := by decide +kernel
theorem dX4_primary_29 : decode cX4_primary 29 = .ok (.invokestatic 42, 3) := by decide +kernel
theorem dX4_primary_32 : decode cX4_primary 32 = .ok (.iconst 0, 1) := by decide +kernel
theorem dX4_primary_33 : decode cX4_primary 33 = .ok (.lconst 0, 1) := by decide +kernel
theorem dX4_primary_34 : decode cX4_primary 34 = .ok (.lconst 0, 1) := by decide +kernel
theorem dX4_primary_35 : decode cX4_primary 35 = .ok (.iconst 1, 1) := by decide +kernel
theorem dX4_primary_36 : decode cX4_primary 36 = .ok (.invokevirtual 77, 3) := by decide +kernel
theorem dX4_primary_39 : decode cX4_primary 39 = .ok (.iload 4, 2) := by decide +kernel
theorem dX4_primary_41 : decode cX4_primary 41 = .ok (.ireturn, 1) := by decide +kernel
theorem dX4_create_0 : decode cX4_create 0 = .ok (.iload_n 1, 1) := by decide +kernel
theorem dX4_create_1 : decode cX4_create 1 = .ok (.iconst 4, 1) := by decide +kernel
theorem dX4_create_2 : decode cX4_create 2 = .ok (.invokestatic 62, 3) := by decide +kernel
theorem dX4_create_5 : decode cX4_create 5 = .ok (.iload_n 2, 1) := by decide +kernel
theorem dX4_create_6 : decode cX4_create 6 = .ok (.bipush 8, 2) := by decide +kernel
theorem dX4_create_8 : decode cX4_create 8 = .ok (.invokestatic 62, 3) := by decide +kernel
theorem dX4_create_11 : decode cX4_create 11 = .ok (.aload_n 0, 1) := by decide +kernel
theorem dX4_create_12 : decode cX4_create 12 = .ok (.invokevirtual 66, 3) := by decide +kernel
theorem dX4_create_15 : decode cX4_create 15 = .ok (.aload_n 0, 1) := by decide +kernel
theorem dX4_create_16 : decode cX4_create 16 = .ok (.iload_n 1, 1) := by decide +kernel
theorem dX4_create_17 : decode cX4_create 17 = .ok (.invokevirtual 81, 3) := by decide +kernel
theorem dX4_create_20 : decode cX4_create 20 = .ok (.astore 8, 2) := by decide +kernel
theorem dX4_create_22 : decode cX4_create 22 = .ok (.aload 8, 2) := by decide +kernel
theorem dX4_create_24 : decode cX4_create 24 = .ok (.invokestatic 85, 3) := by decide +kernel
theorem dX4_create_27 : decode cX4_create 27 = .ok (.aload_n 0, 1) := by decide +kernel
theorem dX4_create_28 : decode cX4_create 28 = .ok (.getfield 26, 3) := by decide +kernel
theorem dX4_create_31 : decode cX4_create 31 = .ok (.iload_n 2, 1) := by decide +kernel
theorem dX4_create_32 : decode cX4_create 32 = .ok (.aaload, 1) := by decide +kernel
theorem dX4_create_33 : decode cX4_create 33 = .ok (.aload 8, 2) := by decide +kernel
theorem dX4_create_35 : decode cX4_create 35 = .ok (.getfield 89, 3) := by decide +kernel
theorem dX4_create_38 : decode cX4_create 38 = .ok (.lload_n 3, 1) := by decide +kernel
theorem dX4_create_39 : decode cX4_create 39 = .ok (.iload 5, 2) := by decide +kernel
theorem dX4_create_41 : decode cX4_create 41 = .ok (.lload 6, 2) := by decide +kernel
theorem dX4_create_43 : decode cX4_create 43 = .ok (.invokevirtual 93, 3) := by decide +kernel
theorem dX4_create_46 : decode cX4_create 46 = .ok (.return_, 1) := by decide +kernel
theorem dX4_load_0 : decode cX4_load 0 = .ok (.iload_n 1, 1) := by decide +kernel
theorem dX4_load_1 : decode cX4_load 1 = .ok (.iconst 4, 1) := by decide +kernel
theorem dX4_load_2 : decode cX4_load 2 = .ok (.invokestatic 62, 3) := by decide +kernel
theorem dX4_load_5 : decode cX4_load 5 = .ok (.iload_n 2, 1) := by decide +kernel
theorem dX4_load_6 : decode cX4_load 6 = .ok (.bipush 8, 2) := by decide +kernel
theorem dX4_load_8 : decode cX4_load 8 = .ok (.invokestatic 62, 3) := by decide +kernel
theorem dX4_load_11 : decode cX4_load 11 = .ok (.aload_n 0, 1) := by decide +kernel
theorem dX4_load_12 : decode cX4_load 12 = .ok (.invokevirtual 66, 3) := by decide +kernel
theorem dX4_load_15 : decode cX4_load 15 = .ok (.aload_n 0, 1) := by decide +kernel
theorem dX4_load_16 : decode cX4_load 16 = .ok (.iload_n 1, 1) := by decide +kernel
theorem dX4_load_17 : decode cX4_load 17 = .ok (.invokevirtual 81, 3) := by decide +kernel
theorem dX4_load_20 : decode cX4_load 20 = .ok (.astore_n 3, 1) := by decide +kernel
theorem dX4_load_21 : decode cX4_load 21 = .ok (.aload_n 0, 1) := by decide +kernel
theorem dX4_load_22 : decode cX4_load 22 = .ok (.iload_n 2, 1) := by decide +kernel
theorem dX4_load_23 : decode cX4_load 23 = .ok (.invokevirtual 97, 3) := by decide +kernel
theorem dX4_load_26 : decode cX4_load 26 = .ok (.astore 4, 2) := by decide +kernel
theorem dX4_load_28 : decode cX4_load 28 = .ok (.aload_n 3, 1) := by decide +kernel
theorem dX4_load_29 : decode cX4_load 29 = .ok (.invokestatic 85, 3) := by decide +kernel
theorem dX4_load_32 : decode cX4_load 32 = .ok (.aload 4, 2) := by decide +kernel
theorem dX4_load_34 : decode cX4_load 34 = .ok (.aload_n 3, 1) := by decide +kernel
theorem dX4_load_35 : decode cX4_load 35 = .ok (.getfield 89, 3) := by decide +kernel
theorem dX4_load_38 : decode cX4_load 38 = .ok (.invokestatic 101, 3) := by decide +kernel
theorem dX4_load_41 : decode cX4_load 41 = .ok (.aload_n 0, 1) := by decide +kernel
theorem dX4_load_42 : decode cX4_load 42 = .ok (.invokevirtual 73, 3) := by decide +kernel
theorem dX4_load_45 : decode cX4_load 45 = .ok (.istore 5, 2) := by decide +kernel
theorem dX4_load_47 : decode cX4_load 47 = .ok (.aload 4, 2) := by decide +kernel
theorem dX4_load_49 : decode cX4_load 49 = .ok (.aload_n 3, 1) := by decide +kernel
theorem dX4_load_50 : decode cX4_load 50 = .ok (.getfield 89, 3) := by decide +kernel
theorem dX4_load_53 : decode cX4_load 53 = .ok (.invokevirtual 105, 3) := by decide +kernel
theorem dX4_load_56 : decode cX4_load 56 = .ok (.lstore 6, 2) := by decide +kernel
theorem dX4_load_58 : decode cX4_load 58 = .ok (.aload_n 0, 1) := by decide +kernel
theorem dX4_load_59 : decode cX4_load 59 = .ok (.getfield 20, 3) := by decide +kernel
theorem dX4_load_62 : decode cX4_load 62 = .ok (.iload 5, 2) := by decide +kernel
theorem dX4_load_64 : decode cX4_load 64 = .ok (.aaload, 1) := by decide +kernel
theorem dX4_load_65 : decode cX4_load 65 = .ok (.aload_n 3, 1) := by decide +kernel
theorem dX4_load_66 : decode cX4_load 66 = .ok (.getfield 89, 3) := by decide +kernel
theorem dX4_load_69 : decode cX4_load 69 = .ok (.aload 4, 2) := by decide +kernel
theorem dX4_load_71 : decode cX4_load 71 = .ok (.getfield 109, 3) := by decide +kernel
theorem dX4_load_74 : decode cX4_load 74 = .ok (.iconst 3, 1) := by decide +kernel
theorem dX4_load_75 : decode cX4_load 75 = .ok (.laload, 1) := by decide +kernel
theorem dX4_load_76 : decode cX4_load 76 = .ok (.invokestatic 42, 3) := by decide +kernel
theorem dX4_load_79 : decode cX4_load 79 = .ok (.aload 4, 2) := by decide +kernel
theorem dX4_load_81 : decode cX4_load 81 = .ok (.aload_n 3, 1) := by decide +kernel
theorem dX4_load_82 : decode cX4_load 82 = .ok (.getfield 89, 3) := by decide +kernel
theorem dX4_load_85 : decode cX4_load 85 = .ok (.invokevirtual 112, 3) := by decide +kernel
theorem dX4_load_88 : decode cX4_load 88 = .ok (.aload 4, 2) := by decide +kernel
theorem dX4_load_90 : decode cX4_load 90 = .ok (.getfield 109, 3) := by decide +kernel
theorem dX4_load_93 : decode cX4_load 93 = .ok (.iconst 2, 1) := by decide +kernel
theorem dX4_load_94 : decode cX4_load 94 = .ok (.laload, 1) := by decide +kernel
theorem dX4_load_95 : decode cX4_load 95 = .ok (.lload 6, 2) := by decide +kernel
theorem dX4_load_97 : decode cX4_load 97 = .ok (.lload 6, 2) := by decide +kernel
theorem dX4_load_99 : decode cX4_load 99 = .ok (.lconst 1, 1) := by decide +kernel
theorem dX4_load_100 : decode cX4_load 100 = .ok (.land, 1) := by decide +kernel
theorem dX4_load_101 : decode cX4_load 101 = .ok (.lconst 0, 1) := by decide +kernel
theorem dX4_load_102 : decode cX4_load 102 = .ok (.lcmp, 1) := by decide +kernel
theorem dX4_load_103 : decode cX4_load 103 = .ok (.ifCond .ne 7, 3) := by decide +kernel
theorem dX4_load_106 : decode cX4_load 106 = .ok (.iconst 1, 1) := by decide +kernel
theorem dX4_load_107 : decode cX4_load 107 = .ok (.goto 4, 3) := by decide +kernel
theorem dX4_load_110 : decode cX4_load 110 = .ok (.iconst 0, 1) := by decide +kernel
theorem dX4_load_111 : decode cX4_load 111 = .ok (.invokevirtual 77, 3) := by decide +kernel
theorem dX4_load_114 : decode cX4_load 114 = .ok (.iload 5, 2) := by decide +kernel
theorem dX4_load_116 : decode cX4_load 116 = .ok (.ireturn, 1) := by decide +kernel
theorem dX4_tamper_0 : decode cX4_tamper 0 = .ok (.iload_n 1, 1) := by decide +kernel
theorem dX4_tamper_1 : decode cX4_tamper 1 = .ok (.bipush 8, 2) := by decide +kernel
theorem dX4_tamper_3 : decode cX4_tamper 3 = .ok (.invokestatic 62, 3) := by decide +kernel
theorem dX4_tamper_6 : decode cX4_tamper 6 = .ok (.iload_n 2, 1) := by decide +kernel
theorem dX4_tamper_7 : decode cX4_tamper 7 = .ok (.iconst 4, 1) := by decide +kernel
theorem dX4_tamper_8 : decode cX4_tamper 8 = .ok (.invokestatic 62, 3) := by decide +kernel
theorem dX4_tamper_11 : decode cX4_tamper 11 = .ok (.aload_n 0, 1) := by decide +kernel
theorem dX4_tamper_12 : decode cX4_tamper 12 = .ok (.iload_n 1, 1) := by decide +kernel
theorem dX4_tamper_13 : decode cX4_tamper 13 = .ok (.invokevirtual 97, 3) := by decide +kernel
theorem dX4_tamper_16 : decode cX4_tamper 16 = .ok (.astore 5, 2) := by decide +kernel
theorem dX4_tamper_18 : decode cX4_tamper 18 = .ok (.aload 5, 2) := by decide +kernel
theorem dX4_tamper_20 : decode cX4_tamper 20 = .ok (.getfield 109, 3) := by decide +kernel
theorem dX4_tamper_23 : decode cX4_tamper 23 = .ok (.iload_n 2, 1) := by decide +kernel
theorem dX4_tamper_24 : decode cX4_tamper 24 = .ok (.aload 5, 2) := by decide +kernel
theorem dX4_tamper_26 : decode cX4_tamper 26 = .ok (.getfield 109, 3) := by decide +kernel
theorem dX4_tamper_29 : decode cX4_tamper 29 = .ok (.iload_n 2, 1) := by decide +kernel
theorem dX4_tamper_30 : decode cX4_tamper 30 = .ok (.laload, 1) := by decide +kernel
theorem dX4_tamper_31 : decode cX4_tamper 31 = .ok (.lload_n 3, 1) := by decide +kernel
theorem dX4_tamper_32 : decode cX4_tamper 32 = .ok (.lxor, 1) := by decide +kernel
theorem dX4_tamper_33 : decode cX4_tamper 33 = .ok (.lastore, 1) := by decide +kernel
theorem dX4_tamper_34 : decode cX4_tamper 34 = .ok (.return_, 1) := by decide +kernel
theorem dX4_flush_0 : decode cX4_flush 0 = .ok (.iload_n 1, 1) := by decide +kernel
theorem dX4_flush_1 : decode cX4_flush 1 = .ok (.iconst 4, 1) := by decide +kernel
theorem dX4_flush_2 : decode cX4_flush 2 = .ok (.invokestatic 62, 3) := by decide +kernel
theorem dX4_flush_5 : decode cX4_flush 5 = .ok (.aload_n 0, 1) := by decide +kernel
theorem dX4_flush_6 : decode cX4_flush 6 = .ok (.invokevirtual 66, 3) := by decide +kernel
theorem dX4_flush_9 : decode cX4_flush 9 = .ok (.aload_n 0, 1) := by decide +kernel
theorem dX4_flush_10 : decode cX4_flush 10 = .ok (.iload_n 1, 1) := by decide +kernel
theorem dX4_flush_11 : decode cX4_flush 11 = .ok (.invokevirtual 81, 3) := by decide +kernel
theorem dX4_flush_14 : decode cX4_flush 14 = .ok (.iconst 0, 1) := by decide +kernel
theorem dX4_flush_15 : decode cX4_flush 15 = .ok (.putfield 116, 3) := by decide +kernel
theorem dX4_flush_18 : decode cX4_flush 18 = .ok (.return_, 1) := by decide +kernel
theorem dX4_open_0 : decode cX4_open 0 = .ok (.iload_n 1, 1) := by decide +kernel
theorem dX4_open_1 : decode cX4_open 1 = .ok (.iconst 4, 1) := by decide +kernel
theorem dX4_open_2 : decode cX4_open 2 = .ok (.invokestatic 62, 3) := by decide +kernel
theorem dX4_open_5 : decode cX4_open 5 = .ok (.aload_n 0, 1) := by decide +kernel
theorem dX4_open_6 : decode cX4_open 6 = .ok (.invokevirtual 66, 3) := by decide +kernel
theorem dX4_open_9 : decode cX4_open 9 = .ok (.aload_n 0, 1) := by decide +kernel
theorem dX4_open_10 : decode cX4_open 10 = .ok (.iload_n 1, 1) := by decide +kernel
theorem dX4_open_11 : decode cX4_open 11 = .ok (.invokevirtual 81, 3) := by decide +kernel
theorem dX4_open_14 : decode cX4_open 14 = .ok (.astore_n 3, 1) := by decide +kernel
theorem dX4_open_15 : decode cX4_open 15 = .ok (.aload_n 0, 1) := by decide +kernel
theorem dX4_open_16 : decode cX4_open 16 = .ok (.aload_n 3, 1) := by decide +kernel
theorem dX4_open_17 : decode cX4_open 17 = .ok (.iload_n 2, 1) := by decide +kernel
theorem dX4_open_18 : decode cX4_open 18 = .ok (.invokevirtual 120, 3) := by decide +kernel
theorem dX4_open_21 : decode cX4_open 21 = .ok (.aload_n 3, 1) := by decide +kernel
theorem dX4_open_22 : decode cX4_open 22 = .ok (.getfield 124, 3) := by decide +kernel
theorem dX4_open_25 : decode cX4_open 25 = .ok (.lreturn, 1) := by decide +kernel
theorem dX4_unseal_0 : decode cX4_unseal 0 = .ok (.iload_n 1, 1) := by decide +kernel
theorem dX4_unseal_1 : decode cX4_unseal 1 = .ok (.iconst 4, 1) := by decide +kernel
theorem dX4_unseal_2 : decode cX4_unseal 2 = .ok (.invokestatic 62, 3) := by decide +kernel
theorem dX4_unseal_5 : decode cX4_unseal 5 = .ok (.iload_n 2, 1) := by decide +kernel
theorem dX4_unseal_6 : decode cX4_unseal 6 = .ok (.iconst 3, 1) := by decide +kernel
theorem dX4_unseal_7 : decode cX4_unseal 7 = .ok (.invokestatic 62, 3) := by decide +kernel
theorem dX4_unseal_10 : decode cX4_unseal 10 = .ok (.aload_n 0, 1) := by decide +kernel
theorem dX4_unseal_11 : decode cX4_unseal 11 = .ok (.invokevirtual 66, 3) := by decide +kernel
theorem dX4_unseal_14 : decode cX4_unseal 14 = .ok (.aload_n 0, 1) := by decide +kernel
theorem dX4_unseal_15 : decode cX4_unseal 15 = .ok (.iload_n 1, 1) := by decide +kernel
theorem dX4_unseal_16 : decode cX4_unseal 16 = .ok (.invokevirtual 81, 3) := by decide +kernel
theorem dX4_unseal_19 : decode cX4_unseal 19 = .ok (.astore_n 3, 1) := by decide +kernel
theorem dX4_unseal_20 : decode cX4_unseal 20 = .ok (.aload_n 0, 1) := by decide +kernel
theorem dX4_unseal_21 : decode cX4_unseal 21 = .ok (.aload_n 3, 1) := by decide +kernel
theorem dX4_unseal_22 : decode cX4_unseal 22 = .ok (.getfield 127, 3) := by decide +kernel
theorem dX4_unseal_25 : decode cX4_unseal 25 = .ok (.aload_n 0, 1) := by decide +kernel
theorem dX4_unseal_26 : decode cX4_unseal 26 = .ok (.getfield 32, 3) := by decide +kernel
theorem dX4_unseal_29 : decode cX4_unseal 29 = .ok (.iload_n 2, 1) := by decide +kernel
theorem dX4_unseal_30 : decode cX4_unseal 30 = .ok (.aaload, 1) := by decide +kernel
theorem dX4_unseal_31 : decode cX4_unseal 31 = .ok (.invokevirtual 130, 3) := by decide +kernel
theorem dX4_unseal_34 : decode cX4_unseal 34 = .ok (.aload_n 0, 1) := by decide +kernel
theorem dX4_unseal_35 : decode cX4_unseal 35 = .ok (.getfield 32, 3) := by decide +kernel
theorem dX4_unseal_38 : decode cX4_unseal 38 = .ok (.iload_n 2, 1) := by decide +kernel
theorem dX4_unseal_39 : decode cX4_unseal 39 = .ok (.aaload, 1) := by decide +kernel
theorem dX4_unseal_40 : decode cX4_unseal 40 = .ok (.invokevirtual 134, 3) := by decide +kernel
theorem dX4_unseal_43 : decode cX4_unseal 43 = .ok (.aload_n 3, 1) := by decide +kernel
theorem dX4_unseal_44 : decode cX4_unseal 44 = .ok (.getfield 124, 3) := by decide +kernel
theorem dX4_unseal_47 : decode cX4_unseal 47 = .ok (.lreturn, 1) := by decide +kernel
theorem dX4_session_0 : decode cX4_session 0 = .ok (.iload_n 1, 1) := by decide +kernel
theorem dX4_session_1 : decode cX4_session 1 = .ok (.iconst 3, 1) := by decide +kernel
theorem dX4_session_2 : decode cX4_session 2 = .ok (.invokestatic 62, 3) := by decide +kernel
theorem dX4_session_5 : decode cX4_session 5 = .ok (.aload_n 0, 1) := by decide +kernel
theorem dX4_session_6 : decode cX4_session 6 = .ok (.invokevirtual 66, 3) := by decide +kernel
theorem dX4_session_9 : decode cX4_session 9 = .ok (.aload_n 0, 1) := by decide +kernel
theorem dX4_session_10 : decode cX4_session 10 = .ok (.getfield 32, 3) := by decide +kernel
theorem dX4_session_13 : decode cX4_session 13 = .ok (.iload_n 1, 1) := by decide +kernel
theorem dX4_session_14 : decode cX4_session 14 = .ok (.aaload, 1) := by decide +kernel
theorem dX4_session_15 : decode cX4_session 15 = .ok (.invokevirtual 134, 3) := by decide +kernel
theorem dX4_session_18 : decode cX4_session 18 = .ok (.return_, 1) := by decide +kernel
theorem dX4_pcr_0 : decode cX4_pcr 0 = .ok (.iload_n 1, 1) := by decide +kernel
theorem dX4_pcr_1 : decode cX4_pcr 1 = .ok (.iconst 3, 1) := by decide +kernel
theorem dX4_pcr_2 : decode cX4_pcr 2 = .ok (.invokestatic 62, 3) := by decide +kernel
theorem dX4_pcr_5 : decode cX4_pcr 5 = .ok (.iload_n 2, 1) := by decide +kernel
theorem dX4_pcr_6 : decode cX4_pcr 6 = .ok (.iconst 2, 1) := by decide +kernel
theorem dX4_pcr_7 : decode cX4_pcr 7 = .ok (.invokestatic 62, 3) := by decide +kernel
theorem dX4_pcr_10 : decode cX4_pcr 10 = .ok (.iload_n 3, 1) := by decide +kernel
theorem dX4_pcr_11 : decode cX4_pcr 11 = .ok (.iconst 1, 1) := by decide +kernel
theorem dX4_pcr_12 : decode cX4_pcr 12 = .ok (.sipush 255, 3) := by decide +kernel
theorem dX4_pcr_15 : decode cX4_pcr 15 = .ok (.invokestatic 58, 3) := by decide +kernel
theorem dX4_pcr_18 : decode cX4_pcr 18 = .ok (.aload_n 0, 1) := by decide +kernel
theorem dX4_pcr_19 : decode cX4_pcr 19 = .ok (.invokevirtual 66, 3) := by decide +kernel
theorem dX4_pcr_22 : decode cX4_pcr 22 = .ok (.aload_n 0, 1) := by decide +kernel
theorem dX4_pcr_23 : decode cX4_pcr 23 = .ok (.getfield 32, 3) := by decide +kernel
theorem dX4_pcr_26 : decode cX4_pcr 26 = .ok (.iload_n 1, 1) := by decide +kernel
theorem dX4_pcr_27 : decode cX4_pcr 27 = .ok (.aaload, 1) := by decide +kernel
theorem dX4_pcr_28 : decode cX4_pcr 28 = .ok (.astore 4, 2) := by decide +kernel
theorem dX4_pcr_30 : decode cX4_pcr 30 = .ok (.aload 4, 2) := by decide +kernel
theorem dX4_pcr_32 : decode cX4_pcr 32 = .ok (.aload 4, 2) := by decide +kernel
theorem dX4_pcr_34 : decode cX4_pcr 34 = .ok (.getfield 137, 3) := by decide +kernel
theorem dX4_pcr_37 : decode cX4_pcr 37 = .ok (.ldc2_w 140, 3) := by decide +kernel
theorem dX4_pcr_40 : decode cX4_pcr 40 = .ok (.invokestatic 42, 3) := by decide +kernel
theorem dX4_pcr_43 : decode cX4_pcr 43 = .ok (.aload_n 0, 1) := by decide +kernel
theorem dX4_pcr_44 : decode cX4_pcr 44 = .ok (.iload_n 2, 1) := by decide +kernel
theorem dX4_pcr_45 : decode cX4_pcr 45 = .ok (.iload_n 3, 1) := by decide +kernel
theorem dX4_pcr_46 : decode cX4_pcr 46 = .ok (.invokevirtual 142, 3) := by decide +kernel
theorem dX4_pcr_49 : decode cX4_pcr 49 = .ok (.invokestatic 42, 3) := by decide +kernel
theorem dX4_pcr_52 : decode cX4_pcr 52 = .ok (.putfield 137, 3) := by decide +kernel
theorem dX4_pcr_55 : decode cX4_pcr 55 = .ok (.aload 4, 2) := by decide +kernel
theorem dX4_pcr_57 : decode cX4_pcr 57 = .ok (.iconst 1, 1) := by decide +kernel
theorem dX4_pcr_58 : decode cX4_pcr 58 = .ok (.putfield 146, 3) := by decide +kernel
theorem dX4_pcr_61 : decode cX4_pcr 61 = .ok (.aload 4, 2) := by decide +kernel
theorem dX4_pcr_63 : decode cX4_pcr 63 = .ok (.aload_n 0, 1) := by decide +kernel
theorem dX4_pcr_64 : decode cX4_pcr 64 = .ok (.getfield 69, 3) := by decide +kernel
theorem dX4_pcr_67 : decode cX4_pcr 67 = .ok (.putfield 149, 3) := by decide +kernel
theorem dX4_pcr_70 : decode cX4_pcr 70 = .ok (.aload 4, 2) := by decide +kernel
theorem dX4_pcr_72 : decode cX4_pcr 72 = .ok (.getfield 137, 3) := by decide +kernel
theorem dX4_pcr_75 : decode cX4_pcr 75 = .ok (.lreturn, 1) := by decide +kernel
theorem dX4_either_0 : decode cX4_either 0 = .ok (.iload_n 1, 1) := by decide +kernel
theorem dX4_either_1 : decode cX4_either 1 = .ok (.iconst 3, 1) := by decide +kernel
theorem dX4_either_2 : decode cX4_either 2 = .ok (.invokestatic 62, 3) := by decide +kernel
theorem dX4_either_5 : decode cX4_either 5 = .ok (.aload_n 0, 1) := by decide +kernel
theorem dX4_either_6 : decode cX4_either 6 = .ok (.invokevirtual 66, 3) := by decide +kernel
theorem dX4_either_9 : decode cX4_either 9 = .ok (.aload_n 0, 1) := by decide +kernel
theorem dX4_either_10 : decode cX4_either 10 = .ok (.getfield 32, 3) := by decide +kernel
theorem dX4_either_13 : decode cX4_either 13 = .ok (.iload_n 1, 1) := by decide +kernel
theorem dX4_either_14 : decode cX4_either 14 = .ok (.aaload, 1) := by decide +kernel
theorem dX4_either_15 : decode cX4_either 15 = .ok (.astore 6, 2) := by decide +kernel
theorem dX4_either_17 : decode cX4_either 17 = .ok (.aload 6, 2) := by decide +kernel
theorem dX4_either_19 : decode cX4_either 19 = .ok (.getfield 137, 3) := by decide +kernel
theorem dX4_either_22 : decode cX4_either 22 = .ok (.lload_n 2, 1) := by decide +kernel
theorem dX4_either_23 : decode cX4_either 23 = .ok (.lcmp, 1) := by decide +kernel
theorem dX4_either_24 : decode cX4_either 24 = .ok (.ifCond .eq 24, 3) := by decide +kernel
theorem dX4_either_27 : decode cX4_either 27 = .ok (.aload 6, 2) := by decide +kernel
theorem dX4_either_29 : decode cX4_either 29 = .ok (.getfield 137, 3) := by decide +kernel
theorem dX4_either_32 : decode cX4_either 32 = .ok (.lload 4, 2) := by decide +kernel
theorem dX4_either_34 : decode cX4_either 34 = .ok (.lcmp, 1) := by decide +kernel
theorem dX4_either_35 : decode cX4_either 35 = .ok (.ifCond .eq 13, 3) := by decide +kernel
theorem dX4_either_38 : decode cX4_either 38 = .ok (.new 152, 3) := by decide +kernel
theorem dX4_either_41 : decode cX4_either 41 = .ok (.dup, 1) := by decide +kernel
theorem dX4_either_42 : decode cX4_either 42 = .ok (.ldc 154, 2) := by decide +kernel
theorem dX4_either_44 : decode cX4_either 44 = .ok (.invokespecial 156, 3) := by decide +kernel
theorem dX4_either_47 : decode cX4_either 47 = .ok (.athrow, 1) := by decide +kernel
theorem dX4_either_48 : decode cX4_either 48 = .ok (.aload 6, 2) := by decide +kernel
theorem dX4_either_50 : decode cX4_either 50 = .ok (.ldc2_w 159, 3) := by decide +kernel
theorem dX4_either_53 : decode cX4_either 53 = .ok (.lload_n 2, 1) := by decide +kernel
theorem dX4_either_54 : decode cX4_either 54 = .ok (.lload 4, 2) := by decide +kernel
theorem dX4_either_56 : decode cX4_either 56 = .ok (.invokestatic 42, 3) := by decide +kernel
theorem dX4_either_59 : decode cX4_either 59 = .ok (.invokestatic 42, 3) := by decide +kernel
theorem dX4_either_62 : decode cX4_either 62 = .ok (.putfield 137, 3) := by decide +kernel
theorem dX4_either_65 : decode cX4_either 65 = .ok (.aload 6, 2) := by decide +kernel
theorem dX4_either_67 : decode cX4_either 67 = .ok (.getfield 137, 3) := by decide +kernel
theorem dX4_either_70 : decode cX4_either 70 = .ok (.lreturn, 1) := by decide +kernel
theorem dX4_with_0 : decode cX4_with 0 = .ok (.iload_n 1, 1) := by decide +kernel
theorem dX4_with_1 : decode cX4_with 1 = .ok (.iconst 3, 1) := by decide +kernel
theorem dX4_with_2 : decode cX4_with 2 = .ok (.invokestatic 62, 3) := by decide +kernel
theorem dX4_with_5 : decode cX4_with 5 = .ok (.iload_n 2, 1) := by decide +kernel
theorem dX4_with_6 : decode cX4_with 6 = .ok (.iconst 4, 1) := by decide +kernel
theorem dX4_with_7 : decode cX4_with 7 = .ok (.invokestatic 62, 3) := by decide +kernel
theorem dX4_with_10 : decode cX4_with 10 = .ok (.aload_n 0, 1) := by decide +kernel
theorem dX4_with_11 : decode cX4_with 11 = .ok (.invokevirtual 66, 3) := by decide +kernel
theorem dX4_with_14 : decode cX4_with 14 = .ok (.aload_n 0, 1) := by decide +kernel
theorem dX4_with_15 : decode cX4_with 15 = .ok (.iload_n 2, 1) := by decide +kernel
theorem dX4_with_16 : decode cX4_with 16 = .ok (.invokevirtual 81, 3) := by decide +kernel
theorem dX4_with_19 : decode cX4_with 19 = .ok (.astore 4, 2) := by decide +kernel
theorem dX4_with_21 : decode cX4_with 21 = .ok (.aload_n 0, 1) := by decide +kernel
theorem dX4_with_22 : decode cX4_with 22 = .ok (.aload 4, 2) := by decide +kernel
theorem dX4_with_24 : decode cX4_with 24 = .ok (.iload_n 3, 1) := by decide +kernel
theorem dX4_with_25 : decode cX4_with 25 = .ok (.invokevirtual 120, 3) := by decide +kernel
theorem dX4_with_28 : decode cX4_with 28 = .ok (.aload_n 0, 1) := by decide +kernel
theorem dX4_with_29 : decode cX4_with 29 = .ok (.getfield 32, 3) := by decide +kernel
theorem dX4_with_32 : decode cX4_with 32 = .ok (.iload_n 1, 1) := by decide +kernel
theorem dX4_with_33 : decode cX4_with 33 = .ok (.aaload, 1) := by decide +kernel
theorem dX4_with_34 : decode cX4_with 34 = .ok (.astore 5, 2) := by decide +kernel
theorem dX4_with_36 : decode cX4_with 36 = .ok (.aload 5, 2) := by decide +kernel
theorem dX4_with_38 : decode cX4_with 38 = .ok (.aload 5, 2) := by decide +kernel
theorem dX4_with_40 : decode cX4_with 40 = .ok (.getfield 137, 3) := by decide +kernel
theorem dX4_with_43 : decode cX4_with 43 = .ok (.ldc2_w 161, 3) := by decide +kernel
theorem dX4_with_46 : decode cX4_with 46 = .ok (.invokestatic 42, 3) := by decide +kernel
theorem dX4_with_49 : decode cX4_with 49 = .ok (.aload 4, 2) := by decide +kernel
theorem dX4_with_51 : decode cX4_with 51 = .ok (.invokevirtual 163, 3) := by decide +kernel
theorem dX4_with_54 : decode cX4_with 54 = .ok (.invokestatic 42, 3) := by decide +kernel
theorem dX4_with_57 : decode cX4_with 57 = .ok (.putfield 137, 3) := by decide +kernel
theorem dX4_with_60 : decode cX4_with 60 = .ok (.aload 5, 2) := by decide +kernel
theorem dX4_with_62 : decode cX4_with 62 = .ok (.getfield 137, 3) := by decide +kernel
theorem dX4_with_65 : decode cX4_with 65 = .ok (.lreturn, 1) := by decide +kernel
theorem dX4_define_0 : decode cX4_define 0 = .ok (.iload_n 1, 1) := by decide +kernel
theorem dX4_define_1 : decode cX4_define 1 = .ok (.iconst 4, 1) := by decide +kernel
theorem dX4_define_2 : decode cX4_define 2 = .ok (.invokestatic 62, 3) := by decide +kernel
theorem dX4_define_5 : decode cX4_define 5 = .ok (.aload_n 0, 1) := by decide +kernel
theorem dX4_define_6 : decode cX4_define 6 = .ok (.invokevirtual 66, 3) := by decide +kernel
theorem dX4_define_9 : decode cX4_define 9 = .ok (.aload_n 0, 1) := by decide +kernel
theorem dX4_define_10 : decode cX4_define 10 = .ok (.getfield 38, 3) := by decide +kernel
theorem dX4_define_13 : decode cX4_define 13 = .ok (.iload_n 1, 1) := by decide +kernel
theorem dX4_define_14 : decode cX4_define 14 = .ok (.aaload, 1) := by decide +kernel
theorem dX4_define_15 : decode cX4_define 15 = .ok (.getfield 167, 3) := by decide +kernel
theorem dX4_define_18 : decode cX4_define 18 = .ok (.ifCond .eq 13, 3) := by decide +kernel
theorem dX4_define_21 : decode cX4_define 21 = .ok (.new 170, 3) := by decide +kernel
theorem dX4_define_24 : decode cX4_define 24 = .ok (.dup, 1) := by decide +kernel
theorem dX4_define_25 : decode cX4_define 25 = .ok (.ldc 172, 2) := by decide +kernel
theorem dX4_define_27 : decode cX4_define 27 = .ok (.invokespecial 174, 3) := by decide +kernel
theorem dX4_define_30 : decode cX4_define 30 = .ok (.athrow, 1) := by decide +kernel
theorem dX4_define_31 : decode cX4_define 31 = .ok (.aload_n 0, 1) := by decide +kernel
theorem dX4_define_32 : decode cX4_define 32 = .ok (.iconst 2, 1) := by decide +kernel
theorem dX4_define_33 : decode cX4_define 33 = .ok (.invokevirtual 175, 3) := by decide +kernel
theorem dX4_define_36 : decode cX4_define 36 = .ok (.aload_n 0, 1) := by decide +kernel
theorem dX4_define_37 : decode cX4_define 37 = .ok (.getfield 38, 3) := by decide +kernel
theorem dX4_define_40 : decode cX4_define 40 = .ok (.iload_n 1, 1) := by decide +kernel
theorem dX4_define_41 : decode cX4_define 41 = .ok (.aaload, 1) := by decide +kernel
theorem dX4_define_42 : decode cX4_define 42 = .ok (.iload_n 2, 1) := by decide +kernel
theorem dX4_define_43 : decode cX4_define 43 = .ok (.lload_n 3, 1) := by decide +kernel
theorem dX4_define_44 : decode cX4_define 44 = .ok (.invokevirtual 178, 3) := by decide +kernel
theorem dX4_define_47 : decode cX4_define 47 = .ok (.return_, 1) := by decide +kernel
theorem dX4_remove_0 : decode cX4_remove 0 = .ok (.iload_n 1, 1) := by decide +kernel
theorem dX4_remove_1 : decode cX4_remove 1 = .ok (.iconst 4, 1) := by decide +kernel
theorem dX4_remove_2 : decode cX4_remove 2 = .ok (.invokestatic 62, 3) := by decide +kernel
theorem dX4_remove_5 : decode cX4_remove 5 = .ok (.aload_n 0, 1) := by decide +kernel
theorem dX4_remove_6 : decode cX4_remove 6 = .ok (.invokevirtual 66, 3) := by decide +kernel
theorem dX4_remove_9 : decode cX4_remove 9 = .ok (.aload_n 0, 1) := by decide +kernel
theorem dX4_remove_10 : decode cX4_remove 10 = .ok (.iload_n 1, 1) := by decide +kernel
theorem dX4_remove_11 : decode cX4_remove 11 = .ok (.invokevirtual 182, 3) := by decide +kernel
theorem dX4_remove_14 : decode cX4_remove 14 = .ok (.astore_n 2, 1) := by decide +kernel
theorem dX4_remove_15 : decode cX4_remove 15 = .ok (.aload_n 0, 1) := by decide +kernel
theorem dX4_remove_16 : decode cX4_remove 16 = .ok (.iconst 2, 1) := by decide +kernel
theorem dX4_remove_17 : decode cX4_remove 17 = .ok (.invokevirtual 175, 3) := by decide +kernel
theorem dX4_remove_20 : decode cX4_remove 20 = .ok (.aload_n 2, 1) := by decide +kernel
theorem dX4_remove_21 : decode cX4_remove 21 = .ok (.iconst 0, 1) := by decide +kernel
theorem dX4_remove_22 : decode cX4_remove 22 = .ok (.putfield 167, 3) := by decide +kernel
theorem dX4_remove_25 : decode cX4_remove 25 = .ok (.return_, 1) := by decide +kernel
theorem dX4_write_0 : decode cX4_write 0 = .ok (.iload_n 1, 1) := by decide +kernel
theorem dX4_write_1 : decode cX4_write 1 = .ok (.iconst 4, 1) := by decide +kernel
theorem dX4_write_2 : decode cX4_write 2 = .ok (.invokestatic 62, 3) := by decide +kernel
theorem dX4_write_5 : decode cX4_write 5 = .ok (.iload_n 2, 1) := by decide +kernel
theorem dX4_write_6 : decode cX4_write 6 = .ok (.iconst 3, 1) := by decide +kernel
theorem dX4_write_7 : decode cX4_write 7 = .ok (.invokestatic 62, 3) := by decide +kernel
theorem dX4_write_10 : decode cX4_write 10 = .ok (.aload_n 0, 1) := by decide +kernel
theorem dX4_write_11 : decode cX4_write 11 = .ok (.invokevirtual 66, 3) := by decide +kernel
theorem dX4_write_14 : decode cX4_write 14 = .ok (.aload_n 0, 1) := by decide +kernel
theorem dX4_write_15 : decode cX4_write 15 = .ok (.iload_n 1, 1) := by decide +kernel
theorem dX4_write_16 : decode cX4_write 16 = .ok (.invokevirtual 182, 3) := by decide +kernel
theorem dX4_write_19 : decode cX4_write 19 = .ok (.astore 5, 2) := by decide +kernel
theorem dX4_write_21 : decode cX4_write 21 = .ok (.aload 5, 2) := by decide +kernel
theorem dX4_write_23 : decode cX4_write 23 = .ok (.getfield 186, 3) := by decide +kernel
theorem dX4_write_26 : decode cX4_write 26 = .ok (.lconst 0, 1) := by decide +kernel
theorem dX4_write_27 : decode cX4_write 27 = .ok (.lcmp, 1) := by decide +kernel
theorem dX4_write_28 : decode cX4_write 28 = .ok (.ifCond .eq 18, 3) := by decide +kernel
theorem dX4_write_31 : decode cX4_write 31 = .ok (.aload_n 0, 1) := by decide +kernel
theorem dX4_write_32 : decode cX4_write 32 = .ok (.aload 5, 2) := by decide +kernel
theorem dX4_write_34 : decode cX4_write 34 = .ok (.getfield 186, 3) := by decide +kernel
theorem dX4_write_37 : decode cX4_write 37 = .ok (.aload_n 0, 1) := by decide +kernel
theorem dX4_write_38 : decode cX4_write 38 = .ok (.getfield 32, 3) := by decide +kernel
theorem dX4_write_41 : decode cX4_write 41 = .ok (.iload_n 2, 1) := by decide +kernel
theorem dX4_write_42 : decode cX4_write 42 = .ok (.aaload, 1) := by decide +kernel
theorem dX4_write_43 : decode cX4_write 43 = .ok (.invokevirtual 130, 3) := by decide +kernel
theorem dX4_write_46 : decode cX4_write 46 = .ok (.aload_n 0, 1) := by decide +kernel
theorem dX4_write_47 : decode cX4_write 47 = .ok (.iconst 3, 1) := by decide +kernel
theorem dX4_write_48 : decode cX4_write 48 = .ok (.invokevirtual 175, 3) := by decide +kernel
theorem dX4_write_51 : decode cX4_write 51 = .ok (.aload 5, 2) := by decide +kernel
theorem dX4_write_53 : decode cX4_write 53 = .ok (.getfield 186, 3) := by decide +kernel
theorem dX4_write_56 : decode cX4_write 56 = .ok (.lconst 0, 1) := by decide +kernel
theorem dX4_write_57 : decode cX4_write 57 = .ok (.lcmp, 1) := by decide +kernel
theorem dX4_write_58 : decode cX4_write 58 = .ok (.ifCond .eq 12, 3) := by decide +kernel
theorem dX4_write_61 : decode cX4_write 61 = .ok (.aload_n 0, 1) := by decide +kernel
theorem dX4_write_62 : decode cX4_write 62 = .ok (.getfield 32, 3) := by decide +kernel
theorem dX4_write_65 : decode cX4_write 65 = .ok (.iload_n 2, 1) := by decide +kernel
theorem dX4_write_66 : decode cX4_write 66 = .ok (.aaload, 1) := by decide +kernel
theorem dX4_write_67 : decode cX4_write 67 = .ok (.invokevirtual 134, 3) := by decide +kernel
theorem dX4_write_70 : decode cX4_write 70 = .ok (.aload 5, 2) := by decide +kernel
theorem dX4_write_72 : decode cX4_write 72 = .ok (.aload 5, 2) := by decide +kernel
theorem dX4_write_74 : decode cX4_write 74 = .ok (.getfield 187, 3) := by decide +kernel
theorem dX4_write_77 : decode cX4_write 77 = .ok (.ifCond .eq 10, 3) := by decide +kernel
theorem dX4_write_80 : decode cX4_write 80 = .ok (.aload_n 0, 1) := by decide +kernel
theorem dX4_write_81 : decode cX4_write 81 = .ok (.invokevirtual 190, 3) := by decide +kernel
theorem dX4_write_84 : decode cX4_write 84 = .ok (.goto 4, 3) := by decide +kernel
theorem dX4_write_87 : decode cX4_write 87 = .ok (.lload_n 3, 1) := by decide +kernel
theorem dX4_write_88 : decode cX4_write 88 = .ok (.putfield 193, 3) := by decide +kernel
theorem dX4_write_91 : decode cX4_write 91 = .ok (.aload 5, 2) := by decide +kernel
theorem dX4_write_93 : decode cX4_write 93 = .ok (.iconst 1, 1) := by decide +kernel
theorem dX4_write_94 : decode cX4_write 94 = .ok (.putfield 194, 3) := by decide +kernel
theorem dX4_write_97 : decode cX4_write 97 = .ok (.aload 5, 2) := by decide +kernel
theorem dX4_write_99 : decode cX4_write 99 = .ok (.getfield 193, 3) := by decide +kernel
theorem dX4_write_102 : decode cX4_write 102 = .ok (.lreturn, 1) := by decide +kernel
theorem dX4_read_0 : decode cX4_read 0 = .ok (.iload_n 1, 1) := by decide +kernel
theorem dX4_read_1 : decode cX4_read 1 = .ok (.iconst 4, 1) := by decide +kernel
theorem dX4_read_2 : decode cX4_read 2 = .ok (.invokestatic 62, 3) := by decide +kernel
theorem dX4_read_5 : decode cX4_read 5 = .ok (.aload_n 0, 1) := by decide +kernel
theorem dX4_read_6 : decode cX4_read 6 = .ok (.invokevirtual 66, 3) := by decide +kernel
theorem dX4_read_9 : decode cX4_read 9 = .ok (.aload_n 0, 1) := by decide +kernel
theorem dX4_read_10 : decode cX4_read 10 = .ok (.iload_n 1, 1) := by decide +kernel
theorem dX4_read_11 : decode cX4_read 11 = .ok (.invokevirtual 182, 3) := by decide +kernel
theorem dX4_read_14 : decode cX4_read 14 = .ok (.astore_n 2, 1) := by decide +kernel
theorem dX4_read_15 : decode cX4_read 15 = .ok (.aload_n 2, 1) := by decide +kernel
theorem dX4_read_16 : decode cX4_read 16 = .ok (.getfield 194, 3) := by decide +kernel
theorem dX4_read_19 : decode cX4_read 19 = .ok (.ifCond .ne 13, 3) := by decide +kernel
theorem dX4_read_22 : decode cX4_read 22 = .ok (.new 197, 3) := by decide +kernel
theorem dX4_read_25 : decode cX4_read 25 = .ok (.dup, 1) := by decide +kernel
theorem dX4_read_26 : decode cX4_read 26 = .ok (.ldc 199, 2) := by decide +kernel
theorem dX4_read_28 : decode cX4_read 28 = .ok (.invokespecial 201, 3) := by decide +kernel
theorem dX4_read_31 : decode cX4_read 31 = .ok (.athrow, 1) := by decide +kernel
theorem dX4_read_32 : decode cX4_read 32 = .ok (.aload_n 2, 1) := by decide +kernel
theorem dX4_read_33 : decode cX4_read 33 = .ok (.getfield 193, 3) := by decide +kernel
theorem dX4_read_36 : decode cX4_read 36 = .ok (.lreturn, 1) := by decide +kernel
theorem dX4_clock_0 : decode cX4_clock 0 = .ok (.iload_n 1, 1) := by decide +kernel
theorem dX4_clock_1 : decode cX4_clock 1 = .ok (.iconst 0, 1) := by decide +kernel
theorem dX4_clock_2 : decode cX4_clock 2 = .ok (.bipush 100, 2) := by decide +kernel
theorem dX4_clock_4 : decode cX4_clock 4 = .ok (.invokestatic 58, 3) := by decide +kernel
theorem dX4_clock_7 : decode cX4_clock 7 = .ok (.iload_n 2, 1) := by decide +kernel
theorem dX4_clock_8 : decode cX4_clock 8 = .ok (.iconst 0, 1) := by decide +kernel
theorem dX4_clock_9 : decode cX4_clock 9 = .ok (.iconst 2, 1) := by decide +kernel
theorem dX4_clock_10 : decode cX4_clock 10 = .ok (.invokestatic 58, 3) := by decide +kernel
theorem dX4_clock_13 : decode cX4_clock 13 = .ok (.aload_n 0, 1) := by decide +kernel
theorem dX4_clock_14 : decode cX4_clock 14 = .ok (.invokevirtual 66, 3) := by decide +kernel
theorem dX4_clock_17 : decode cX4_clock 17 = .ok (.aload_n 0, 1) := by decide +kernel
theorem dX4_clock_18 : decode cX4_clock 18 = .ok (.aload_n 0, 1) := by decide +kernel
theorem dX4_clock_19 : decode cX4_clock 19 = .ok (.getfield 202, 3) := by decide +kernel
theorem dX4_clock_22 : decode cX4_clock 22 = .ok (.iload_n 1, 1) := by decide +kernel
theorem dX4_clock_23 : decode cX4_clock 23 = .ok (.i2d, 1) := by decide +kernel
theorem dX4_clock_24 : decode cX4_clock 24 = .ok (.aload_n 0, 1) := by decide +kernel
theorem dX4_clock_25 : decode cX4_clock 25 = .ok (.getfield 50, 3) := by decide +kernel
theorem dX4_clock_28 : decode cX4_clock 28 = .ok (.dmul, 1) := by decide +kernel
theorem dX4_clock_29 : decode cX4_clock 29 = .ok (.dadd, 1) := by decide +kernel
theorem dX4_clock_30 : decode cX4_clock 30 = .ok (.putfield 202, 3) := by decide +kernel
theorem dX4_clock_33 : decode cX4_clock 33 = .ok (.aload_n 0, 1) := by decide +kernel
theorem dX4_clock_34 : decode cX4_clock 34 = .ok (.invokevirtual 205, 3) := by decide +kernel
theorem dX4_clock_37 : decode cX4_clock 37 = .ok (.iload_n 2, 1) := by decide +kernel
theorem dX4_clock_38 : decode cX4_clock 38 = .ok (.iconst 1, 1) := by decide +kernel
theorem dX4_clock_39 : decode cX4_clock 39 = .ok (.if_icmp .ne 18, 3) := by decide +kernel
theorem dX4_clock_42 : decode cX4_clock 42 = .ok (.aload_n 0, 1) := by decide +kernel
theorem dX4_clock_43 : decode cX4_clock 43 = .ok (.aload_n 0, 1) := by decide +kernel
theorem dX4_clock_44 : decode cX4_clock 44 = .ok (.getfield 50, 3) := by decide +kernel
theorem dX4_clock_47 : decode cX4_clock 47 = .ok (.ldc2_w 208, 3) := by decide +kernel
theorem dX4_clock_50 : decode cX4_clock 50 = .ok (.dmul, 1) := by decide +kernel
theorem dX4_clock_51 : decode cX4_clock 51 = .ok (.invokevirtual 210, 3) := by decide +kernel
theorem dX4_clock_54 : decode cX4_clock 54 = .ok (.goto 20, 3) := by decide +kernel
theorem dX4_clock_57 : decode cX4_clock 57 = .ok (.iload_n 2, 1) := by decide +kernel
theorem dX4_clock_58 : decode cX4_clock 58 = .ok (.iconst 2, 1) := by decide +kernel
theorem dX4_clock_59 : decode cX4_clock 59 = .ok (.if_icmp .ne 15, 3) := by decide +kernel
theorem dX4_clock_62 : decode cX4_clock 62 = .ok (.aload_n 0, 1) := by decide +kernel
theorem dX4_clock_63 : decode cX4_clock 63 = .ok (.aload_n 0, 1) := by decide +kernel
theorem dX4_clock_64 : decode cX4_clock 64 = .ok (.getfield 50, 3) := by decide +kernel
theorem dX4_clock_67 : decode cX4_clock 67 = .ok (.ldc2_w 214, 3) := by decide +kernel
theorem dX4_clock_70 : decode cX4_clock 70 = .ok (.dmul, 1) := by decide +kernel
theorem dX4_clock_71 : decode cX4_clock 71 = .ok (.invokevirtual 210, 3) := by decide +kernel
theorem dX4_clock_74 : decode cX4_clock 74 = .ok (.aload_n 0, 1) := by decide +kernel
theorem dX4_clock_75 : decode cX4_clock 75 = .ok (.getfield 202, 3) := by decide +kernel
theorem dX4_clock_78 : decode cX4_clock 78 = .ok (.dreturn, 1) := by decide +kernel
theorem dX4_clear_0 : decode cX4_clear 0 = .ok (.aload_n 0, 1) := by decide +kernel
theorem dX4_clear_1 : decode cX4_clear 1 = .ok (.invokevirtual 66, 3) := by decide +kernel
theorem dX4_clear_4 : decode cX4_clear 4 = .ok (.aload_n 0, 1) := by decide +kernel
theorem dX4_clear_5 : decode cX4_clear 5 = .ok (.getfield 9, 3) := by decide +kernel
theorem dX4_clear_8 : decode cX4_clear 8 = .ok (.iconst 0, 1) := by decide +kernel
theorem dX4_clear_9 : decode cX4_clear 9 = .ok (.aload_n 0, 1) := by decide +kernel
theorem dX4_clear_10 : decode cX4_clear 10 = .ok (.getfield 9, 3) := by decide +kernel
theorem dX4_clear_13 : decode cX4_clear 13 = .ok (.iconst 0, 1) := by decide +kernel
theorem dX4_clear_14 : decode cX4_clear 14 = .ok (.laload, 1) := by decide +kernel
theorem dX4_clear_15 : decode cX4_clear 15 = .ok (.ldc2_w 216, 3) := by decide +kernel
theorem dX4_clear_18 : decode cX4_clear 18 = .ok (.invokestatic 42, 3) := by decide +kernel
theorem dX4_clear_21 : decode cX4_clear 21 = .ok (.lastore, 1) := by decide +kernel
theorem dX4_clear_22 : decode cX4_clear 22 = .ok (.aload_n 0, 1) := by decide +kernel
theorem dX4_clear_23 : decode cX4_clear 23 = .ok (.invokevirtual 218, 3) := by decide +kernel
theorem dX4_clear_26 : decode cX4_clear 26 = .ok (.iconst 0, 1) := by decide +kernel
theorem dX4_clear_27 : decode cX4_clear 27 = .ok (.istore_n 1, 1) := by decide +kernel
theorem dX4_clear_28 : decode cX4_clear 28 = .ok (.iload_n 1, 1) := by decide +kernel
theorem dX4_clear_29 : decode cX4_clear 29 = .ok (.iconst 4, 1) := by decide +kernel
theorem dX4_clear_30 : decode cX4_clear 30 = .ok (.if_icmp .ge 19, 3) := by decide +kernel
theorem dX4_clear_33 : decode cX4_clear 33 = .ok (.aload_n 0, 1) := by decide +kernel
theorem dX4_clear_34 : decode cX4_clear 34 = .ok (.getfield 38, 3) := by decide +kernel
theorem dX4_clear_37 : decode cX4_clear 37 = .ok (.iload_n 1, 1) := by decide +kernel
theorem dX4_clear_38 : decode cX4_clear 38 = .ok (.aaload, 1) := by decide +kernel
theorem dX4_clear_39 : decode cX4_clear 39 = .ok (.iconst 0, 1) := by decide +kernel
theorem dX4_clear_40 : decode cX4_clear 40 = .ok (.putfield 167, 3) := by decide +kernel
theorem dX4_clear_43 : decode cX4_clear 43 = .ok (.iinc 1 1, 3) := by decide +kernel
theorem dX4_clear_46 : decode cX4_clear 46 = .ok (.goto (-18), 3) := by decide +kernel
theorem dX4_clear_49 : decode cX4_clear 49 = .ok (.aload_n 0, 1) := by decide +kernel
theorem dX4_clear_50 : decode cX4_clear 50 = .ok (.iconst 0, 1) := by decide +kernel
theorem dX4_clear_51 : decode cX4_clear 51 = .ok (.putfield 221, 3) := by decide +kernel
theorem dX4_clear_54 : decode cX4_clear 54 = .ok (.return_, 1) := by decide +kernel
theorem dX4_told_0 : decode cX4_told 0 = .ok (.iload_n 1, 1) := by decide +kernel
theorem dX4_told_1 : decode cX4_told 1 = .ok (.getstatic 224, 3) := by decide +kernel
theorem dX4_told_4 : decode cX4_told 4 = .ok (.arraylength, 1) := by decide +kernel
theorem dX4_told_5 : decode cX4_told 5 = .ok (.invokestatic 62, 3) := by decide +kernel
theorem dX4_told_8 : decode cX4_told 8 = .ok (.iload_n 2, 1) := by decide +kernel
theorem dX4_told_9 : decode cX4_told 9 = .ok (.getstatic 224, 3) := by decide +kernel
theorem dX4_told_12 : decode cX4_told 12 = .ok (.iload_n 1, 1) := by decide +kernel
theorem dX4_told_13 : decode cX4_told 13 = .ok (.iaload, 1) := by decide +kernel
theorem dX4_told_14 : decode cX4_told 14 = .ok (.invokestatic 62, 3) := by decide +kernel
theorem dX4_told_17 : decode cX4_told 17 = .ok (.iload_n 1, 1) := by decide +kernel
theorem dX4_told_18 : decode cX4_told 18 = .ok (.tableswitch 60 2 4 #[26, 35, 50], 26) := by decide +kernel
theorem dX4_told_44 : decode cX4_told 44 = .ok (.aload_n 0, 1) := by decide +kernel
theorem dX4_told_45 : decode cX4_told 45 = .ok (.iload_n 2, 1) := by decide +kernel
theorem dX4_told_46 : decode cX4_told 46 = .ok (.invokevirtual 81, 3) := by decide +kernel
theorem dX4_told_49 : decode cX4_told 49 = .ok (.invokevirtual 163, 3) := by decide +kernel
theorem dX4_told_52 : decode cX4_told 52 = .ok (.lreturn, 1) := by decide +kernel
theorem dX4_told_53 : decode cX4_told 53 = .ok (.aload_n 0, 1) := by decide +kernel
theorem dX4_told_54 : decode cX4_told 54 = .ok (.iload_n 2, 1) := by decide +kernel
theorem dX4_told_55 : decode cX4_told 55 = .ok (.iconst 4, 1) := by decide +kernel
theorem dX4_told_56 : decode cX4_told 56 = .ok (.idiv, 1) := by decide +kernel
theorem dX4_told_57 : decode cX4_told 57 = .ok (.invokevirtual 97, 3) := by decide +kernel
theorem dX4_told_60 : decode cX4_told 60 = .ok (.getfield 109, 3) := by decide +kernel
theorem dX4_told_63 : decode cX4_told 63 = .ok (.iload_n 2, 1) := by decide +kernel
theorem dX4_told_64 : decode cX4_told 64 = .ok (.iconst 4, 1) := by decide +kernel
theorem dX4_told_65 : decode cX4_told 65 = .ok (.irem, 1) := by decide +kernel
theorem dX4_told_66 : decode cX4_told 66 = .ok (.laload, 1) := by decide +kernel
theorem dX4_told_67 : decode cX4_told 67 = .ok (.lreturn, 1) := by decide +kernel
theorem dX4_told_68 : decode cX4_told 68 = .ok (.aload_n 0, 1) := by decide +kernel
theorem dX4_told_69 : decode cX4_told 69 = .ok (.getfield 32, 3) := by decide +kernel
theorem dX4_told_72 : decode cX4_told 72 = .ok (.iload_n 2, 1) := by decide +kernel
theorem dX4_told_73 : decode cX4_told 73 = .ok (.aaload, 1) := by decide +kernel
theorem dX4_told_74 : decode cX4_told 74 = .ok (.getfield 137, 3) := by decide +kernel
theorem dX4_told_77 : decode cX4_told 77 = .ok (.lreturn, 1) := by decide +kernel
theorem dX4_told_78 : decode cX4_told 78 = .ok (.aload_n 0, 1) := by decide +kernel
theorem dX4_told_79 : decode cX4_told 79 = .ok (.getfield 15, 3) := by decide +kernel
theorem dX4_told_82 : decode cX4_told 82 = .ok (.iload_n 1, 1) := by decide +kernel
theorem dX4_told_83 : decode cX4_told 83 = .ok (.aaload, 1) := by decide +kernel
theorem dX4_told_84 : decode cX4_told 84 = .ok (.iload_n 2, 1) := by decide +kernel
theorem dX4_told_85 : decode cX4_told 85 = .ok (.laload, 1) := by decide +kernel
theorem dX4_told_86 : decode cX4_told 86 = .ok (.lreturn, 1) := by decide +kernel
theorem dX4_count_0 : decode cX4_count 0 = .ok (.iload_n 1, 1) := by decide +kernel
theorem dX4_count_1 : decode cX4_count 1 = .ok (.tableswitch 95 0 7 #[47, 52, 57, 62, 67, 80, 85, 90], 47) := by decide +kernel
theorem dX4_count_48 : decode cX4_count 48 = .ok (.aload_n 0, 1) := by decide +kernel
theorem dX4_count_49 : decode cX4_count 49 = .ok (.invokevirtual 228, 3) := by decide +kernel
theorem dX4_count_52 : decode cX4_count 52 = .ok (.ireturn, 1) := by decide +kernel
theorem dX4_count_53 : decode cX4_count 53 = .ok (.aload_n 0, 1) := by decide +kernel
theorem dX4_count_54 : decode cX4_count 54 = .ok (.getfield 221, 3) := by decide +kernel
theorem dX4_count_57 : decode cX4_count 57 = .ok (.ireturn, 1) := by decide +kernel
theorem dX4_count_58 : decode cX4_count 58 = .ok (.aload_n 0, 1) := by decide +kernel
theorem dX4_count_59 : decode cX4_count 59 = .ok (.getfield 69, 3) := by decide +kernel
theorem dX4_count_62 : decode cX4_count 62 = .ok (.ireturn, 1) := by decide +kernel
theorem dX4_count_63 : decode cX4_count 63 = .ok (.aload_n 0, 1) := by decide +kernel
theorem dX4_count_64 : decode cX4_count 64 = .ok (.getfield 231, 3) := by decide +kernel
theorem dX4_count_67 : decode cX4_count 67 = .ok (.ireturn, 1) := by decide +kernel
theorem dX4_count_68 : decode cX4_count 68 = .ok (.aload_n 0, 1) := by decide +kernel
theorem dX4_count_69 : decode cX4_count 69 = .ok (.getfield 234, 3) := by decide +kernel
theorem dX4_count_72 : decode cX4_count 72 = .ok (.ifCond .eq 7, 3) := by decide +kernel
theorem dX4_count_75 : decode cX4_count 75 = .ok (.iconst 1, 1) := by decide +kernel
theorem dX4_count_76 : decode cX4_count 76 = .ok (.goto 4, 3) := by decide +kernel
theorem dX4_count_79 : decode cX4_count 79 = .ok (.iconst 0, 1) := by decide +kernel
theorem dX4_count_80 : decode cX4_count 80 = .ok (.ireturn, 1) := by decide +kernel
theorem dX4_count_81 : decode cX4_count 81 = .ok (.aload_n 0, 1) := by decide +kernel
theorem dX4_count_82 : decode cX4_count 82 = .ok (.invokevirtual 237, 3) := by decide +kernel
theorem dX4_count_85 : decode cX4_count 85 = .ok (.ireturn, 1) := by decide +kernel
theorem dX4_count_86 : decode cX4_count 86 = .ok (.aload_n 0, 1) := by decide +kernel
theorem dX4_count_87 : decode cX4_count 87 = .ok (.invokevirtual 240, 3) := by decide +kernel
theorem dX4_count_90 : decode cX4_count 90 = .ok (.ireturn, 1) := by decide +kernel
theorem dX4_count_91 : decode cX4_count 91 = .ok (.aload_n 0, 1) := by decide +kernel
theorem dX4_count_92 : decode cX4_count 92 = .ok (.getfield 243, 3) := by decide +kernel
theorem dX4_count_95 : decode cX4_count 95 = .ok (.ireturn, 1) := by decide +kernel
theorem dX4_count_96 : decode cX4_count 96 = .ok (.iconst (-1), 1) := by decide +kernel
theorem dX4_count_97 : decode cX4_count 97 = .ok (.ireturn, 1) := by decide +kernel
theorem dX4_rate_0 : decode cX4_rate 0 = .ok (.aload_n 0, 1) := by decide +kernel
theorem dX4_rate_1 : decode cX4_rate 1 = .ok (.getfield 50, 3) := by decide +kernel
theorem dX4_rate_4 : decode cX4_rate 4 = .ok (.dreturn, 1) := by decide +kernel
theorem dX4_hash_0 : decode cX4_hash 0 = .ok (.lload_n 0, 1) := by decide +kernel
theorem dX4_hash_1 : decode cX4_hash 1 = .ok (.ldc2_w 246, 3) := by decide +kernel
theorem dX4_hash_4 : decode cX4_hash 4 = .ok (.lmul, 1) := by decide +kernel
theorem dX4_hash_5 : decode cX4_hash 5 = .ok (.lload_n 2, 1) := by decide +kernel
theorem dX4_hash_6 : decode cX4_hash 6 = .ok (.ladd, 1) := by decide +kernel
theorem dX4_hash_7 : decode cX4_hash 7 = .ok (.ldc2_w 248, 3) := by decide +kernel
theorem dX4_hash_10 : decode cX4_hash 10 = .ok (.lmul, 1) := by decide +kernel
theorem dX4_hash_11 : decode cX4_hash 11 = .ok (.lstore 4, 2) := by decide +kernel
theorem dX4_hash_13 : decode cX4_hash 13 = .ok (.lload 4, 2) := by decide +kernel
theorem dX4_hash_15 : decode cX4_hash 15 = .ok (.lload 4, 2) := by decide +kernel
theorem dX4_hash_17 : decode cX4_hash 17 = .ok (.bipush 29, 2) := by decide +kernel
theorem dX4_hash_19 : decode cX4_hash 19 = .ok (.lushr, 1) := by decide +kernel
theorem dX4_hash_20 : decode cX4_hash 20 = .ok (.lxor, 1) := by decide +kernel
theorem dX4_hash_21 : decode cX4_hash 21 = .ok (.ldc2_w 250, 3) := by decide +kernel
theorem dX4_hash_24 : decode cX4_hash 24 = .ok (.lmul, 1) := by decide +kernel
theorem dX4_hash_25 : decode cX4_hash 25 = .ok (.lstore 4, 2) := by decide +kernel
theorem dX4_hash_27 : decode cX4_hash 27 = .ok (.lload 4, 2) := by decide +kernel
theorem dX4_hash_29 : decode cX4_hash 29 = .ok (.lload 4, 2) := by decide +kernel
theorem dX4_hash_31 : decode cX4_hash 31 = .ok (.bipush 32, 2) := by decide +kernel
theorem dX4_hash_33 : decode cX4_hash 33 = .ok (.lushr, 1) := by decide +kernel
theorem dX4_hash_34 : decode cX4_hash 34 = .ok (.lxor, 1) := by decide +kernel
theorem dX4_hash_35 : decode cX4_hash 35 = .ok (.lreturn, 1) := by decide +kernel
theorem dX4_refuseOutside_0 : decode cX4_refuseOutside 0 = .ok (.iload_n 0, 1) := by decide +kernel
theorem dX4_refuseOutside_1 : decode cX4_refuseOutside 1 = .ok (.iload_n 1, 1) := by decide +kernel
theorem dX4_refuseOutside_2 : decode cX4_refuseOutside 2 = .ok (.if_icmp .lt 8, 3) := by decide +kernel
theorem dX4_refuseOutside_5 : decode cX4_refuseOutside 5 = .ok (.iload_n 0, 1) := by decide +kernel
theorem dX4_refuseOutside_6 : decode cX4_refuseOutside 6 = .ok (.iload_n 2, 1) := by decide +kernel
theorem dX4_refuseOutside_7 : decode cX4_refuseOutside 7 = .ok (.if_icmp .le 13, 3) := by decide +kernel
theorem dX4_refuseOutside_10 : decode cX4_refuseOutside 10 = .ok (.new 252, 3) := by decide +kernel
theorem dX4_refuseOutside_13 : decode cX4_refuseOutside 13 = .ok (.dup, 1) := by decide +kernel
theorem dX4_refuseOutside_14 : decode cX4_refuseOutside 14 = .ok (.ldc 254, 2) := by decide +kernel
theorem dX4_refuseOutside_16 : decode cX4_refuseOutside 16 = .ok (.invokespecial 256, 3) := by decide +kernel
theorem dX4_refuseOutside_19 : decode cX4_refuseOutside 19 = .ok (.athrow, 1) := by decide +kernel
theorem dX4_refuseOutside_20 : decode cX4_refuseOutside 20 = .ok (.return_, 1) := by decide +kernel
theorem dX4_refuseUnlessBelow_0 : decode cX4_refuseUnlessBelow 0 = .ok (.iload_n 0, 1) := by decide +kernel
theorem dX4_refuseUnlessBelow_1 : decode cX4_refuseUnlessBelow 1 = .ok (.iconst 0, 1) := by decide +kernel
theorem dX4_refuseUnlessBelow_2 : decode cX4_refuseUnlessBelow 2 = .ok (.iload_n 1, 1) := by decide +kernel
theorem dX4_refuseUnlessBelow_3 : decode cX4_refuseUnlessBelow 3 = .ok (.iconst 1, 1) := by decide +kernel
theorem dX4_refuseUnlessBelow_4 : decode cX4_refuseUnlessBelow 4 = .ok (.isub, 1) := by decide +kernel
theorem dX4_refuseUnlessBelow_5 : decode cX4_refuseUnlessBelow 5 = .ok (.invokestatic 58, 3) := by decide +kernel
theorem dX4_refuseUnlessBelow_8 : decode cX4_refuseUnlessBelow 8 = .ok (.return_, 1) := by decide +kernel
theorem dX4_refuseWhenLost_0 : decode cX4_refuseWhenLost 0 = .ok (.aload_n 0, 1) := by decide +kernel
theorem dX4_refuseWhenLost_1 : decode cX4_refuseWhenLost 1 = .ok (.getfield 234, 3) := by decide +kernel
theorem dX4_refuseWhenLost_4 : decode cX4_refuseWhenLost 4 = .ok (.ifCond .eq 14, 3) := by decide +kernel
theorem dX4_refuseWhenLost_7 : decode cX4_refuseWhenLost 7 = .ok (.new 170, 3) := by decide +kernel
theorem dX4_refuseWhenLost_10 : decode cX4_refuseWhenLost 10 = .ok (.dup, 1) := by decide +kernel
theorem dX4_refuseWhenLost_11 : decode cX4_refuseWhenLost 11 = .ok (.ldc_w 257, 3) := by decide +kernel
theorem dX4_refuseWhenLost_14 : decode cX4_refuseWhenLost 14 = .ok (.invokespecial 174, 3) := by decide +kernel
theorem dX4_refuseWhenLost_17 : decode cX4_refuseWhenLost 17 = .ok (.athrow, 1) := by decide +kernel
theorem dX4_refuseWhenLost_18 : decode cX4_refuseWhenLost 18 = .ok (.return_, 1) := by decide +kernel
theorem dX4_refuseUnlessParent_0 : decode cX4_refuseUnlessParent 0 = .ok (.aload_n 0, 1) := by decide +kernel
theorem dX4_refuseUnlessParent_1 : decode cX4_refuseUnlessParent 1 = .ok (.getfield 259, 3) := by decide +kernel
theorem dX4_refuseUnlessParent_4 : decode cX4_refuseUnlessParent 4 = .ok (.ifCond .ne 14, 3) := by decide +kernel
theorem dX4_refuseUnlessParent_7 : decode cX4_refuseUnlessParent 7 = .ok (.new 152, 3) := by decide +kernel
theorem dX4_refuseUnlessParent_10 : decode cX4_refuseUnlessParent 10 = .ok (.dup, 1) := by decide +kernel
theorem dX4_refuseUnlessParent_11 : decode cX4_refuseUnlessParent 11 = .ok (.ldc_w 262, 3) := by decide +kernel
theorem dX4_refuseUnlessParent_14 : decode cX4_refuseUnlessParent 14 = .ok (.invokespecial 156, 3) := by decide +kernel
theorem dX4_refuseUnlessParent_17 : decode cX4_refuseUnlessParent 17 = .ok (.athrow, 1) := by decide +kernel
theorem dX4_refuseUnlessParent_18 : decode cX4_refuseUnlessParent 18 = .ok (.return_, 1) := by decide +kernel
theorem dX4_refuseTampered_0 : decode cX4_refuseTampered 0 = .ok (.aload_n 0, 1) := by decide +kernel
theorem dX4_refuseTampered_1 : decode cX4_refuseTampered 1 = .ok (.getfield 109, 3) := by decide +kernel
theorem dX4_refuseTampered_4 : decode cX4_refuseTampered 4 = .ok (.iconst 3, 1) := by decide +kernel
theorem dX4_refuseTampered_5 : decode cX4_refuseTampered 5 = .ok (.laload, 1) := by decide +kernel
theorem dX4_refuseTampered_6 : decode cX4_refuseTampered 6 = .ok (.aload_n 0, 1) := by decide +kernel
theorem dX4_refuseTampered_7 : decode cX4_refuseTampered 7 = .ok (.lload_n 1, 1) := by decide +kernel
theorem dX4_refuseTampered_8 : decode cX4_refuseTampered 8 = .ok (.invokevirtual 264, 3) := by decide +kernel
theorem dX4_refuseTampered_11 : decode cX4_refuseTampered 11 = .ok (.lcmp, 1) := by decide +kernel
theorem dX4_refuseTampered_12 : decode cX4_refuseTampered 12 = .ok (.ifCond .eq 14, 3) := by decide +kernel
theorem dX4_refuseTampered_15 : decode cX4_refuseTampered 15 = .ok (.new 267, 3) := by decide +kernel
theorem dX4_refuseTampered_18 : decode cX4_refuseTampered 18 = .ok (.dup, 1) := by decide +kernel
theorem dX4_refuseTampered_19 : decode cX4_refuseTampered 19 = .ok (.ldc_w 269, 3) := by decide +kernel
theorem dX4_refuseTampered_22 : decode cX4_refuseTampered 22 = .ok (.invokespecial 271, 3) := by decide +kernel
theorem dX4_refuseTampered_25 : decode cX4_refuseTampered 25 = .ok (.athrow, 1) := by decide +kernel
theorem dX4_refuseTampered_26 : decode cX4_refuseTampered 26 = .ok (.return_, 1) := by decide +kernel
theorem dX4_heldKey_0 : decode cX4_heldKey 0 = .ok (.aload_n 0, 1) := by decide +kernel
theorem dX4_heldKey_1 : decode cX4_heldKey 1 = .ok (.getfield 20, 3) := by decide +kernel
theorem dX4_heldKey_4 : decode cX4_heldKey 4 = .ok (.iload_n 1, 1) := by decide +kernel
theorem dX4_heldKey_5 : decode cX4_heldKey 5 = .ok (.aaload, 1) := by decide +kernel
theorem dX4_heldKey_6 : decode cX4_heldKey 6 = .ok (.getfield 116, 3) := by decide +kernel
theorem dX4_heldKey_9 : decode cX4_heldKey 9 = .ok (.ifCond .ne 14, 3) := by decide +kernel
theorem dX4_heldKey_12 : decode cX4_heldKey 12 = .ok (.new 197, 3) := by decide +kernel
theorem dX4_heldKey_15 : decode cX4_heldKey 15 = .ok (.dup, 1) := by decide +kernel
theorem dX4_heldKey_16 : decode cX4_heldKey 16 = .ok (.ldc_w 272, 3) := by decide +kernel
theorem dX4_heldKey_19 : decode cX4_heldKey 19 = .ok (.invokespecial 201, 3) := by decide +kernel
theorem dX4_heldKey_22 : decode cX4_heldKey 22 = .ok (.athrow, 1) := by decide +kernel
theorem dX4_heldKey_23 : decode cX4_heldKey 23 = .ok (.aload_n 0, 1) := by decide +kernel
theorem dX4_heldKey_24 : decode cX4_heldKey 24 = .ok (.getfield 20, 3) := by decide +kernel
theorem dX4_heldKey_27 : decode cX4_heldKey 27 = .ok (.iload_n 1, 1) := by decide +kernel
theorem dX4_heldKey_28 : decode cX4_heldKey 28 = .ok (.aaload, 1) := by decide +kernel
theorem dX4_heldKey_29 : decode cX4_heldKey 29 = .ok (.areturn, 1) := by decide +kernel
theorem dX4_madeBlob_0 : decode cX4_madeBlob 0 = .ok (.aload_n 0, 1) := by decide +kernel
theorem dX4_madeBlob_1 : decode cX4_madeBlob 1 = .ok (.getfield 26, 3) := by decide +kernel
theorem dX4_madeBlob_4 : decode cX4_madeBlob 4 = .ok (.iload_n 1, 1) := by decide +kernel
theorem dX4_madeBlob_5 : decode cX4_madeBlob 5 = .ok (.aaload, 1) := by decide +kernel
theorem dX4_madeBlob_6 : decode cX4_madeBlob 6 = .ok (.getfield 274, 3) := by decide +kernel
theorem dX4_madeBlob_9 : decode cX4_madeBlob 9 = .ok (.ifCond .ne 14, 3) := by decide +kernel
theorem dX4_madeBlob_12 : decode cX4_madeBlob 12 = .ok (.new 197, 3) := by decide +kernel
theorem dX4_madeBlob_15 : decode cX4_madeBlob 15 = .ok (.dup, 1) := by decide +kernel
theorem dX4_madeBlob_16 : decode cX4_madeBlob 16 = .ok (.ldc_w 277, 3) := by decide +kernel
theorem dX4_madeBlob_19 : decode cX4_madeBlob 19 = .ok (.invokespecial 201, 3) := by decide +kernel
theorem dX4_madeBlob_22 : decode cX4_madeBlob 22 = .ok (.athrow, 1) := by decide +kernel
theorem dX4_madeBlob_23 : decode cX4_madeBlob 23 = .ok (.aload_n 0, 1) := by decide +kernel
theorem dX4_madeBlob_24 : decode cX4_madeBlob 24 = .ok (.getfield 26, 3) := by decide +kernel
theorem dX4_madeBlob_27 : decode cX4_madeBlob 27 = .ok (.iload_n 1, 1) := by decide +kernel
theorem dX4_madeBlob_28 : decode cX4_madeBlob 28 = .ok (.aaload, 1) := by decide +kernel
theorem dX4_madeBlob_29 : decode cX4_madeBlob 29 = .ok (.areturn, 1) := by decide +kernel
theorem dX4_definedIndex_0 : decode cX4_definedIndex 0 = .ok (.aload_n 0, 1) := by decide +kernel
theorem dX4_definedIndex_1 : decode cX4_definedIndex 1 = .ok (.getfield 38, 3) := by decide +kernel
theorem dX4_definedIndex_4 : decode cX4_definedIndex 4 = .ok (.iload_n 1, 1) := by decide +kernel
theorem dX4_definedIndex_5 : decode cX4_definedIndex 5 = .ok (.aaload, 1) := by decide +kernel
theorem dX4_definedIndex_6 : decode cX4_definedIndex 6 = .ok (.getfield 167, 3) := by decide +kernel
theorem dX4_definedIndex_9 : decode cX4_definedIndex 9 = .ok (.ifCond .ne 14, 3) := by decide +kernel
theorem dX4_definedIndex_12 : decode cX4_definedIndex 12 = .ok (.new 197, 3) := by decide +kernel
theorem dX4_definedIndex_15 : decode cX4_definedIndex 15 = .ok (.dup, 1) := by decide +kernel
theorem dX4_definedIndex_16 : decode cX4_definedIndex 16 = .ok (.ldc_w 279, 3) := by decide +kernel
theorem dX4_definedIndex_19 : decode cX4_definedIndex 19 = .ok (.invokespecial 201, 3) := by decide +kernel
theorem dX4_definedIndex_22 : decode cX4_definedIndex 22 = .ok (.athrow, 1) := by decide +kernel
theorem dX4_definedIndex_23 : decode cX4_definedIndex 23 = .ok (.aload_n 0, 1) := by decide +kernel
theorem dX4_definedIndex_24 : decode cX4_definedIndex 24 = .ok (.getfield 38, 3) := by decide +kernel
theorem dX4_definedIndex_27 : decode cX4_definedIndex 27 = .ok (.iload_n 1, 1) := by decide +kernel
theorem dX4_definedIndex_28 : decode cX4_definedIndex 28 = .ok (.aaload, 1) := by decide +kernel
theorem dX4_definedIndex_29 : decode cX4_definedIndex 29 = .ok (.areturn, 1) := by decide +kernel
theorem dX4_leastFreeHandle_0 : decode cX4_leastFreeHandle 0 = .ok (.iconst 0, 1) := by decide +kernel
theorem dX4_leastFreeHandle_1 : decode cX4_leastFreeHandle 1 = .ok (.istore_n 1, 1) := by decide +kernel
theorem dX4_leastFreeHandle_2 : decode cX4_leastFreeHandle 2 = .ok (.iload_n 1, 1) := by decide +kernel
theorem dX4_leastFreeHandle_3 : decode cX4_leastFreeHandle 3 = .ok (.iconst 4, 1) := by decide +kernel
theorem dX4_leastFreeHandle_4 : decode cX4_leastFreeHandle 4 = .ok (.if_icmp .ge 23, 3) := by decide +kernel
theorem dX4_leastFreeHandle_7 : decode cX4_leastFreeHandle 7 = .ok (.aload_n 0, 1) := by decide +kernel
theorem dX4_leastFreeHandle_8 : decode cX4_leastFreeHandle 8 = .ok (.getfield 20, 3) := by decide +kernel
theorem dX4_leastFreeHandle_11 : decode cX4_leastFreeHandle 11 = .ok (.iload_n 1, 1) := by decide +kernel
theorem dX4_leastFreeHandle_12 : decode cX4_leastFreeHandle 12 = .ok (.aaload, 1) := by decide +kernel
theorem dX4_leastFreeHandle_13 : decode cX4_leastFreeHandle 13 = .ok (.getfield 116, 3) := by decide +kernel
theorem dX4_leastFreeHandle_16 : decode cX4_leastFreeHandle 16 = .ok (.ifCond .ne 5, 3) := by decide +kernel
theorem dX4_leastFreeHandle_19 : decode cX4_leastFreeHandle 19 = .ok (.iload_n 1, 1) := by decide +kernel
theorem dX4_leastFreeHandle_20 : decode cX4_leastFreeHandle 20 = .ok (.ireturn, 1) := by decide +kernel
theorem dX4_leastFreeHandle_21 : decode cX4_leastFreeHandle 21 = .ok (.iinc 1 1, 3) := by decide +kernel
theorem dX4_leastFreeHandle_24 : decode cX4_leastFreeHandle 24 = .ok (.goto (-22), 3) := by decide +kernel
theorem dX4_leastFreeHandle_27 : decode cX4_leastFreeHandle 27 = .ok (.new 170, 3) := by decide +kernel
theorem dX4_leastFreeHandle_30 : decode cX4_leastFreeHandle 30 = .ok (.dup, 1) := by decide +kernel
theorem dX4_leastFreeHandle_31 : decode cX4_leastFreeHandle 31 = .ok (.ldc_w 281, 3) := by decide +kernel
theorem dX4_leastFreeHandle_34 : decode cX4_leastFreeHandle 34 = .ok (.invokespecial 174, 3) := by decide +kernel
theorem dX4_leastFreeHandle_37 : decode cX4_leastFreeHandle 37 = .ok (.athrow, 1) := by decide +kernel
theorem dX4_powerComes_0 : decode cX4_powerComes 0 = .ok (.aload_n 0, 1) := by decide +kernel
theorem dX4_powerComes_1 : decode cX4_powerComes 1 = .ok (.iload_n 1, 1) := by decide +kernel
theorem dX4_powerComes_2 : decode cX4_powerComes 2 = .ok (.putfield 231, 3) := by decide +kernel
theorem dX4_powerComes_5 : decode cX4_powerComes 5 = .ok (.aload_n 0, 1) := by decide +kernel
theorem dX4_powerComes_6 : decode cX4_powerComes 6 = .ok (.iconst 0, 1) := by decide +kernel
theorem dX4_powerComes_7 : decode cX4_powerComes 7 = .ok (.putfield 234, 3) := by decide +kernel
theorem dX4_powerComes_10 : decode cX4_powerComes 10 = .ok (.aload_n 0, 1) := by decide +kernel
theorem dX4_powerComes_11 : decode cX4_powerComes 11 = .ok (.invokevirtual 283, 3) := by decide +kernel
theorem dX4_powerComes_14 : decode cX4_powerComes 14 = .ok (.aload_n 0, 1) := by decide +kernel
theorem dX4_powerComes_15 : decode cX4_powerComes 15 = .ok (.invokevirtual 218, 3) := by decide +kernel
theorem dX4_powerComes_18 : decode cX4_powerComes 18 = .ok (.iconst 0, 1) := by decide +kernel
theorem dX4_powerComes_19 : decode cX4_powerComes 19 = .ok (.istore_n 2, 1) := by decide +kernel
theorem dX4_powerComes_20 : decode cX4_powerComes 20 = .ok (.iload_n 2, 1) := by decide +kernel
theorem dX4_powerComes_21 : decode cX4_powerComes 21 = .ok (.iconst 3, 1) := by decide +kernel
theorem dX4_powerComes_22 : decode cX4_powerComes 22 = .ok (.if_icmp .ge 18, 3) := by decide +kernel
theorem dX4_powerComes_25 : decode cX4_powerComes 25 = .ok (.aload_n 0, 1) := by decide +kernel
theorem dX4_powerComes_26 : decode cX4_powerComes 26 = .ok (.getfield 32, 3) := by decide +kernel
theorem dX4_powerComes_29 : decode cX4_powerComes 29 = .ok (.iload_n 2, 1) := by decide +kernel
theorem dX4_powerComes_30 : decode cX4_powerComes 30 = .ok (.aaload, 1) := by decide +kernel
theorem dX4_powerComes_31 : decode cX4_powerComes 31 = .ok (.invokevirtual 134, 3) := by decide +kernel
theorem dX4_powerComes_34 : decode cX4_powerComes 34 = .ok (.iinc 2 1, 3) := by decide +kernel
theorem dX4_powerComes_37 : decode cX4_powerComes 37 = .ok (.goto (-17), 3) := by decide +kernel
theorem dX4_powerComes_40 : decode cX4_powerComes 40 = .ok (.aload_n 0, 1) := by decide +kernel
theorem dX4_powerComes_41 : decode cX4_powerComes 41 = .ok (.getfield 9, 3) := by decide +kernel
theorem dX4_powerComes_44 : decode cX4_powerComes 44 = .ok (.iconst 2, 1) := by decide +kernel
theorem dX4_powerComes_45 : decode cX4_powerComes 45 = .ok (.aload_n 0, 1) := by decide +kernel
theorem dX4_powerComes_46 : decode cX4_powerComes 46 = .ok (.getfield 9, 3) := by decide +kernel
theorem dX4_powerComes_49 : decode cX4_powerComes 49 = .ok (.iconst 2, 1) := by decide +kernel
theorem dX4_powerComes_50 : decode cX4_powerComes 50 = .ok (.laload, 1) := by decide +kernel
theorem dX4_powerComes_51 : decode cX4_powerComes 51 = .ok (.ldc2_w 286, 3) := by decide +kernel
theorem dX4_powerComes_54 : decode cX4_powerComes 54 = .ok (.invokestatic 42, 3) := by decide +kernel
theorem dX4_powerComes_57 : decode cX4_powerComes 57 = .ok (.lastore, 1) := by decide +kernel
theorem dX4_powerComes_58 : decode cX4_powerComes 58 = .ok (.aload_n 0, 1) := by decide +kernel
theorem dX4_powerComes_59 : decode cX4_powerComes 59 = .ok (.aload_n 0, 1) := by decide +kernel
theorem dX4_powerComes_60 : decode cX4_powerComes 60 = .ok (.getfield 202, 3) := by decide +kernel
theorem dX4_powerComes_63 : decode cX4_powerComes 63 = .ok (.putfield 288, 3) := by decide +kernel
theorem dX4_powerComes_66 : decode cX4_powerComes 66 = .ok (.return_, 1) := by decide +kernel
theorem dX4_forgetPcrs_0 : decode cX4_forgetPcrs 0 = .ok (.iconst 0, 1) := by decide +kernel
theorem dX4_forgetPcrs_1 : decode cX4_forgetPcrs 1 = .ok (.istore_n 1, 1) := by decide +kernel
theorem dX4_forgetPcrs_2 : decode cX4_forgetPcrs 2 = .ok (.iload_n 1, 1) := by decide +kernel
theorem dX4_forgetPcrs_3 : decode cX4_forgetPcrs 3 = .ok (.iconst 2, 1) := by decide +kernel
theorem dX4_forgetPcrs_4 : decode cX4_forgetPcrs 4 = .ok (.if_icmp .ge 32, 3) := by decide +kernel
theorem dX4_forgetPcrs_7 : decode cX4_forgetPcrs 7 = .ok (.iconst 0, 1) := by decide +kernel
theorem dX4_forgetPcrs_8 : decode cX4_forgetPcrs 8 = .ok (.istore_n 2, 1) := by decide +kernel
theorem dX4_forgetPcrs_9 : decode cX4_forgetPcrs 9 = .ok (.iload_n 2, 1) := by decide +kernel
theorem dX4_forgetPcrs_10 : decode cX4_forgetPcrs 10 = .ok (.bipush 8, 2) := by decide +kernel
theorem dX4_forgetPcrs_12 : decode cX4_forgetPcrs 12 = .ok (.if_icmp .ge 18, 3) := by decide +kernel
theorem dX4_forgetPcrs_15 : decode cX4_forgetPcrs 15 = .ok (.aload_n 0, 1) := by decide +kernel
theorem dX4_forgetPcrs_16 : decode cX4_forgetPcrs 16 = .ok (.getfield 15, 3) := by decide +kernel
theorem dX4_forgetPcrs_19 : decode cX4_forgetPcrs 19 = .ok (.iload_n 1, 1) := by decide +kernel
theorem dX4_forgetPcrs_20 : decode cX4_forgetPcrs 20 = .ok (.aaload, 1) := by decide +kernel
theorem dX4_forgetPcrs_21 : decode cX4_forgetPcrs 21 = .ok (.iload_n 2, 1) := by decide +kernel
theorem dX4_forgetPcrs_22 : decode cX4_forgetPcrs 22 = .ok (.lconst 0, 1) := by decide +kernel
theorem dX4_forgetPcrs_23 : decode cX4_forgetPcrs 23 = .ok (.lastore, 1) := by decide +kernel
theorem dX4_forgetPcrs_24 : decode cX4_forgetPcrs 24 = .ok (.iinc 2 1, 3) := by decide +kernel
theorem dX4_forgetPcrs_27 : decode cX4_forgetPcrs 27 = .ok (.goto (-18), 3) := by decide +kernel
theorem dX4_forgetPcrs_30 : decode cX4_forgetPcrs 30 = .ok (.iinc 1 1, 3) := by decide +kernel
theorem dX4_forgetPcrs_33 : decode cX4_forgetPcrs 33 = .ok (.goto (-31), 3) := by decide +kernel
theorem dX4_forgetPcrs_36 : decode cX4_forgetPcrs 36 = .ok (.aload_n 0, 1) := by decide +kernel
theorem dX4_forgetPcrs_37 : decode cX4_forgetPcrs 37 = .ok (.iconst 0, 1) := by decide +kernel
theorem dX4_forgetPcrs_38 : decode cX4_forgetPcrs 38 = .ok (.putfield 69, 3) := by decide +kernel
theorem dX4_forgetPcrs_41 : decode cX4_forgetPcrs 41 = .ok (.return_, 1) := by decide +kernel
theorem dX4_freeHandles_0 : decode cX4_freeHandles 0 = .ok (.iconst 0, 1) := by decide +kernel
theorem dX4_freeHandles_1 : decode cX4_freeHandles 1 = .ok (.istore_n 1, 1) := by decide +kernel
theorem dX4_freeHandles_2 : decode cX4_freeHandles 2 = .ok (.iload_n 1, 1) := by decide +kernel
theorem dX4_freeHandles_3 : decode cX4_freeHandles 3 = .ok (.iconst 4, 1) := by decide +kernel
theorem dX4_freeHandles_4 : decode cX4_freeHandles 4 = .ok (.if_icmp .ge 19, 3) := by decide +kernel
theorem dX4_freeHandles_7 : decode cX4_freeHandles 7 = .ok (.aload_n 0, 1) := by decide +kernel
theorem dX4_freeHandles_8 : decode cX4_freeHandles 8 = .ok (.getfield 20, 3) := by decide +kernel
theorem dX4_freeHandles_11 : decode cX4_freeHandles 11 = .ok (.iload_n 1, 1) := by decide +kernel
theorem dX4_freeHandles_12 : decode cX4_freeHandles 12 = .ok (.aaload, 1) := by decide +kernel
theorem dX4_freeHandles_13 : decode cX4_freeHandles 13 = .ok (.iconst 0, 1) := by decide +kernel
theorem dX4_freeHandles_14 : decode cX4_freeHandles 14 = .ok (.putfield 116, 3) := by decide +kernel
theorem dX4_freeHandles_17 : decode cX4_freeHandles 17 = .ok (.iinc 1 1, 3) := by decide +kernel
theorem dX4_freeHandles_20 : decode cX4_freeHandles 20 = .ok (.goto (-18), 3) := by decide +kernel
theorem dX4_freeHandles_23 : decode cX4_freeHandles 23 = .ok (.return_, 1) := by decide +kernel
theorem dX4_useParts_0 : decode cX4_useParts 0 = .ok (.aload_n 0, 1) := by decide +kernel
theorem dX4_useParts_1 : decode cX4_useParts 1 = .ok (.getfield 231, 3) := by decide +kernel
theorem dX4_useParts_4 : decode cX4_useParts 4 = .ok (.iconst (-1), 1) := by decide +kernel
theorem dX4_useParts_5 : decode cX4_useParts 5 = .ok (.if_icmp .ne 4, 3) := by decide +kernel
theorem dX4_useParts_8 : decode cX4_useParts 8 = .ok (.return_, 1) := by decide +kernel
theorem dX4_useParts_9 : decode cX4_useParts 9 = .ok (.aload_n 0, 1) := by decide +kernel
theorem dX4_useParts_10 : decode cX4_useParts 10 = .ok (.getfield 231, 3) := by decide +kernel
theorem dX4_useParts_13 : decode cX4_useParts 13 = .ok (.iload_n 1, 1) := by decide +kernel
theorem dX4_useParts_14 : decode cX4_useParts 14 = .ok (.if_icmp .ge 34, 3) := by decide +kernel
theorem dX4_useParts_17 : decode cX4_useParts 17 = .ok (.aload_n 0, 1) := by decide +kernel
theorem dX4_useParts_18 : decode cX4_useParts 18 = .ok (.iconst 0, 1) := by decide +kernel
theorem dX4_useParts_19 : decode cX4_useParts 19 = .ok (.putfield 231, 3) := by decide +kernel
theorem dX4_useParts_22 : decode cX4_useParts 22 = .ok (.aload_n 0, 1) := by decide +kernel
theorem dX4_useParts_23 : decode cX4_useParts 23 = .ok (.iconst 1, 1) := by decide +kernel
theorem dX4_useParts_24 : decode cX4_useParts 24 = .ok (.putfield 234, 3) := by decide +kernel
theorem dX4_useParts_27 : decode cX4_useParts 27 = .ok (.aload_n 0, 1) := by decide +kernel
theorem dX4_useParts_28 : decode cX4_useParts 28 = .ok (.dup, 1) := by decide +kernel
theorem dX4_useParts_29 : decode cX4_useParts 29 = .ok (.getfield 243, 3) := by decide +kernel
theorem dX4_useParts_32 : decode cX4_useParts 32 = .ok (.iconst 1, 1) := by decide +kernel
theorem dX4_useParts_33 : decode cX4_useParts 33 = .ok (.iadd, 1) := by decide +kernel
theorem dX4_useParts_34 : decode cX4_useParts 34 = .ok (.putfield 243, 3) := by decide +kernel
theorem dX4_useParts_37 : decode cX4_useParts 37 = .ok (.new 170, 3) := by decide +kernel
theorem dX4_useParts_40 : decode cX4_useParts 40 = .ok (.dup, 1) := by decide +kernel
theorem dX4_useParts_41 : decode cX4_useParts 41 = .ok (.ldc_w 291, 3) := by decide +kernel
theorem dX4_useParts_44 : decode cX4_useParts 44 = .ok (.invokespecial 174, 3) := by decide +kernel
theorem dX4_useParts_47 : decode cX4_useParts 47 = .ok (.athrow, 1) := by decide +kernel
theorem dX4_useParts_48 : decode cX4_useParts 48 = .ok (.aload_n 0, 1) := by decide +kernel
theorem dX4_useParts_49 : decode cX4_useParts 49 = .ok (.aload_n 0, 1) := by decide +kernel
theorem dX4_useParts_50 : decode cX4_useParts 50 = .ok (.getfield 231, 3) := by decide +kernel
theorem dX4_useParts_53 : decode cX4_useParts 53 = .ok (.iload_n 1, 1) := by decide +kernel
theorem dX4_useParts_54 : decode cX4_useParts 54 = .ok (.isub, 1) := by decide +kernel
theorem dX4_useParts_55 : decode cX4_useParts 55 = .ok (.putfield 231, 3) := by decide +kernel
theorem dX4_useParts_58 : decode cX4_useParts 58 = .ok (.return_, 1) := by decide +kernel
theorem dX4_nextCounted_0 : decode cX4_nextCounted 0 = .ok (.aload_n 0, 1) := by decide +kernel
theorem dX4_nextCounted_1 : decode cX4_nextCounted 1 = .ok (.dup, 1) := by decide +kernel
theorem dX4_nextCounted_2 : decode cX4_nextCounted 2 = .ok (.getfield 293, 3) := by decide +kernel
theorem dX4_nextCounted_5 : decode cX4_nextCounted 5 = .ok (.lconst 1, 1) := by decide +kernel
theorem dX4_nextCounted_6 : decode cX4_nextCounted 6 = .ok (.ladd, 1) := by decide +kernel
theorem dX4_nextCounted_7 : decode cX4_nextCounted 7 = .ok (.putfield 293, 3) := by decide +kernel
theorem dX4_nextCounted_10 : decode cX4_nextCounted 10 = .ok (.aload_n 0, 1) := by decide +kernel
theorem dX4_nextCounted_11 : decode cX4_nextCounted 11 = .ok (.getfield 293, 3) := by decide +kernel
theorem dX4_nextCounted_14 : decode cX4_nextCounted 14 = .ok (.lreturn, 1) := by decide +kernel
theorem dX4_allowByWord_0 : decode cX4_allowByWord 0 = .ok (.aload_n 1, 1) := by decide +kernel
theorem dX4_allowByWord_1 : decode cX4_allowByWord 1 = .ok (.getfield 296, 3) := by decide +kernel
theorem dX4_allowByWord_4 : decode cX4_allowByWord 4 = .ok (.ifCond .ne 4, 3) := by decide +kernel
theorem dX4_allowByWord_7 : decode cX4_allowByWord 7 = .ok (.return_, 1) := by decide +kernel
theorem dX4_allowByWord_8 : decode cX4_allowByWord 8 = .ok (.aload_n 0, 1) := by decide +kernel
theorem dX4_allowByWord_9 : decode cX4_allowByWord 9 = .ok (.getfield 221, 3) := by decide +kernel
theorem dX4_allowByWord_12 : decode cX4_allowByWord 12 = .ok (.iconst 3, 1) := by decide +kernel
theorem dX4_allowByWord_13 : decode cX4_allowByWord 13 = .ok (.if_icmp .lt 14, 3) := by decide +kernel
theorem dX4_allowByWord_16 : decode cX4_allowByWord 16 = .ok (.new 170, 3) := by decide +kernel
theorem dX4_allowByWord_19 : decode cX4_allowByWord 19 = .ok (.dup, 1) := by decide +kernel
theorem dX4_allowByWord_20 : decode cX4_allowByWord 20 = .ok (.ldc_w 299, 3) := by decide +kernel
theorem dX4_allowByWord_23 : decode cX4_allowByWord 23 = .ok (.invokespecial 174, 3) := by decide +kernel
theorem dX4_allowByWord_26 : decode cX4_allowByWord 26 = .ok (.athrow, 1) := by decide +kernel
theorem dX4_allowByWord_27 : decode cX4_allowByWord 27 = .ok (.aload_n 1, 1) := by decide +kernel
theorem dX4_allowByWord_28 : decode cX4_allowByWord 28 = .ok (.getfield 296, 3) := by decide +kernel
theorem dX4_allowByWord_31 : decode cX4_allowByWord 31 = .ok (.iload_n 2, 1) := by decide +kernel
theorem dX4_allowByWord_32 : decode cX4_allowByWord 32 = .ok (.if_icmp .eq 32, 3) := by decide +kernel
theorem dX4_allowByWord_35 : decode cX4_allowByWord 35 = .ok (.aload_n 0, 1) := by decide +kernel
theorem dX4_allowByWord_36 : decode cX4_allowByWord 36 = .ok (.dup, 1) := by decide +kernel
theorem dX4_allowByWord_37 : decode cX4_allowByWord 37 = .ok (.getfield 221, 3) := by decide +kernel
theorem dX4_allowByWord_40 : decode cX4_allowByWord 40 = .ok (.iconst 1, 1) := by decide +kernel
theorem dX4_allowByWord_41 : decode cX4_allowByWord 41 = .ok (.iadd, 1) := by decide +kernel
theorem dX4_allowByWord_42 : decode cX4_allowByWord 42 = .ok (.putfield 221, 3) := by decide +kernel
theorem dX4_allowByWord_45 : decode cX4_allowByWord 45 = .ok (.aload_n 0, 1) := by decide +kernel
theorem dX4_allowByWord_46 : decode cX4_allowByWord 46 = .ok (.aload_n 0, 1) := by decide +kernel
theorem dX4_allowByWord_47 : decode cX4_allowByWord 47 = .ok (.getfield 202, 3) := by decide +kernel
theorem dX4_allowByWord_50 : decode cX4_allowByWord 50 = .ok (.putfield 288, 3) := by decide +kernel
theorem dX4_allowByWord_53 : decode cX4_allowByWord 53 = .ok (.new 152, 3) := by decide +kernel
theorem dX4_allowByWord_56 : decode cX4_allowByWord 56 = .ok (.dup, 1) := by decide +kernel
theorem dX4_allowByWord_57 : decode cX4_allowByWord 57 = .ok (.ldc_w 301, 3) := by decide +kernel
theorem dX4_allowByWord_60 : decode cX4_allowByWord 60 = .ok (.invokespecial 156, 3) := by decide +kernel
theorem dX4_allowByWord_63 : decode cX4_allowByWord 63 = .ok (.athrow, 1) := by decide +kernel
theorem dX4_allowByWord_64 : decode cX4_allowByWord 64 = .ok (.return_, 1) := by decide +kernel
theorem dX4_allowBySession_0 : decode cX4_allowBySession 0 = .ok (.lload_n 1, 1) := by decide +kernel
theorem dX4_allowBySession_1 : decode cX4_allowBySession 1 = .ok (.lconst 0, 1) := by decide +kernel
theorem dX4_allowBySession_2 : decode cX4_allowBySession 2 = .ok (.lcmp, 1) := by decide +kernel
theorem dX4_allowBySession_3 : decode cX4_allowBySession 3 = .ok (.ifCond .eq 12, 3) := by decide +kernel
theorem dX4_allowBySession_6 : decode cX4_allowBySession 6 = .ok (.aload_n 3, 1) := by decide +kernel
theorem dX4_allowBySession_7 : decode cX4_allowBySession 7 = .ok (.getfield 137, 3) := by decide +kernel
theorem dX4_allowBySession_10 : decode cX4_allowBySession 10 = .ok (.lload_n 1, 1) := by decide +kernel
theorem dX4_allowBySession_11 : decode cX4_allowBySession 11 = .ok (.lcmp, 1) := by decide +kernel
theorem dX4_allowBySession_12 : decode cX4_allowBySession 12 = .ok (.ifCond .eq 14, 3) := by decide +kernel
theorem dX4_allowBySession_15 : decode cX4_allowBySession 15 = .ok (.new 152, 3) := by decide +kernel
theorem dX4_allowBySession_18 : decode cX4_allowBySession 18 = .ok (.dup, 1) := by decide +kernel
theorem dX4_allowBySession_19 : decode cX4_allowBySession 19 = .ok (.ldc_w 303, 3) := by decide +kernel
theorem dX4_allowBySession_22 : decode cX4_allowBySession 22 = .ok (.invokespecial 156, 3) := by decide +kernel
theorem dX4_allowBySession_25 : decode cX4_allowBySession 25 = .ok (.athrow, 1) := by decide +kernel
theorem dX4_allowBySession_26 : decode cX4_allowBySession 26 = .ok (.aload_n 3, 1) := by decide +kernel
theorem dX4_allowBySession_27 : decode cX4_allowBySession 27 = .ok (.getfield 146, 3) := by decide +kernel
theorem dX4_allowBySession_30 : decode cX4_allowBySession 30 = .ok (.ifCond .eq 25, 3) := by decide +kernel
theorem dX4_allowBySession_33 : decode cX4_allowBySession 33 = .ok (.aload_n 3, 1) := by decide +kernel
theorem dX4_allowBySession_34 : decode cX4_allowBySession 34 = .ok (.getfield 149, 3) := by decide +kernel
theorem dX4_allowBySession_37 : decode cX4_allowBySession 37 = .ok (.aload_n 0, 1) := by decide +kernel
theorem dX4_allowBySession_38 : decode cX4_allowBySession 38 = .ok (.getfield 69, 3) := by decide +kernel
theorem dX4_allowBySession_41 : decode cX4_allowBySession 41 = .ok (.if_icmp .eq 14, 3) := by decide +kernel
theorem dX4_allowBySession_44 : decode cX4_allowBySession 44 = .ok (.new 170, 3) := by decide +kernel
theorem dX4_allowBySession_47 : decode cX4_allowBySession 47 = .ok (.dup, 1) := by decide +kernel
theorem dX4_allowBySession_48 : decode cX4_allowBySession 48 = .ok (.ldc_w 305, 3) := by decide +kernel
theorem dX4_allowBySession_51 : decode cX4_allowBySession 51 = .ok (.invokespecial 174, 3) := by decide +kernel
theorem dX4_allowBySession_54 : decode cX4_allowBySession 54 = .ok (.athrow, 1) := by decide +kernel
theorem dX4_allowBySession_55 : decode cX4_allowBySession 55 = .ok (.return_, 1) := by decide +kernel
theorem dX4_hashOfPcrs_0 : decode cX4_hashOfPcrs 0 = .ok (.lconst 0, 1) := by decide +kernel
theorem dX4_hashOfPcrs_1 : decode cX4_hashOfPcrs 1 = .ok (.lstore_n 3, 1) := by decide +kernel
theorem dX4_hashOfPcrs_2 : decode cX4_hashOfPcrs 2 = .ok (.iconst 0, 1) := by decide +kernel
theorem dX4_hashOfPcrs_3 : decode cX4_hashOfPcrs 3 = .ok (.istore 5, 2) := by decide +kernel
theorem dX4_hashOfPcrs_5 : decode cX4_hashOfPcrs 5 = .ok (.iload 5, 2) := by decide +kernel
theorem dX4_hashOfPcrs_7 : decode cX4_hashOfPcrs 7 = .ok (.bipush 8, 2) := by decide +kernel
theorem dX4_hashOfPcrs_9 : decode cX4_hashOfPcrs 9 = .ok (.if_icmp .ge 33, 3) := by decide +kernel
theorem dX4_hashOfPcrs_12 : decode cX4_hashOfPcrs 12 = .ok (.iload_n 2, 1) := by decide +kernel
theorem dX4_hashOfPcrs_13 : decode cX4_hashOfPcrs 13 = .ok (.iload 5, 2) := by decide +kernel
theorem dX4_hashOfPcrs_15 : decode cX4_hashOfPcrs 15 = .ok (.ishr, 1) := by decide +kernel
theorem dX4_hashOfPcrs_16 : decode cX4_hashOfPcrs 16 = .ok (.iconst 1, 1) := by decide +kernel
theorem dX4_hashOfPcrs_17 : decode cX4_hashOfPcrs 17 = .ok (.iand, 1) := by decide +kernel
theorem dX4_hashOfPcrs_18 : decode cX4_hashOfPcrs 18 = .ok (.iconst 1, 1) := by decide +kernel
theorem dX4_hashOfPcrs_19 : decode cX4_hashOfPcrs 19 = .ok (.if_icmp .ne 17, 3) := by decide +kernel
theorem dX4_hashOfPcrs_22 : decode cX4_hashOfPcrs 22 = .ok (.lload_n 3, 1) := by decide +kernel
theorem dX4_hashOfPcrs_23 : decode cX4_hashOfPcrs 23 = .ok (.aload_n 0, 1) := by decide +kernel
theorem dX4_hashOfPcrs_24 : decode cX4_hashOfPcrs 24 = .ok (.getfield 15, 3) := by decide +kernel
theorem dX4_hashOfPcrs_27 : decode cX4_hashOfPcrs 27 = .ok (.iload_n 1, 1) := by decide +kernel
theorem dX4_hashOfPcrs_28 : decode cX4_hashOfPcrs 28 = .ok (.aaload, 1) := by decide +kernel
theorem dX4_hashOfPcrs_29 : decode cX4_hashOfPcrs 29 = .ok (.iload 5, 2) := by decide +kernel
theorem dX4_hashOfPcrs_31 : decode cX4_hashOfPcrs 31 = .ok (.laload, 1) := by decide +kernel
theorem dX4_hashOfPcrs_32 : decode cX4_hashOfPcrs 32 = .ok (.invokestatic 42, 3) := by decide +kernel
theorem dX4_hashOfPcrs_35 : decode cX4_hashOfPcrs 35 = .ok (.lstore_n 3, 1) := by decide +kernel
theorem dX4_hashOfPcrs_36 : decode cX4_hashOfPcrs 36 = .ok (.iinc 5 1, 3) := by decide +kernel
theorem dX4_hashOfPcrs_39 : decode cX4_hashOfPcrs 39 = .ok (.goto (-34), 3) := by decide +kernel
theorem dX4_hashOfPcrs_42 : decode cX4_hashOfPcrs 42 = .ok (.lload_n 3, 1) := by decide +kernel
theorem dX4_hashOfPcrs_43 : decode cX4_hashOfPcrs 43 = .ok (.lreturn, 1) := by decide +kernel
theorem dX4_forgiveGuesses_0 : decode cX4_forgiveGuesses 0 = .ok (.aload_n 0, 1) := by decide +kernel
theorem dX4_forgiveGuesses_1 : decode cX4_forgiveGuesses 1 = .ok (.getfield 221, 3) := by decide +kernel
theorem dX4_forgiveGuesses_4 : decode cX4_forgiveGuesses 4 = .ok (.ifCond .le 44, 3) := by decide +kernel
theorem dX4_forgiveGuesses_7 : decode cX4_forgiveGuesses 7 = .ok (.aload_n 0, 1) := by decide +kernel
theorem dX4_forgiveGuesses_8 : decode cX4_forgiveGuesses 8 = .ok (.getfield 202, 3) := by decide +kernel
theorem dX4_forgiveGuesses_11 : decode cX4_forgiveGuesses 11 = .ok (.aload_n 0, 1) := by decide +kernel
theorem dX4_forgiveGuesses_12 : decode cX4_forgiveGuesses 12 = .ok (.getfield 288, 3) := by decide +kernel
theorem dX4_forgiveGuesses_15 : decode cX4_forgiveGuesses 15 = .ok (.ldc2_w 307, 3) := by decide +kernel
theorem dX4_forgiveGuesses_18 : decode cX4_forgiveGuesses 18 = .ok (.dadd, 1) := by decide +kernel
theorem dX4_forgiveGuesses_19 : decode cX4_forgiveGuesses 19 = .ok (.dcmp .l, 1) := by decide +kernel
theorem dX4_forgiveGuesses_20 : decode cX4_forgiveGuesses 20 = .ok (.ifCond .lt 28, 3) := by decide +kernel
theorem dX4_forgiveGuesses_23 : decode cX4_forgiveGuesses 23 = .ok (.aload_n 0, 1) := by decide +kernel
theorem dX4_forgiveGuesses_24 : decode cX4_forgiveGuesses 24 = .ok (.dup, 1) := by decide +kernel
theorem dX4_forgiveGuesses_25 : decode cX4_forgiveGuesses 25 = .ok (.getfield 221, 3) := by decide +kernel
theorem dX4_forgiveGuesses_28 : decode cX4_forgiveGuesses 28 = .ok (.iconst 1, 1) := by decide +kernel
theorem dX4_forgiveGuesses_29 : decode cX4_forgiveGuesses 29 = .ok (.isub, 1) := by decide +kernel
theorem dX4_forgiveGuesses_30 : decode cX4_forgiveGuesses 30 = .ok (.putfield 221, 3) := by decide +kernel
theorem dX4_forgiveGuesses_33 : decode cX4_forgiveGuesses 33 = .ok (.aload_n 0, 1) := by decide +kernel
theorem dX4_forgiveGuesses_34 : decode cX4_forgiveGuesses 34 = .ok (.aload_n 0, 1) := by decide +kernel
theorem dX4_forgiveGuesses_35 : decode cX4_forgiveGuesses 35 = .ok (.getfield 288, 3) := by decide +kernel
theorem dX4_forgiveGuesses_38 : decode cX4_forgiveGuesses 38 = .ok (.ldc2_w 307, 3) := by decide +kernel
theorem dX4_forgiveGuesses_41 : decode cX4_forgiveGuesses 41 = .ok (.dadd, 1) := by decide +kernel
theorem dX4_forgiveGuesses_42 : decode cX4_forgiveGuesses 42 = .ok (.putfield 288, 3) := by decide +kernel
theorem dX4_forgiveGuesses_45 : decode cX4_forgiveGuesses 45 = .ok (.goto (-45), 3) := by decide +kernel
theorem dX4_forgiveGuesses_48 : decode cX4_forgiveGuesses 48 = .ok (.return_, 1) := by decide +kernel
theorem dX4_setPace_0 : decode cX4_setPace 0 = .ok (.dload_n 1, 1) := by decide +kernel
theorem dX4_setPace_1 : decode cX4_setPace 1 = .ok (.ldc2_w 309, 3) := by decide +kernel
theorem dX4_setPace_4 : decode cX4_setPace 4 = .ok (.dcmp .l, 1) := by decide +kernel
theorem dX4_setPace_5 : decode cX4_setPace 5 = .ok (.ifCond .lt 16, 3) := by decide +kernel
theorem dX4_setPace_8 : decode cX4_setPace 8 = .ok (.dload_n 1, 1) := by decide +kernel
theorem dX4_setPace_9 : decode cX4_setPace 9 = .ok (.ldc2_w 311, 3) := by decide +kernel
theorem dX4_setPace_12 : decode cX4_setPace 12 = .ok (.dcmp .g, 1) := by decide +kernel
theorem dX4_setPace_13 : decode cX4_setPace 13 = .ok (.ifCond .gt 8, 3) := by decide +kernel
theorem dX4_setPace_16 : decode cX4_setPace 16 = .ok (.aload_n 0, 1) := by decide +kernel
theorem dX4_setPace_17 : decode cX4_setPace 17 = .ok (.dload_n 1, 1) := by decide +kernel
theorem dX4_setPace_18 : decode cX4_setPace 18 = .ok (.putfield 50, 3) := by decide +kernel
theorem dX4_setPace_21 : decode cX4_setPace 21 = .ok (.return_, 1) := by decide +kernel
theorem dX4_heldKeys_0 : decode cX4_heldKeys 0 = .ok (.iconst 0, 1) := by decide +kernel
theorem dX4_heldKeys_1 : decode cX4_heldKeys 1 = .ok (.istore_n 1, 1) := by decide +kernel
theorem dX4_heldKeys_2 : decode cX4_heldKeys 2 = .ok (.iconst 0, 1) := by decide +kernel
theorem dX4_heldKeys_3 : decode cX4_heldKeys 3 = .ok (.istore_n 2, 1) := by decide +kernel
theorem dX4_heldKeys_4 : decode cX4_heldKeys 4 = .ok (.iload_n 2, 1) := by decide +kernel
theorem dX4_heldKeys_5 : decode cX4_heldKeys 5 = .ok (.iconst 4, 1) := by decide +kernel
theorem dX4_heldKeys_6 : decode cX4_heldKeys 6 = .ok (.if_icmp .ge 24, 3) := by decide +kernel
theorem dX4_heldKeys_9 : decode cX4_heldKeys 9 = .ok (.aload_n 0, 1) := by decide +kernel
theorem dX4_heldKeys_10 : decode cX4_heldKeys 10 = .ok (.getfield 20, 3) := by decide +kernel
theorem dX4_heldKeys_13 : decode cX4_heldKeys 13 = .ok (.iload_n 2, 1) := by decide +kernel
theorem dX4_heldKeys_14 : decode cX4_heldKeys 14 = .ok (.aaload, 1) := by decide +kernel
theorem dX4_heldKeys_15 : decode cX4_heldKeys 15 = .ok (.getfield 116, 3) := by decide +kernel
theorem dX4_heldKeys_18 : decode cX4_heldKeys 18 = .ok (.ifCond .eq 6, 3) := by decide +kernel
theorem dX4_heldKeys_21 : decode cX4_heldKeys 21 = .ok (.iinc 1 1, 3) := by decide +kernel
theorem dX4_heldKeys_24 : decode cX4_heldKeys 24 = .ok (.iinc 2 1, 3) := by decide +kernel
theorem dX4_heldKeys_27 : decode cX4_heldKeys 27 = .ok (.goto (-23), 3) := by decide +kernel
theorem dX4_heldKeys_30 : decode cX4_heldKeys 30 = .ok (.iload_n 1, 1) := by decide +kernel
theorem dX4_heldKeys_31 : decode cX4_heldKeys 31 = .ok (.ireturn, 1) := by decide +kernel
theorem dX4_definedIndices_0 : decode cX4_definedIndices 0 = .ok (.iconst 0, 1) := by decide +kernel
theorem dX4_definedIndices_1 : decode cX4_definedIndices 1 = .ok (.istore_n 1, 1) := by decide +kernel
theorem dX4_definedIndices_2 : decode cX4_definedIndices 2 = .ok (.iconst 0, 1) := by decide +kernel
theorem dX4_definedIndices_3 : decode cX4_definedIndices 3 = .ok (.istore_n 2, 1) := by decide +kernel
theorem dX4_definedIndices_4 : decode cX4_definedIndices 4 = .ok (.iload_n 2, 1) := by decide +kernel
theorem dX4_definedIndices_5 : decode cX4_definedIndices 5 = .ok (.iconst 4, 1) := by decide +kernel
theorem dX4_definedIndices_6 : decode cX4_definedIndices 6 = .ok (.if_icmp .ge 24, 3) := by decide +kernel
theorem dX4_definedIndices_9 : decode cX4_definedIndices 9 = .ok (.aload_n 0, 1) := by decide +kernel
theorem dX4_definedIndices_10 : decode cX4_definedIndices 10 = .ok (.getfield 38, 3) := by decide +kernel
theorem dX4_definedIndices_13 : decode cX4_definedIndices 13 = .ok (.iload_n 2, 1) := by decide +kernel
theorem dX4_definedIndices_14 : decode cX4_definedIndices 14 = .ok (.aaload, 1) := by decide +kernel
theorem dX4_definedIndices_15 : decode cX4_definedIndices 15 = .ok (.getfield 167, 3) := by decide +kernel
theorem dX4_definedIndices_18 : decode cX4_definedIndices 18 = .ok (.ifCond .eq 6, 3) := by decide +kernel
theorem dX4_definedIndices_21 : decode cX4_definedIndices 21 = .ok (.iinc 1 1, 3) := by decide +kernel
theorem dX4_definedIndices_24 : decode cX4_definedIndices 24 = .ok (.iinc 2 1, 3) := by decide +kernel
theorem dX4_definedIndices_27 : decode cX4_definedIndices 27 = .ok (.goto (-23), 3) := by decide +kernel
theorem dX4_definedIndices_30 : decode cX4_definedIndices 30 = .ok (.iload_n 1, 1) := by decide +kernel
theorem dX4_definedIndices_31 : decode cX4_definedIndices 31 = .ok (.ireturn, 1) := by decide +kernel
theorem dX4_madeBlobs_0 : decode cX4_madeBlobs 0 = .ok (.iconst 0, 1) := by decide +kernel
theorem dX4_madeBlobs_1 : decode cX4_madeBlobs 1 = .ok (.istore_n 1, 1) := by decide +kernel
theorem dX4_madeBlobs_2 : decode cX4_madeBlobs 2 = .ok (.iconst 0, 1) := by decide +kernel
theorem dX4_madeBlobs_3 : decode cX4_madeBlobs 3 = .ok (.istore_n 2, 1) := by decide +kernel
theorem dX4_madeBlobs_4 : decode cX4_madeBlobs 4 = .ok (.iload_n 2, 1) := by decide +kernel
theorem dX4_madeBlobs_5 : decode cX4_madeBlobs 5 = .ok (.bipush 8, 2) := by decide +kernel
theorem dX4_madeBlobs_7 : decode cX4_madeBlobs 7 = .ok (.if_icmp .ge 24, 3) := by decide +kernel
theorem dX4_madeBlobs_10 : decode cX4_madeBlobs 10 = .ok (.aload_n 0, 1) := by decide +kernel
theorem dX4_madeBlobs_11 : decode cX4_madeBlobs 11 = .ok (.getfield 26, 3) := by decide +kernel
theorem dX4_madeBlobs_14 : decode cX4_madeBlobs 14 = .ok (.iload_n 2, 1) := by decide +kernel
theorem dX4_madeBlobs_15 : decode cX4_madeBlobs 15 = .ok (.aaload, 1) := by decide +kernel
theorem dX4_madeBlobs_16 : decode cX4_madeBlobs 16 = .ok (.getfield 274, 3) := by decide +kernel
theorem dX4_madeBlobs_19 : decode cX4_madeBlobs 19 = .ok (.ifCond .eq 6, 3) := by decide +kernel
theorem dX4_madeBlobs_22 : decode cX4_madeBlobs 22 = .ok (.iinc 1 1, 3) := by decide +kernel
theorem dX4_madeBlobs_25 : decode cX4_madeBlobs 25 = .ok (.iinc 2 1, 3) := by decide +kernel
theorem dX4_madeBlobs_28 : decode cX4_madeBlobs 28 = .ok (.goto (-24), 3) := by decide +kernel
theorem dX4_madeBlobs_31 : decode cX4_madeBlobs 31 = .ok (.iload_n 1, 1) := by decide +kernel
theorem dX4_madeBlobs_32 : decode cX4_madeBlobs 32 = .ok (.ireturn, 1) := by decide +kernel
theorem dX2_init_0 : decode cX2_init 0 = .ok (.aload_n 0, 1) := by decide +kernel
theorem dX2_init_1 : decode cX2_init 1 = .ok (.invokespecial 1, 3) := by decide +kernel
theorem dX2_init_4 : decode cX2_init 4 = .ok (.return_, 1) := by decide +kernel
theorem dX2_hold_0 : decode cX2_hold 0 = .ok (.aload_n 0, 1) := by decide +kernel
theorem dX2_hold_1 : decode cX2_hold 1 = .ok (.iconst 1, 1) := by decide +kernel
theorem dX2_hold_2 : decode cX2_hold 2 = .ok (.putfield 7, 3) := by decide +kernel
theorem dX2_hold_5 : decode cX2_hold 5 = .ok (.aload_n 0, 1) := by decide +kernel
theorem dX2_hold_6 : decode cX2_hold 6 = .ok (.lload_n 1, 1) := by decide +kernel
theorem dX2_hold_7 : decode cX2_hold 7 = .ok (.putfield 13, 3) := by decide +kernel
theorem dX2_hold_10 : decode cX2_hold 10 = .ok (.aload_n 0, 1) := by decide +kernel
theorem dX2_hold_11 : decode cX2_hold 11 = .ok (.iload_n 3, 1) := by decide +kernel
theorem dX2_hold_12 : decode cX2_hold 12 = .ok (.putfield 17, 3) := by decide +kernel
theorem dX2_hold_15 : decode cX2_hold 15 = .ok (.aload_n 0, 1) := by decide +kernel
theorem dX2_hold_16 : decode cX2_hold 16 = .ok (.lload 4, 2) := by decide +kernel
theorem dX2_hold_18 : decode cX2_hold 18 = .ok (.putfield 21, 3) := by decide +kernel
theorem dX2_hold_21 : decode cX2_hold 21 = .ok (.aload_n 0, 1) := by decide +kernel
theorem dX2_hold_22 : decode cX2_hold 22 = .ok (.lload 6, 2) := by decide +kernel
theorem dX2_hold_24 : decode cX2_hold 24 = .ok (.putfield 24, 3) := by decide +kernel
theorem dX2_hold_27 : decode cX2_hold 27 = .ok (.aload_n 0, 1) := by decide +kernel
theorem dX2_hold_28 : decode cX2_hold 28 = .ok (.iload 8, 2) := by decide +kernel
theorem dX2_hold_30 : decode cX2_hold 30 = .ok (.putfield 27, 3) := by decide +kernel
theorem dX2_hold_33 : decode cX2_hold 33 = .ok (.return_, 1) := by decide +kernel
theorem dX2_name_0 : decode cX2_name 0 = .ok (.aload_n 0, 1) := by decide +kernel
theorem dX2_name_1 : decode cX2_name 1 = .ok (.getfield 13, 3) := by decide +kernel
theorem dX2_name_4 : decode cX2_name 4 = .ok (.aload_n 0, 1) := by decide +kernel
theorem dX2_name_5 : decode cX2_name 5 = .ok (.getfield 17, 3) := by decide +kernel
theorem dX2_name_8 : decode cX2_name 8 = .ok (.i2l, 1) := by decide +kernel
theorem dX2_name_9 : decode cX2_name 9 = .ok (.invokestatic 30, 3) := by decide +kernel
theorem dX2_name_12 : decode cX2_name 12 = .ok (.aload_n 0, 1) := by decide +kernel
theorem dX2_name_13 : decode cX2_name 13 = .ok (.getfield 21, 3) := by decide +kernel
theorem dX2_name_16 : decode cX2_name 16 = .ok (.aload_n 0, 1) := by decide +kernel
theorem dX2_name_17 : decode cX2_name 17 = .ok (.getfield 24, 3) := by decide +kernel
theorem dX2_name_20 : decode cX2_name 20 = .ok (.invokestatic 30, 3) := by decide +kernel
theorem dX2_name_23 : decode cX2_name 23 = .ok (.invokestatic 30, 3) := by decide +kernel
theorem dX2_name_26 : decode cX2_name 26 = .ok (.lreturn, 1) := by decide +kernel
theorem dX0_init_0 : decode cX0_init 0 = .ok (.aload_n 0, 1) := by decide +kernel
theorem dX0_init_1 : decode cX0_init 1 = .ok (.invokespecial 3, 3) := by decide +kernel
theorem dX0_init_4 : decode cX0_init 4 = .ok (.aload_n 0, 1) := by decide +kernel
theorem dX0_init_5 : decode cX0_init 5 = .ok (.iconst 4, 1) := by decide +kernel
theorem dX0_init_6 : decode cX0_init 6 = .ok (.newarray .long, 2) := by decide +kernel
theorem dX0_init_8 : decode cX0_init 8 = .ok (.putfield 9, 3) := by decide +kernel
theorem dX0_init_11 : decode cX0_init 11 = .ok (.return_, 1) := by decide +kernel
theorem dX0_wrap_0 : decode cX0_wrap 0 = .ok (.aload_n 0, 1) := by decide +kernel
theorem dX0_wrap_1 : decode cX0_wrap 1 = .ok (.iconst 1, 1) := by decide +kernel
theorem dX0_wrap_2 : decode cX0_wrap 2 = .ok (.putfield 15, 3) := by decide +kernel
theorem dX0_wrap_5 : decode cX0_wrap 5 = .ok (.aload_n 0, 1) := by decide +kernel
theorem dX0_wrap_6 : decode cX0_wrap 6 = .ok (.getfield 9, 3) := by decide +kernel
theorem dX0_wrap_9 : decode cX0_wrap 9 = .ok (.iconst 0, 1) := by decide +kernel
theorem dX0_wrap_10 : decode cX0_wrap 10 = .ok (.lload_n 3, 1) := by decide +kernel
theorem dX0_wrap_11 : decode cX0_wrap 11 = .ok (.lload_n 1, 1) := by decide +kernel
theorem dX0_wrap_12 : decode cX0_wrap 12 = .ok (.lconst 1, 1) := by decide +kernel
theorem dX0_wrap_13 : decode cX0_wrap 13 = .ok (.invokestatic 19, 3) := by decide +kernel
theorem dX0_wrap_16 : decode cX0_wrap 16 = .ok (.lxor, 1) := by decide +kernel
theorem dX0_wrap_17 : decode cX0_wrap 17 = .ok (.lastore, 1) := by decide +kernel
theorem dX0_wrap_18 : decode cX0_wrap 18 = .ok (.aload_n 0, 1) := by decide +kernel
theorem dX0_wrap_19 : decode cX0_wrap 19 = .ok (.getfield 9, 3) := by decide +kernel
theorem dX0_wrap_22 : decode cX0_wrap 22 = .ok (.iconst 1, 1) := by decide +kernel
theorem dX0_wrap_23 : decode cX0_wrap 23 = .ok (.iload 5, 2) := by decide +kernel
theorem dX0_wrap_25 : decode cX0_wrap 25 = .ok (.i2l, 1) := by decide +kernel
theorem dX0_wrap_26 : decode cX0_wrap 26 = .ok (.lload_n 1, 1) := by decide +kernel
theorem dX0_wrap_27 : decode cX0_wrap 27 = .ok (.ldc2_w 23, 3) := by decide +kernel
theorem dX0_wrap_30 : decode cX0_wrap 30 = .ok (.invokestatic 19, 3) := by decide +kernel
theorem dX0_wrap_33 : decode cX0_wrap 33 = .ok (.lxor, 1) := by decide +kernel
theorem dX0_wrap_34 : decode cX0_wrap 34 = .ok (.lastore, 1) := by decide +kernel
theorem dX0_wrap_35 : decode cX0_wrap 35 = .ok (.aload_n 0, 1) := by decide +kernel
theorem dX0_wrap_36 : decode cX0_wrap 36 = .ok (.getfield 9, 3) := by decide +kernel
theorem dX0_wrap_39 : decode cX0_wrap 39 = .ok (.iconst 2, 1) := by decide +kernel
theorem dX0_wrap_40 : decode cX0_wrap 40 = .ok (.lload 6, 2) := by decide +kernel
theorem dX0_wrap_42 : decode cX0_wrap 42 = .ok (.lastore, 1) := by decide +kernel
theorem dX0_wrap_43 : decode cX0_wrap 43 = .ok (.aload_n 0, 1) := by decide +kernel
theorem dX0_wrap_44 : decode cX0_wrap 44 = .ok (.getfield 9, 3) := by decide +kernel
theorem dX0_wrap_47 : decode cX0_wrap 47 = .ok (.iconst 3, 1) := by decide +kernel
theorem dX0_wrap_48 : decode cX0_wrap 48 = .ok (.aload_n 0, 1) := by decide +kernel
theorem dX0_wrap_49 : decode cX0_wrap 49 = .ok (.lload_n 1, 1) := by decide +kernel
theorem dX0_wrap_50 : decode cX0_wrap 50 = .ok (.invokevirtual 25, 3) := by decide +kernel
theorem dX0_wrap_53 : decode cX0_wrap 53 = .ok (.lastore, 1) := by decide +kernel
theorem dX0_wrap_54 : decode cX0_wrap 54 = .ok (.return_, 1) := by decide +kernel
theorem dX0_sealUnder_0 : decode cX0_sealUnder 0 = .ok (.lload_n 1, 1) := by decide +kernel
theorem dX0_sealUnder_1 : decode cX0_sealUnder 1 = .ok (.ldc2_w 29, 3) := by decide +kernel
theorem dX0_sealUnder_4 : decode cX0_sealUnder 4 = .ok (.invokestatic 19, 3) := by decide +kernel
theorem dX0_sealUnder_7 : decode cX0_sealUnder 7 = .ok (.aload_n 0, 1) := by decide +kernel
theorem dX0_sealUnder_8 : decode cX0_sealUnder 8 = .ok (.getfield 9, 3) := by decide +kernel
theorem dX0_sealUnder_11 : decode cX0_sealUnder 11 = .ok (.iconst 0, 1) := by decide +kernel
theorem dX0_sealUnder_12 : decode cX0_sealUnder 12 = .ok (.laload, 1) := by decide +kernel
theorem dX0_sealUnder_13 : decode cX0_sealUnder 13 = .ok (.aload_n 0, 1) := by decide +kernel
theorem dX0_sealUnder_14 : decode cX0_sealUnder 14 = .ok (.getfield 9, 3) := by decide +kernel
theorem dX0_sealUnder_17 : decode cX0_sealUnder 17 = .ok (.iconst 1, 1) := by decide +kernel
theorem dX0_sealUnder_18 : decode cX0_sealUnder 18 = .ok (.laload, 1) := by decide +kernel
theorem dX0_sealUnder_19 : decode cX0_sealUnder 19 = .ok (.invokestatic 19, 3) := by decide +kernel
theorem dX0_sealUnder_22 : decode cX0_sealUnder 22 = .ok (.aload_n 0, 1) := by decide +kernel
theorem dX0_sealUnder_23 : decode cX0_sealUnder 23 = .ok (.getfield 9, 3) := by decide +kernel
theorem dX0_sealUnder_26 : decode cX0_sealUnder 26 = .ok (.iconst 2, 1) := by decide +kernel
theorem dX0_sealUnder_27 : decode cX0_sealUnder 27 = .ok (.laload, 1) := by decide +kernel
theorem dX0_sealUnder_28 : decode cX0_sealUnder 28 = .ok (.invokestatic 19, 3) := by decide +kernel
theorem dX0_sealUnder_31 : decode cX0_sealUnder 31 = .ok (.invokestatic 19, 3) := by decide +kernel
theorem dX0_sealUnder_34 : decode cX0_sealUnder 34 = .ok (.lreturn, 1) := by decide +kernel
theorem dX0_secretUnder_0 : decode cX0_secretUnder 0 = .ok (.aload_n 0, 1) := by decide +kernel
theorem dX0_secretUnder_1 : decode cX0_secretUnder 1 = .ok (.getfield 9, 3) := by decide +kernel
theorem dX0_secretUnder_4 : decode cX0_secretUnder 4 = .ok (.iconst 0, 1) := by decide +kernel
theorem dX0_secretUnder_5 : decode cX0_secretUnder 5 = .ok (.laload, 1) := by decide +kernel
theorem dX0_secretUnder_6 : decode cX0_secretUnder 6 = .ok (.lload_n 1, 1) := by decide +kernel
theorem dX0_secretUnder_7 : decode cX0_secretUnder 7 = .ok (.lconst 1, 1) := by decide +kernel
theorem dX0_secretUnder_8 : decode cX0_secretUnder 8 = .ok (.invokestatic 19, 3) := by decide +kernel
theorem dX0_secretUnder_11 : decode cX0_secretUnder 11 = .ok (.lxor, 1) := by decide +kernel
theorem dX0_secretUnder_12 : decode cX0_secretUnder 12 = .ok (.lreturn, 1) := by decide +kernel
theorem dX0_wordUnder_0 : decode cX0_wordUnder 0 = .ok (.aload_n 0, 1) := by decide +kernel
theorem dX0_wordUnder_1 : decode cX0_wordUnder 1 = .ok (.getfield 9, 3) := by decide +kernel
theorem dX0_wordUnder_4 : decode cX0_wordUnder 4 = .ok (.iconst 1, 1) := by decide +kernel
theorem dX0_wordUnder_5 : decode cX0_wordUnder 5 = .ok (.laload, 1) := by decide +kernel
theorem dX0_wordUnder_6 : decode cX0_wordUnder 6 = .ok (.lload_n 1, 1) := by decide +kernel
theorem dX0_wordUnder_7 : decode cX0_wordUnder 7 = .ok (.ldc2_w 23, 3) := by decide +kernel
theorem dX0_wordUnder_10 : decode cX0_wordUnder 10 = .ok (.invokestatic 19, 3) := by decide +kernel
theorem dX0_wordUnder_13 : decode cX0_wordUnder 13 = .ok (.lxor, 1) := by decide +kernel
theorem dX0_wordUnder_14 : decode cX0_wordUnder 14 = .ok (.l2i, 1) := by decide +kernel
theorem dX0_wordUnder_15 : decode cX0_wordUnder 15 = .ok (.ireturn, 1) := by decide +kernel
theorem dX3_init_0 : decode cX3_init 0 = .ok (.aload_n 0, 1) := by decide +kernel
theorem dX3_init_1 : decode cX3_init 1 = .ok (.invokespecial 1, 3) := by decide +kernel
theorem dX3_init_4 : decode cX3_init 4 = .ok (.return_, 1) := by decide +kernel
theorem dX3_beginAnew_0 : decode cX3_beginAnew 0 = .ok (.aload_n 0, 1) := by decide +kernel
theorem dX3_beginAnew_1 : decode cX3_beginAnew 1 = .ok (.lconst 0, 1) := by decide +kernel
theorem dX3_beginAnew_2 : decode cX3_beginAnew 2 = .ok (.putfield 7, 3) := by decide +kernel
theorem dX3_beginAnew_5 : decode cX3_beginAnew 5 = .ok (.aload_n 0, 1) := by decide +kernel
theorem dX3_beginAnew_6 : decode cX3_beginAnew 6 = .ok (.iconst 0, 1) := by decide +kernel
theorem dX3_beginAnew_7 : decode cX3_beginAnew 7 = .ok (.putfield 13, 3) := by decide +kernel
theorem dX3_beginAnew_10 : decode cX3_beginAnew 10 = .ok (.aload_n 0, 1) := by decide +kernel
theorem dX3_beginAnew_11 : decode cX3_beginAnew 11 = .ok (.iconst 0, 1) := by decide +kernel
theorem dX3_beginAnew_12 : decode cX3_beginAnew 12 = .ok (.putfield 17, 3) := by decide +kernel
theorem dX3_beginAnew_15 : decode cX3_beginAnew 15 = .ok (.return_, 1) := by decide +kernel
theorem dX1_init_0 : decode cX1_init 0 = .ok (.aload_n 0, 1) := by decide +kernel
theorem dX1_init_1 : decode cX1_init 1 = .ok (.invokespecial 1, 3) := by decide +kernel
theorem dX1_init_4 : decode cX1_init 4 = .ok (.return_, 1) := by decide +kernel
theorem dX1_begin_0 : decode cX1_begin 0 = .ok (.aload_n 0, 1) := by decide +kernel
theorem dX1_begin_1 : decode cX1_begin 1 = .ok (.iconst 1, 1) := by decide +kernel
theorem dX1_begin_2 : decode cX1_begin 2 = .ok (.putfield 7, 3) := by decide +kernel
theorem dX1_begin_5 : decode cX1_begin 5 = .ok (.aload_n 0, 1) := by decide +kernel
theorem dX1_begin_6 : decode cX1_begin 6 = .ok (.iload_n 1, 1) := by decide +kernel
theorem dX1_begin_7 : decode cX1_begin 7 = .ok (.putfield 13, 3) := by decide +kernel
theorem dX1_begin_10 : decode cX1_begin 10 = .ok (.aload_n 0, 1) := by decide +kernel
theorem dX1_begin_11 : decode cX1_begin 11 = .ok (.lload_n 2, 1) := by decide +kernel
theorem dX1_begin_12 : decode cX1_begin 12 = .ok (.putfield 16, 3) := by decide +kernel
theorem dX1_begin_15 : decode cX1_begin 15 = .ok (.aload_n 0, 1) := by decide +kernel
theorem dX1_begin_16 : decode cX1_begin 16 = .ok (.iconst 0, 1) := by decide +kernel
theorem dX1_begin_17 : decode cX1_begin 17 = .ok (.putfield 20, 3) := by decide +kernel
theorem dX1_begin_20 : decode cX1_begin 20 = .ok (.aload_n 0, 1) := by decide +kernel
theorem dX1_begin_21 : decode cX1_begin 21 = .ok (.lconst 0, 1) := by decide +kernel
theorem dX1_begin_22 : decode cX1_begin 22 = .ok (.putfield 23, 3) := by decide +kernel
theorem dX1_begin_25 : decode cX1_begin 25 = .ok (.return_, 1) := by decide +kernel
end
section
/-! Doubles: the clock and the mark are numbers from +0 to +infinity, the rate is finite: no sum and no product of theirs is a NaN. -/
def tm_pn (x : UInt64) : Prop := x.toNat ≤ 9218868437227405312
def tm_pf (x : UInt64) : Prop := x.toNat < 9218868437227405312
theorem tm_pf.n {x : UInt64} (h : tm_pf x) : tm_pn x := Nat.le_of_lt h
theorem tm_pn.v {x : UInt64} (h : tm_pn x) : vf_n64 x := by
  unfold vf_n64
  rw [UInt64.le_iff_toNat_le, UInt64.toNat_and]
  have h1 : (0x7fffffffffffffff : UInt64).toNat = 2 ^ 63 - 1 := by decide
  have h2 : (0x7ff0000000000000 : UInt64).toNat = 9218868437227405312 := by decide
  rw [h1, h2, Nat.and_two_pow_sub_one_eq_mod]
  have h3 : x.toNat ≤ 9218868437227405312 := h
  omega
theorem tm_dec {n : Nat} (h : n ≤ 9218868437227405312) : FP.Core.decode FP.Core.b64 n = .inf false ∨ ∃ (c : Nat) (q : Int), FP.Core.decode FP.Core.b64 n = .fin false c q := by
  have hS : FP.Core.fieldS FP.Core.b64 n = false := by
    simp only [FP.Core.fieldS, FP.Core.b64, FP.Core.Fmt.tails, FP.Core.Fmt.exps]
    have : n / 2 ^ (53 - 1) / 2 ^ 11 = 0 := by omega
    rw [this]; rfl
  unfold FP.Core.decode
  rw [hS]
  by_cases h1 : FP.Core.fieldE FP.Core.b64 n = FP.Core.b64.exps - 1
  · rw [if_pos h1]
    have h2 : FP.Core.fieldT FP.Core.b64 n = 0 := by
      simp only [FP.Core.fieldE, FP.Core.fieldT, FP.Core.b64, FP.Core.Fmt.tails, FP.Core.Fmt.exps] at h1 ⊢
      omega
    rw [if_pos h2]
    exact Or.inl rfl
  · rw [if_neg h1]
    by_cases h3 : FP.Core.fieldE FP.Core.b64 n = 0
    · rw [if_pos h3]; exact Or.inr ⟨_, _, rfl⟩
    · rw [if_neg h3]; exact Or.inr ⟨_, _, rfl⟩
theorem tm_decf {n : Nat} (h : n < 9218868437227405312) : ∃ (c : Nat) (q : Int), FP.Core.decode FP.Core.b64 n = .fin false c q := by
  rcases tm_dec (Nat.le_of_lt h) with h1 | h1
  · exfalso
    have h2 : ¬ FP.Core.fieldE FP.Core.b64 n = FP.Core.b64.exps - 1 := by
      simp only [FP.Core.fieldE, FP.Core.b64, FP.Core.Fmt.tails, FP.Core.Fmt.exps]
      omega
    unfold FP.Core.decode at h1
    rw [if_neg h2] at h1
    split at h1 <;> cases h1
  · exact h1
theorem tm_encF {c : Nat} {q : Int} (hc : c < 2 ^ 53) (hq : q ≤ 971) : FP.Core.encode FP.Core.b64 (.fin false c q) ≤ 9218868437227405312 := by
  have h1 : (q - (-1074)).toNat ≤ 2045 := by omega
  by_cases h : c < FP.Core.b64.tails
  · have e : FP.Core.encode FP.Core.b64 (.fin false c q) = FP.Core.assemble FP.Core.b64 false 0 c := if_pos h
    have e2 : FP.Core.assemble FP.Core.b64 false 0 c = c := by simp [FP.Core.assemble]
    have h2 : c < 4503599627370496 := h
    rw [e, e2]; omega
  · have e : FP.Core.encode FP.Core.b64 (.fin false c q) = FP.Core.assemble FP.Core.b64 false ((q - FP.Core.b64.qmin).toNat + 1) (c - FP.Core.b64.tails) := if_neg h
    have e2 : FP.Core.assemble FP.Core.b64 false ((q - FP.Core.b64.qmin).toNat + 1) (c - FP.Core.b64.tails) = ((q - (-1074)).toNat + 1) * 4503599627370496 + (c - 4503599627370496) := by
      show (0 * _ + ((q - FP.Core.b64.qmin).toNat + 1)) * 4503599627370496 + (c - 4503599627370496) = _
      rw [Nat.zero_mul, Nat.zero_add, show FP.Core.b64.qmin = -1074 from by decide]
    have h2 : ¬ c < 4503599627370496 := h
    rw [e, e2]; omega
theorem tm_encR (num den : Nat) (e : Int) : FP.Core.encode FP.Core.b64 (FP.Core.roundRatio FP.Core.b64 false num den e) ≤ 9218868437227405312 := by
  have hb : ∀ (c : Nat) (q : Int), c < 2 ^ 53 → FP.Core.encode FP.Core.b64 (FP.Core.bound FP.Core.b64 false c q) ≤ 9218868437227405312 := by
    intro c q hc
    unfold FP.Core.bound
    split
    · rename_i h
      exact tm_encF hc (by simpa [FP.Core.b64, FP.Core.Fmt.qmax, FP.Core.Fmt.emax] using h)
    · decide
  unfold FP.Core.roundRatio
  split
  · decide
  · unfold FP.Core.roundAt FP.Core.settle
    split
    · rename_i h
      exact hb _ _ (by simpa [FP.Core.b64] using h)
    · exact hb _ _ (by decide)
theorem tm_ofNat {n : Nat} (h : n ≤ 9218868437227405312) : tm_pn (UInt64.ofNat n) := by
  unfold tm_pn
  rw [UInt64.toNat_ofNat']
  omega
theorem tm_dadd {x y : UInt64} (hx : tm_pn x) (hy : tm_pn y) : tm_pn (FP.dadd x y) := by
  refine tm_ofNat ?_
  unfold FP.Core.add
  rcases tm_dec hx with h1 | ⟨c, q, h1⟩ <;> rcases tm_dec hy with h2 | ⟨d, r, h2⟩ <;> rw [h1, h2]
  · show FP.Core.encode FP.Core.b64 (.inf false) ≤ _
    decide
  · show FP.Core.encode FP.Core.b64 (.inf false) ≤ _
    decide
  · show FP.Core.encode FP.Core.b64 (.inf false) ≤ _
    decide
  · have hv : FP.Core.sumSign false false (FP.Core.sumUnits false c q false d r (min q r)) = false := by
      have e1 : FP.Core.sumUnits false c q false d r (min q r) = ((FP.Core.inUnits c q (min q r) + FP.Core.inUnits d r (min q r) : Nat) : Int) := by
        simp [FP.Core.sumUnits, FP.Core.signed]
      rw [e1]
      generalize FP.Core.inUnits c q (min q r) + FP.Core.inUnits d r (min q r) = n
      unfold FP.Core.sumSign
      split
      · rfl
      · exact decide_eq_false (by omega)
    simp only [FP.Core.exactSum, FP.Core.round, hv]
    exact tm_encR _ _ _
theorem tm_dmul {x y : UInt64} (hx : tm_pf x) (hy : tm_pf y) : tm_pn (FP.dmul x y) := by
  refine tm_ofNat ?_
  unfold FP.Core.mul
  obtain ⟨c, q, h1⟩ := tm_decf hx
  obtain ⟨d, r, h2⟩ := tm_decf hy
  rw [h1, h2]
  exact tm_encR _ _ _
theorem tm_i2d : ∀ k : Nat, k < 101 → tm_pf (FP.i2d (nI k)) := by
  unfold tm_pf
  decide +kernel
theorem tm_self {x : UInt64} (h : tm_pn x) : FP.dcmp x x = some .eq := by
  show FP.Core.order (FP.Core.decode FP.Core.b64 x.toNat) (FP.Core.decode FP.Core.b64 x.toNat) = some .eq
  rcases tm_dec h with h1 | ⟨c, q, h1⟩
  · rw [h1]; rfl
  · rw [h1]; simp [FP.Core.order]
/-- a product that isn't above 4.0 is finite -/
theorem tm_fin4 {x : UInt64} (h : tm_pn x) (h4 : ¬ (0 : Int32) < Op.cmpValue (FP.dcmp x 4616189618054758400) .g) : tm_pf x := by
  rcases Nat.lt_or_ge x.toNat 9218868437227405312 with h1 | h1
  · exact h1
  · exfalso
    have h2 : x.toNat = 9218868437227405312 := Nat.le_antisymm h h1
    have h3 : x = 9218868437227405312 := UInt64.toNat_inj.mp h2
    subst h3
    exact h4 (by decide +kernel)
end
section
/-! Contracts over a world that is a list of cells: what a method answers and what the list is behind it; or which exception it throws. -/
section KQ
def kq_ok (G : (Nat → Prop) → State → Prop) : Prop := ∀ (A : Nat → Prop) (s U : State), s.WarmedH U.vm → (∀ q : Nat, q < s.heap.size → ¬ A q → U.heap[q]? = s.heap[q]?) → G A s → G A U
def kq_P (D : va_G) (cl : List vw_C) (tys : List (ClassId × FieldType)) (G : (Nat → Prop) → State → Prop) (A : Nat → Prop) (w : va_W) (U : State) : Prop :=
  va_P D cl w U.heap ∧ va_K D cl tys U ∧ va_D A w ∧ (∀ q : Nat, U.heap.size ≤ q → A q) ∧ G A U
def kq_Q (D : va_G) (cl : List vw_C) (A : Nat → Prop) (w' : va_W) (rv : Option Value) (st : State) (o : Outcome) (t : State) : Prop :=
  o = .returned rv ∧ va_P D cl w' t.heap ∧ va_D A w' ∧ va_F A st t
def kq_X (D : va_G) (cl : List vw_C) (A : Nat → Prop) (w' : va_W) (E : String) : String → State → State → Prop := fun E' st t =>
  E' = E ∧ va_P D cl w' t.heap ∧ va_D A w' ∧ va_F A st t
/-- it returns rv, and the list is w' then -/
def kq_M (l : Launch) (y : MethodName) (ws : List Cond) (rm : Room) (As : List Value) (D : va_G) (cl : List vw_C) (tys : List (ClassId × FieldType)) (G : (Nat → Prop) → State → Prop) (w w' : va_W) (rv : Option Value) : Prop :=
  ∀ A : Nat → Prop, Met l y ws rm (va_Pc As (kq_P D cl tys G A w)) (fun _ => kq_Q D cl A w' rv) 0 0 A
/-- it throws an E, and the list is w' then -/
def kq_T (l : Launch) (y : MethodName) (ws : List Cond) (rm : Room) (As : List Value) (D : va_G) (cl : List vw_C) (tys : List (ClassId × FieldType)) (G : (Nat → Prop) → State → Prop) (w w' : va_W) (E : String) : Prop :=
  ∀ A : Nat → Prop, vx_Met l y ws rm (va_Pc As (kq_P D cl tys G A w)) (fun _ _ _ _ => False) (kq_X D cl A w' E) 1 6 A
theorem kq_blind {As : List Value} {D : va_G} {cl : List vw_C} {tys : List (ClassId × FieldType)} {G : (Nat → Prop) → State → Prop} {A : Nat → Prop} {w : va_W} (hok : kq_ok G) : FrameBlind (va_Pc As (kq_P D cl tys G A w)) := by
  intro a U g mk ⟨h0, hP, hK, hD, hA, hG⟩
  exact ⟨h0, hP, va_K.moved (u := U) (U := U.calling g mk a) (Vm.Alike.refl U.vm) hK, hD, hA, hok A U (U.calling g mk a) (State.WarmedH.refl U) (fun _ _ _ => rfl) hG⟩
variable {l : Launch} {y : MethodName} {ws : List Cond} {rm : Room} {As : List Value} {D : va_G} {cl : List vw_C} {tys : List (ClassId × FieldType)} {G : (Nat → Prop) → State → Prop} {w w' : va_W} {rv : Option Value} {E : String}
theorem kq_ofW {cc : ByteArray} {maxL : Nat} {ret : Option FieldType} {R0 : String} (hy : plainName y.cls = true) (hw : ws = Cond.code y cc maxL ret :: tm_B) (hR : y.cls = R0) (hn : (lg_sl As).length ≤ maxL)
    (body : ∀ (p : Program) (e : Env) (s : State) (m : MethodId) (below : List Frame) (meth : Method) (c : Code) (A : Nat → Prop) (ls : Array Slot), p.tables.exec = Jvm.exec → c.code = cc → meth.sig.returnType = ret → meth.locks = false → c.maxLocals = maxL → s.vm.findClass R0 = some m.cls → (∀ w ∈ tm_B, w.before As.toArray s = true) →
      va_P D cl w s.heap → va_K D cl tys s → va_D A w → (∀ q : Nat, s.heap.size ≤ q → A q) → G A s → va_S A s.heap s.heap [] → lv_has ls maxL (lv_args 0 As) →
      W p l e rm s m As.toArray below meth c s.heap [] 0 0 (MQ below (fun _ => kq_Q D cl A w' rv) As.toArray s 0 0 A) (F0 m 0 ls [])) : kq_M l y ws rm As D cl tys G w w' rv := by
  intro A
  refine Met.ofW (cc := cc) (maxL := maxL) (ret := ret) hy hw ?_
  intro p e s m args below meth c s₁ B hml hv
  obtain ⟨rfl, hP, hK, hD, hA, hG⟩ := hv
  have hl := lv_entry As (n := maxL) hn
  rw [lg_entry_eq]
  exact body p e s m below meth c A _ B.exec B.bytes B.returns B.notSynchronized hml (by rw [← hR]; exact findClass_of_methodNamed B.named) (fun w9 h9 => atoms_spec (ws := ws) B.pre w9 (by rw [hw]; exact List.mem_cons_of_mem _ h9)) hP hK hD hA hG va_S.rf hl
theorem kq_ofT {cc : ByteArray} {maxL : Nat} {ret : Option FieldType} {R0 : String} (hy : plainName y.cls = true) (hw : ws = Cond.code y cc maxL ret :: tm_B) (hR : y.cls = R0) (hn : (lg_sl As).length ≤ maxL)
    (body : ∀ (p : Program) (e : Env) (s : State) (m : MethodId) (below : List Frame) (meth : Method) (c : Code) (A : Nat → Prop) (ls : Array Slot), p.tables.exec = Jvm.exec → c.code = cc → meth.sig.returnType = ret → meth.locks = false → c.maxLocals = maxL → s.vm.findClass R0 = some m.cls → (∀ w ∈ tm_B, w.before As.toArray s = true) →
      va_P D cl w s.heap → va_K D cl tys s → va_D A w → (∀ q : Nat, s.heap.size ≤ q → A q) → G A s → va_S A s.heap s.heap [] → lv_has ls maxL (lv_args 0 As) → (∀ x ∈ c.exceptionTable.toList, False) →
      W p l e rm s m As.toArray below meth c s.heap [] 0 0 (vx_MQ below (fun _ _ _ _ => False) (kq_X D cl A w' E) As.toArray s 1 6 A) (F0 m 0 ls [])) : kq_T l y ws rm As D cl tys G w w' E := by
  intro A
  refine vx_ofW (cc := cc) (maxL := maxL) (ret := ret) hy hw ?_
  intro p e s m args below meth c s₁ B hml hEx hv
  obtain ⟨rfl, hP, hK, hD, hA, hG⟩ := hv
  have hl := lv_entry As (n := maxL) hn
  rw [lg_entry_eq]
  exact body p e s m below meth c A _ B.exec B.bytes B.returns B.notSynchronized hml (by rw [← hR]; exact findClass_of_methodNamed B.named) (fun w9 h9 => atoms_spec (ws := ws) B.pre w9 (by rw [hw]; exact List.mem_cons_of_mem _ h9)) hP hK hD hA hG va_S.rf hl hEx
end KQ
section KR
variable {p : Program} {l : Launch} {e : Env} {R : Room} {s : State} {m : MethodId} {args : Array Value} {below : List Frame} {meth : Method} {c : Code} {H : Heap} {locs : List Loc} {cells slots : Nat} {Q : State → Prop}
variable {cc : ByteArray} {pc : Nat} {ls : Array Slot} {rest st0 : List Value} {D : va_G} {cl : List vw_C} {A : Nat → Prop} {a : Nat} {tys : List (ClassId × FieldType)} {w w' : va_W} {G : (Nat → Prop) → State → Prop} {rv : Option Value} {E : String}
-- ends
theorem kq_vret (hx : p.tables.exec = Jvm.exec) (hb : c.code = cc) (hr : meth.sig.returnType = none) (hlk : meth.locks = false) (hP : va_P D cl w' H) (hD : va_D A w') (hS : va_S A s.heap H locs) (hdg : decode cc pc = .ok (.return_, 1)) :
    W p l e R s m args below meth c H locs cells slots (MQ below (fun _ => kq_Q D cl A w' none) args s cells slots A) (F0 m pc ls []) :=
  W.vret hx hb hr (fun t ht hW => ⟨rfl, by rw [ht]; exact hP, hD, hS.F ht⟩) hS.2.2 hdg hlk
theorem kq_iret {v : Int32} (hx : p.tables.exec = Jvm.exec) (hb : c.code = cc) (hr : meth.sig.returnType = some .int) (hlk : meth.locks = false) (hP : va_P D cl w' H) (hD : va_D A w') (hS : va_S A s.heap H locs) (hdg : decode cc pc = .ok (.ireturn, 1)) :
    W p l e R s m args below meth c H locs cells slots (MQ below (fun _ => kq_Q D cl A w' (some (.int v))) args s cells slots A) (F0 m pc ls [.int v]) :=
  W.iret hx hb hr (fun t ht hW => ⟨rfl, by rw [ht]; exact hP, hD, hS.F ht⟩) hS.2.2 hdg hlk
theorem kq_zret {v : Int32} (hx : p.tables.exec = Jvm.exec) (hb : c.code = cc) (hr : meth.sig.returnType = some .boolean) (hv : narrow .boolean (.int v) = .int v) (hlk : meth.locks = false) (hP : va_P D cl w' H) (hD : va_D A w') (hS : va_S A s.heap H locs) (hdg : decode cc pc = .ok (.ireturn, 1)) :
    W p l e R s m args below meth c H locs cells slots (MQ below (fun _ => kq_Q D cl A w' (some (.int v))) args s cells slots A) (F0 m pc ls [.int v]) :=
  W.zret hx hb hr hv (fun t ht hW => ⟨rfl, by rw [ht]; exact hP, hD, hS.F ht⟩) hS.2.2 hdg hlk
theorem kq_lret {v : Int64} (hx : p.tables.exec = Jvm.exec) (hb : c.code = cc) (hr : meth.sig.returnType = some .long) (hlk : meth.locks = false) (hP : va_P D cl w' H) (hD : va_D A w') (hS : va_S A s.heap H locs) (hdg : decode cc pc = .ok (.lreturn, 1)) :
    W p l e R s m args below meth c H locs cells slots (MQ below (fun _ => kq_Q D cl A w' (some (.long v))) args s cells slots A) (F0 m pc ls [.long v]) :=
  W.lret hx hb hr (fun t ht hW => ⟨rfl, by rw [ht]; exact hP, hD, hS.F ht⟩) hS.2.2 hdg hlk
theorem kq_dret {v : UInt64} (hx : p.tables.exec = Jvm.exec) (hb : c.code = cc) (hr : meth.sig.returnType = some .double) (hlk : meth.locks = false) (hP : va_P D cl w' H) (hD : va_D A w') (hS : va_S A s.heap H locs) (hdg : decode cc pc = .ok (.dreturn, 1)) :
    W p l e R s m args below meth c H locs cells slots (MQ below (fun _ => kq_Q D cl A w' (some (.double v))) args s cells slots A) (F0 m pc ls [.double v]) :=
  W.dret hx hb hr (fun t ht hW => ⟨rfl, by rw [ht]; exact hP, hD, hS.F ht⟩) hS.2.2 hdg hlk
theorem kq_aret {v : Nat} {C : String} (hx : p.tables.exec = Jvm.exec) (hb : c.code = cc) (hr : meth.sig.returnType = some (.object C)) (hlk : meth.locks = false) (hP : va_P D cl w' H) (hD : va_D A w') (hS : va_S A s.heap H locs) (hdg : decode cc pc = .ok (.areturn, 1)) :
    W p l e R s m args below meth c H locs cells slots (MQ below (fun _ => kq_Q D cl A w' (some (.ref v))) args s cells slots A) (F0 m pc ls [.ref v]) :=
  W.aret hx hb hr (Or.inl ⟨C, rfl⟩) (Or.inr ⟨v, rfl⟩) (fun t ht hW => ⟨rfl, by rw [ht]; exact hP, hD, hS.F ht⟩) hS.2.2 hdg hlk
-- calls
theorem kq_call {mc ms : Nat} {st1 : List Value} (hr : va_Run p l e R s m args below meth c H locs cells slots mc ms (F0 m pc ls st0) rest (kq_Q D cl A w' rv) A) (hS : va_S A s.heap H locs) (h1 : rv.toList ++ rest = st1)
    (kk : ∀ (H1 : Heap) (locs1 : List Loc), va_P D cl w' H1 → va_D A w' → va_S A s.heap H1 locs1 → W p l e R s m args below meth c H1 locs1 (cells + mc) (slots + ms) Q (F0 m (pc + 3) ls st1)) : W p l e R s m args below meth c H locs cells slots Q (F0 m pc ls st0) := by
  intro T hT X
  obtain ⟨v, st₀, t, T', L, h0, X', hL, e1, e2, ⟨hv, hP, hD, hF⟩, st⟩ := hr T hT X
  cases hv
  obtain ⟨k1, k2, k3⟩ := vx_keep h0 e1 hS (fun _ _ h => h) (fun _ h => h) hL hF
  subst h1
  obtain ⟨t2, a1, b1⟩ := kk T'.heap (locs ++ L) (by rw [e1]; exact hP) hD k3 T' rfl X'
  exact ⟨t2, st t2 a1, b1⟩
/-- the callee throws, and this method has no table -/
theorem kq_gone {mc ms : Nat} (hr : vx_Run p l e R s m args below meth c H locs cells slots mc ms (F0 m pc ls st0) rest (fun _ _ _ => False) (kq_X D cl A w' E) A) (hS : va_S A s.heap H locs) (hlk : meth.locks = false) (hEx : ∀ x ∈ c.exceptionTable.toList, False) {kc ks : Nat} (hc : cells + mc ≤ kc) (hs : slots + ms ≤ ks) :
    W p l e R s m args below meth c H locs cells slots (vx_MQ below (fun _ _ _ _ => False) (kq_X D cl A w' E) args s kc ks A) (F0 m pc ls st0) := by
  intro T hT X
  rcases hr T hT X with ⟨v, st₀, t, T', L, h0, X', hL, e1, e2, hF, st⟩ | ⟨q, st₀, t, T', L, E', ce, h0, X', hL, e1, e2, ⟨rfl, hP, hD, hF⟩, hce, hcv, hcl, st⟩
  · exact hF.elim
  · obtain ⟨k1, k2, k3⟩ := vx_keep h0 e1 hS (fun _ _ h => h) (fun _ h => h) hL hF
    have ho : vx_W p l e R s m args below meth c T'.heap (locs ++ L) (cells + mc) (slots + ms) (vx_MQ below (fun _ _ _ _ => False) (kq_X D cl A w' E') args s kc ks A) (F0 m pc ls rest) q :=
      vx_out (E := E') (ce := ce) (fun x hx => (hEx x hx).elim) hlk (by rw [e1]; exact hce) hcv hcl (fun u hu _ => ⟨rfl, by rw [hu, e1]; exact hP, hD, k3.F hu⟩) k3.2.2 hc hs
    obtain ⟨t2, a1, b1⟩ := ho T' rfl X'
    exact ⟨t2, st.trans a1, b1⟩
/-- what a callee asks, out of what stands here -/
theorem kq_pre (hK : va_K D cl tys s) (hP : va_P D cl w H) (hD : va_D A w) (hA : ∀ q : Nat, s.heap.size ≤ q → A q) (hok : kq_ok G) (hG : G A s) (hS : va_S A s.heap H locs) {As : List Value} : ∀ U : State, U.heap = H → s.WarmedH U.vm → va_Pc As (kq_P D cl tys G A w) As.toArray U := by
  intro U hU hW
  exact ⟨rfl, by rw [hU]; exact hP, va_K.moved hW.alike hK, hD, fun q hq => hA q (by rw [hU] at hq; exact Nat.le_trans hS.1 hq), hok A s U hW (fun q h1 h2 => by rw [hU]; exact hS.2.1 q h1 h2) hG⟩
variable {y : MethodName} {bytes : ByteArray} {maxL nL n index : Nat} {ret : Option FieldType} {wy : List Cond} {ry : Room} {Ts : List Cond} {own C host : String} {b : Nat} {As : List Value}
theorem kq_cS {st1 : List Value} (S : CallFix p m c cc nL s args Ts own) (hM : kq_M l y wy ry As D cl tys G w w' rv) (cw : CallB R s args own index y bytes maxL ret wy ry 0 0 n ∧ (Cond.static y).before args s = true) (hok : kq_ok G)
    (hK : va_K D cl tys s) (hP : va_P D cl w H) (hD : va_D A w) (hA : ∀ q : Nat, s.heap.size ≤ q → A q) (hG : G A s) (hS : va_S A s.heap H locs)
    (hn : As.length = n) (hsize : ls.size = nL) (hst : st0 = As.reverse ++ rest) (h1 : rv.toList ++ rest = st1) (hW : (rest.map fun v => v.category).sum ≤ 8) (hdg : decode cc pc = .ok (.invokestatic index, 3)) (hf : cells ≤ R.cells ∧ slots ≤ R.slots)
    (kk : ∀ (H1 : Heap) (locs1 : List Loc), va_P D cl w' H1 → va_D A w' → va_S A s.heap H1 locs1 → W p l e R s m args below meth c H1 locs1 cells slots Q (F0 m (pc + 3) ls st1)) : W p l e R s m args below meth c H locs cells slots Q (F0 m pc ls st0) :=
  kq_call (va_runS S (hM A) cw ⟨kq_blind hok, kq_pre hK hP hD hA hok hG hS⟩ rfl hn hsize hst (lv_room hW) hdg hf) hS h1 kk
theorem kq_cV {st1 : List Value} (S : CallFix p m c cc nL s args Ts own) (hM : kq_M l y wy ry (.ref b :: As) D cl tys G w w' rv) (cw : CallW R s args own C index y bytes maxL ret wy ry 0 0 n) (hok : kq_ok G)
    (hK : va_K D cl tys s) (hP : va_P D cl w H) (hD : va_D A w) (hA : ∀ q : Nat, s.heap.size ≤ q → A q) (hG : G A s) (hS : va_S A s.heap H locs)
    (hc : ∃ cell : Cell, H[b]? = some cell ∧ cell.vm.isStatics = false ∧ s.vm.findClass C = some cell.cls)
    (hn : As.length = n) (hsize : ls.size = nL) (hst : st0 = As.reverse ++ .ref b :: rest) (h1 : rv.toList ++ rest = st1) (hW : (rest.map fun v => v.category).sum ≤ 8) (hdg : decode cc pc = .ok (.invokevirtual index, 3)) (hf : cells ≤ R.cells ∧ slots ≤ R.slots)
    (kk : ∀ (H1 : Heap) (locs1 : List Loc), va_P D cl w' H1 → va_D A w' → va_S A s.heap H1 locs1 → W p l e R s m args below meth c H1 locs1 cells slots Q (F0 m (pc + 3) ls st1)) : W p l e R s m args below meth c H locs cells slots Q (F0 m pc ls st0) :=
  kq_call (va_runV S (hM A) cw ⟨kq_blind hok, hc, kq_pre hK hP hD hA hok hG hS⟩ rfl hn hsize hst (lv_room hW) hdg hf) hS h1 kk
theorem kq_cSN {st1 : List Value} (S : CallFix p m c cc nL s args Ts own) (hM : kq_M l y wy ry As D cl tys G w w' rv) (cw : va_CN R s args own index y host bytes maxL ret wy ry 0 0 n ∧ (Cond.static y).before args s = true ∧ True) (hok : kq_ok G)
    (hK : va_K D cl tys s) (hP : va_P D cl w H) (hD : va_D A w) (hA : ∀ q : Nat, s.heap.size ≤ q → A q) (hG : G A s) (hS : va_S A s.heap H locs)
    (hn : As.length = n) (hsize : ls.size = nL) (hst : st0 = As.reverse ++ rest) (h1 : rv.toList ++ rest = st1) (hW : (rest.map fun v => v.category).sum ≤ 8) (hdg : decode cc pc = .ok (.invokestatic index, 3)) (hf : cells ≤ R.cells ∧ slots ≤ R.slots)
    (kk : ∀ (H1 : Heap) (locs1 : List Loc), va_P D cl w' H1 → va_D A w' → va_S A s.heap H1 locs1 → W p l e R s m args below meth c H1 locs1 cells slots Q (F0 m (pc + 3) ls st1)) : W p l e R s m args below meth c H locs cells slots Q (F0 m pc ls st0) :=
  kq_call (va_runSN S (hM A) cw ⟨kq_blind hok, kq_pre hK hP hD hA hok hG hS⟩ rfl hn hsize hst (lv_room hW) hdg hf) hS h1 kk
theorem kq_tS (S : CallFix p m c cc nL s args Ts own) (hM : kq_T l y wy ry As D cl tys G w w' E) (cw : CallB R s args own index y bytes maxL ret wy ry 1 6 n ∧ (Cond.static y).before args s = true) (hok : kq_ok G)
    (hK : va_K D cl tys s) (hP : va_P D cl w H) (hD : va_D A w) (hA : ∀ q : Nat, s.heap.size ≤ q → A q) (hG : G A s) (hS : va_S A s.heap H locs)
    (hn : As.length = n) (hsize : ls.size = nL) (hst : st0 = As.reverse ++ rest) (hW : (rest.map fun v => v.category).sum ≤ 8) (hdg : decode cc pc = .ok (.invokestatic index, 3)) (hf : cells + 1 ≤ R.cells ∧ slots + 6 ≤ R.slots)
    (hlk : meth.locks = false) (hEx : ∀ x ∈ c.exceptionTable.toList, False) {kc ks : Nat} (hc : cells + 1 ≤ kc) (hs : slots + 6 ≤ ks) :
    W p l e R s m args below meth c H locs cells slots (vx_MQ below (fun _ _ _ _ => False) (kq_X D cl A w' E) args s kc ks A) (F0 m pc ls st0) :=
  kq_gone (vx_runS S (hM A) cw ⟨kq_blind hok, kq_pre hK hP hD hA hok hG hS⟩ rfl hn hsize hst (lv_room hW) hdg hf) hS hlk hEx hc hs
theorem kq_tV (S : CallFix p m c cc nL s args Ts own) (hM : kq_T l y wy ry (.ref b :: As) D cl tys G w w' E) (cw : CallW R s args own C index y bytes maxL ret wy ry 1 6 n) (hok : kq_ok G)
    (hK : va_K D cl tys s) (hP : va_P D cl w H) (hD : va_D A w) (hA : ∀ q : Nat, s.heap.size ≤ q → A q) (hG : G A s) (hS : va_S A s.heap H locs)
    (hcb : ∃ cell : Cell, H[b]? = some cell ∧ cell.vm.isStatics = false ∧ s.vm.findClass C = some cell.cls)
    (hn : As.length = n) (hsize : ls.size = nL) (hst : st0 = As.reverse ++ .ref b :: rest) (hW : (rest.map fun v => v.category).sum ≤ 8) (hdg : decode cc pc = .ok (.invokevirtual index, 3)) (hf : cells + 1 ≤ R.cells ∧ slots + 6 ≤ R.slots)
    (hlk : meth.locks = false) (hEx : ∀ x ∈ c.exceptionTable.toList, False) {kc ks : Nat} (hc : cells + 1 ≤ kc) (hs : slots + 6 ≤ ks) :
    W p l e R s m args below meth c H locs cells slots (vx_MQ below (fun _ _ _ _ => False) (kq_X D cl A w' E) args s kc ks A) (F0 m pc ls st0) :=
  kq_gone (vx_runV S (hM A) cw ⟨kq_blind hok, hcb, kq_pre hK hP hD hA hok hG hS⟩ rfl hn hsize hst (lv_room hW) hdg hf) hS hlk hEx hc hs
-- arrays by a Nat place
theorem kq_lald (hx : p.tables.exec = Jvm.exec) (hb : c.code = cc) (hK : va_K D cl tys s) (hP : va_P D cl w H) (q0 t0 : Nat) {cA : ClassId} {k : Nat} {f : Nat → Int64} (ha : w[q0]? = some (a, .inl (cA, k, .inr (.inl f)))) (ht : tys[t0]? = some (cA, .long)) {j : Nat} (hj : j < k) (hk : k < 2 ^ 31) (hdg : decode cc pc = .ok (.laload, 1))
    (kk : W p l e R s m args below meth c H locs cells slots Q (F0 m (pc + 1) ls (.long (f j) :: rest))) : W p l e R s m args below meth c H locs cells slots Q (F0 m pc ls (.int (nI j) :: .ref a :: rest)) :=
  va_lald hx hb hK hP q0 t0 ha ht (vp_in_nI hj hk) hdg (by rw [nI_clamp (Nat.lt_trans hj hk)]; exact kk)
theorem kq_iald (hx : p.tables.exec = Jvm.exec) (hb : c.code = cc) (hK : va_K D cl tys s) (hP : va_P D cl w H) (q0 t0 : Nat) {cA : ClassId} {k : Nat} {f : Nat → Int32} (ha : w[q0]? = some (a, .inl (cA, k, .inl f))) (ht : tys[t0]? = some (cA, .int)) {j : Nat} (hj : j < k) (hk : k < 2 ^ 31) (hdg : decode cc pc = .ok (.iaload, 1))
    (kk : W p l e R s m args below meth c H locs cells slots Q (F0 m (pc + 1) ls (.int (f j) :: rest))) : W p l e R s m args below meth c H locs cells slots Q (F0 m pc ls (.int (nI j) :: .ref a :: rest)) :=
  va_iald hx hb hK hP q0 t0 ha ht (vp_in_nI hj hk) hdg (by rw [nI_clamp (Nat.lt_trans hj hk)]; exact kk)
theorem kq_zald (hx : p.tables.exec = Jvm.exec) (hb : c.code = cc) (hK : va_K D cl tys s) (hP : va_P D cl w H) (q0 t0 : Nat) {cA : ClassId} {k : Nat} {f : Nat → Int32} (ha : w[q0]? = some (a, .inl (cA, k, .inl f))) (ht : tys[t0]? = some (cA, .boolean)) {j : Nat} (hj : j < k) (hk : k < 2 ^ 31) (hdg : decode cc pc = .ok (.baload, 1))
    (kk : W p l e R s m args below meth c H locs cells slots Q (F0 m (pc + 1) ls (.int (f j) :: rest))) : W p l e R s m args below meth c H locs cells slots Q (F0 m pc ls (.int (nI j) :: .ref a :: rest)) :=
  va_zald hx hb hK hP q0 t0 ha ht (vp_in_nI hj hk) hdg (by rw [nI_clamp (Nat.lt_trans hj hk)]; exact kk)
theorem kq_aald (hx : p.tables.exec = Jvm.exec) (hb : c.code = cc) (hK : va_K D cl tys s) (hP : va_P D cl w H) (q0 t0 : Nat) {cA : ClassId} {C : String} {k : Nat} {f : Nat → Option Nat} (ha : w[q0]? = some (a, .inl (cA, k, .inr (.inr (.inr (.inr f)))))) (ht : tys[t0]? = some (cA, .object C)) {j : Nat} (hj : j < k) (hk : k < 2 ^ 31) (hdg : decode cc pc = .ok (.aaload, 1))
    (kk : W p l e R s m args below meth c H locs cells slots Q (F0 m (pc + 1) ls (va_rf (f j) :: rest))) : W p l e R s m args below meth c H locs cells slots Q (F0 m pc ls (.int (nI j) :: .ref a :: rest)) :=
  va_aldq hx hb hK hP q0 t0 ha ht (vp_in_nI hj hk) hdg (by rw [nI_clamp (Nat.lt_trans hj hk)]; exact kk)
theorem kq_last (hx : p.tables.exec = Jvm.exec) (hb : c.code = cc) (hK : va_K D cl tys s) (hP : va_P D cl w H) (hD : va_D A w) (hS : va_S A s.heap H locs) (q0 t0 : Nat) {cA : ClassId} {k : Nat} {f : Nat → Int64} (ha : w[q0]? = some (a, .inl (cA, k, .inr (.inl f)))) (ht : tys[t0]? = some (cA, .long)) {j : Nat} (hj : j < k) (hk : k < 2 ^ 31) {x : Int64} (hdg : decode cc pc = .ok (.lastore, 1))
    (hw : w.set q0 (a, .inl (cA, k, .inr (.inl (vp_updL f j x)))) = w')
    (kk : ∀ (H1 : Heap) (locs1 : List Loc), va_P D cl w' H1 → va_D A w' → va_S A s.heap H1 locs1 → W p l e R s m args below meth c H1 locs1 cells slots Q (F0 m (pc + 1) ls rest)) : W p l e R s m args below meth c H locs cells slots Q (F0 m pc ls (.long x :: .int (nI j) :: .ref a :: rest)) := by
  refine va_last hx hb hK hP hD hS q0 t0 ha ht (vp_in_nI hj hk) hdg (fun H1 locs1 h1 h2 h3 => ?_)
  rw [nI_clamp (Nat.lt_trans hj hk), hw] at h1 h2
  exact kk H1 locs1 h1 h2 h3
theorem kq_iast (hx : p.tables.exec = Jvm.exec) (hb : c.code = cc) (hK : va_K D cl tys s) (hP : va_P D cl w H) (hD : va_D A w) (hS : va_S A s.heap H locs) (q0 t0 : Nat) {cA : ClassId} {k : Nat} {f : Nat → Int32} (ha : w[q0]? = some (a, .inl (cA, k, .inl f))) (ht : tys[t0]? = some (cA, .int)) {j : Nat} (hj : j < k) (hk : k < 2 ^ 31) {x : Int32} (hdg : decode cc pc = .ok (.iastore, 1))
    (hw : w.set q0 (a, .inl (cA, k, .inl (upd f j x))) = w')
    (kk : ∀ (H1 : Heap) (locs1 : List Loc), va_P D cl w' H1 → va_D A w' → va_S A s.heap H1 locs1 → W p l e R s m args below meth c H1 locs1 cells slots Q (F0 m (pc + 1) ls rest)) : W p l e R s m args below meth c H locs cells slots Q (F0 m pc ls (.int x :: .int (nI j) :: .ref a :: rest)) := by
  refine va_iast hx hb hK hP hD hS q0 t0 ha ht (vp_in_nI hj hk) hdg (fun H1 locs1 h1 h2 h3 => ?_)
  rw [nI_clamp (Nat.lt_trans hj hk), hw] at h1 h2
  exact kk H1 locs1 h1 h2 h3
theorem kq_zast (hx : p.tables.exec = Jvm.exec) (hb : c.code = cc) (hK : va_K D cl tys s) (hP : va_P D cl w H) (hD : va_D A w) (hS : va_S A s.heap H locs) (q0 t0 : Nat) {cA : ClassId} {k : Nat} {f : Nat → Int32} (ha : w[q0]? = some (a, .inl (cA, k, .inl f))) (ht : tys[t0]? = some (cA, .boolean)) {j : Nat} (hj : j < k) (hk : k < 2 ^ 31) {x : Int32} (hn : vp_nar .boolean x = x) (hdg : decode cc pc = .ok (.bastore, 1))
    (hw : w.set q0 (a, .inl (cA, k, .inl (upd f j x))) = w')
    (kk : ∀ (H1 : Heap) (locs1 : List Loc), va_P D cl w' H1 → va_D A w' → va_S A s.heap H1 locs1 → W p l e R s m args below meth c H1 locs1 cells slots Q (F0 m (pc + 1) ls rest)) : W p l e R s m args below meth c H locs cells slots Q (F0 m pc ls (.int x :: .int (nI j) :: .ref a :: rest)) := by
  refine va_zast hx hb hK hP hD hS q0 t0 ha ht (vp_in_nI hj hk) hdg (fun H1 locs1 h1 h2 h3 => ?_)
  rw [nI_clamp (Nat.lt_trans hj hk), hn, hw] at h1 h2
  exact kk H1 locs1 h1 h2 h3
end KR
section KG
variable {p : Program} {l : Launch} {e : Env} {R : Room} {s : State} {m : MethodId} {args : Array Value} {below : List Frame} {meth : Method} {c : Code} {H : Heap} {locs : List Loc} {cells slots : Nat} {Q : State → Prop}
variable {cc : ByteArray} {pc : Nat} {ls : Array Slot} {rest : List Value} {D : va_G} {cl : List vw_C} {a : Nat} {tys : List (ClassId × FieldType)} {w : va_W}
/-- a row of an array of arrays -/
theorem kq_aalg (hx : p.tables.exec = Jvm.exec) (hb : c.code = cc) (hK : va_K D cl tys s) (hP : va_P D cl w H) (q0 t0 : Nat) {cA : ClassId} {t : FieldType} {k : Nat} {f : Nat → Option Nat} (ha : w[q0]? = some (a, .inl (cA, k, .inr (.inr (.inr (.inr f)))))) (ht : tys[t0]? = some (cA, .array t)) {j : Nat} (hj : j < k) (hk : k < 2 ^ 31) (hdg : decode cc pc = .ok (.aaload, 1))
    (kk : W p l e R s m args below meth c H locs cells slots Q (F0 m (pc + 1) ls (va_rf (f j) :: rest))) : W p l e R s m args below meth c H locs cells slots Q (F0 m pc ls (.int (nI j) :: .ref a :: rest)) := by
  have h31 : j < 2 ^ 31 := Nat.lt_trans hj hk
  have hin : vp_in (nI j) k := vp_in_nI hj hk
  have hlt : (nI j).toNatClampNeg < k := by rw [nI_clamp h31]; exact hj
  refine W.aald (v := va_rf (f j)) (ty := .array t) hx hb (hP q0 _ ha) ((hK.2 t0 _ ht).1 k (fun i => va_rf (f i))) rfl (fun q => by cases q) (by show ¬ (nI j < 0 ∨ (arrV _ _ _).slots.size ≤ _); rw [arrV_size]; exact hin) (by show (arrV _ _ _).slots[_]? = _; rw [arrV_read _ _ hlt, nI_clamp h31]) rfl rfl hdg kk
end KG
section KT
variable {p : Program} {l : Launch} {e : Env} {R : Room} {s : State} {m : MethodId} {args : Array Value} {below : List Frame} {meth : Method} {c : Code} {H : Heap} {locs : List Loc} {cells slots : Nat} {Q : State → Prop} {pc : Nat} {ls : Array Slot} {rest : List Value}
theorem kq_ti {x y : Int32} (h : x = y) (k : W p l e R s m args below meth c H locs cells slots Q (F0 m pc ls (.int y :: rest))) : W p l e R s m args below meth c H locs cells slots Q (F0 m pc ls (.int x :: rest)) := by rw [h]; exact k
theorem kq_tl {x y : Int64} (h : x = y) (k : W p l e R s m args below meth c H locs cells slots Q (F0 m pc ls (.long y :: rest))) : W p l e R s m args below meth c H locs cells slots Q (F0 m pc ls (.long x :: rest)) := by rw [h]; exact k
theorem kq_td {x y : UInt64} (h : x = y) (k : W p l e R s m args below meth c H locs cells slots Q (F0 m pc ls (.double y :: rest))) : W p l e R s m args below meth c H locs cells slots Q (F0 m pc ls (.double x :: rest)) := by rw [h]; exact k
end KT
theorem kq_okT : kq_ok (fun _ _ => True) := fun _ _ _ _ _ _ => trivial
end
section
/-! ONE STATE for the class and for the reference: longs, ints, doubles.
L: 0 seed, 1 pcr (8 * bank + i), 2 key value, 3 key policy, 4 key secret, 5 blob (4 * b + i), 6 digest, 7 index policy, 8 index value, 9 greatest counted.
I: 0 held, 1 word, 2 parent, 3 made, 4 looked, 5 count seen, 6 defined, 7 counter, 8 written, 9 pcr count, 10 power, 11 lost, 12 losses, 13 guesses, 14 thrown (the reference's own).
D: 0 mark, 1 clock, 2 rate. -/
abbrev tm_S : Type := (Nat → Nat → Int64) × (Nat → Nat → Int32) × (Nat → UInt64)
def tm_L (u : tm_S) (a i : Nat) (v : Int64) : tm_S := (fun x y => if x = a ∧ y = i then v else u.1 x y, u.2.1, u.2.2)
def tm_I (u : tm_S) (a i : Nat) (v : Int32) : tm_S := (u.1, fun x y => if x = a ∧ y = i then v else u.2.1 x y, u.2.2)
def tm_D (u : tm_S) (a : Nat) (v : UInt64) : tm_S := (u.1, u.2.1, fun x => if x = a then v else u.2.2 x)
/-- H of the document -/
def tm_h (a b : Int64) : Int64 :=
  (((a * 1000003 + b) * (-7046029254386353131)) ^^^ (((a * 1000003 + b) * (-7046029254386353131)).toUInt64 >>> ((nI 29).toInt64.toUInt64 &&& Int64.toUInt64 63)).toInt64) * 31 ^^^
  (((((a * 1000003 + b) * (-7046029254386353131)) ^^^ (((a * 1000003 + b) * (-7046029254386353131)).toUInt64 >>> ((nI 29).toInt64.toUInt64 &&& Int64.toUInt64 63)).toInt64) * 31).toUInt64 >>> ((nI 32).toInt64.toUInt64 &&& Int64.toUInt64 63)).toInt64
theorem tm_cmp0 {x y : Int64} : lg_cmp x y = 0 ↔ x = y := by
  unfold lg_cmp
  by_cases h1 : x > y
  · rw [if_pos h1]
    refine ⟨fun h => absurd h (by decide), fun h => ?_⟩
    subst h
    exact (Int64.lt_irrefl h1).elim
  · rw [if_neg h1]
    by_cases h2 : x = y
    · rw [if_pos h2]; exact ⟨fun _ => h2, fun _ => rfl⟩
    · rw [if_neg h2]; exact ⟨fun h => absurd h (by decide), fun h => absurd h h2⟩
def tm_rs (f : Nat → Nat) : (Nat → Int32) ⊕ (Nat → Int64) ⊕ (Nat → UInt32) ⊕ (Nat → UInt64) ⊕ (Nat → Option Nat) := .inr (.inr (.inr (.inr (fun j => some (f j)))))
/-- a world of n cells by a function -/
def tm_w (n : Nat) (ad : Nat → Nat) (f : Nat → va_E) : va_W := (List.range n).map (fun i => (ad i, f i))
theorem tm_at {n : Nat} {ad : Nat → Nat} {f : Nat → va_E} {i : Nat} (hi : i < n) {x : va_E} (hx : f i = x) : (tm_w n ad f)[i]? = some (ad i, x) := by
  unfold tm_w
  rw [List.getElem?_map, List.getElem?_range hi, ← hx]
  rfl
theorem tm_set {n : Nat} {ad : Nat → Nat} {f g : Nat → va_E} {i : Nat} (hi : i < n) {x : va_E} (hx : g i = x) (ho : ∀ j, j < n → j ≠ i → g j = f j) : (tm_w n ad f).set i (ad i, x) = tm_w n ad g := by
  apply List.ext_getElem?
  intro j
  unfold tm_w
  by_cases hj : j < n
  · by_cases he : j = i
    · subst he
      rw [List.getElem?_set_self (by simpa using hj), List.getElem?_map, List.getElem?_range hj, ← hx]
      rfl
    · rw [List.getElem?_set_ne (fun q => he q.symm), List.getElem?_map, List.getElem?_map, List.getElem?_range hj]
      simp [ho j hj he]
  · rw [List.getElem?_eq_none (by simpa using hj), List.getElem?_eq_none (by simpa using hj)]

/-! THE CLASS: 36 cells -/
def tc_cb (ad : Nat → Nat) (cc : Nat → ClassId) (u : tm_S) (n : Nat) : va_E :=
  if n < 2 then .inl (cc 0, 8, .inr (.inl (fun i => if i < 8 then u.1 1 (8 * n + i) else 0)))
  else if n < 6 then .inr (2, [.int (u.2.1 0 (n - 2)), .long (u.1 2 (n - 2)), .int (u.2.1 1 (n - 2)), .long (u.1 3 (n - 2)), .long (u.1 4 (n - 2)), .int (u.2.1 2 (n - 2))])
  else if n < 14 then .inr (0, [.int (u.2.1 3 (n - 6)), .ref (ad ((n - 6) + 21))])
  else if n < 22 then .inl (cc 0, 4, .inr (.inl (fun i => if i < 4 then u.1 5 (4 * (n - 14) + i) else 0)))
  else if n < 25 then .inr (3, [.long (u.1 6 (n - 22)), .int (u.2.1 4 (n - 22)), .int (u.2.1 5 (n - 22))])
  else .inr (1, [.int (u.2.1 6 (n - 25)), .int (u.2.1 7 (n - 25)), .long (u.1 7 (n - 25)), .int (u.2.1 8 (n - 25)), .long (u.1 8 (n - 25))])
def tc_ce (ad : Nat → Nat) (cc : Nat → ClassId) (u : tm_S) : Nat → va_E
  | 0 => .inr (4, [.ref (ad 1), .ref (ad 2), .ref (ad 3), .ref (ad 4), .ref (ad 5), .ref (ad 6), .int (u.2.1 9 0), .long (u.1 9 0), .int (u.2.1 10 0), .int (u.2.1 11 0), .int (u.2.1 12 0), .int (u.2.1 13 0), .double (u.2.2 0), .double (u.2.2 1), .double (u.2.2 2)])
  | 1 => .inl (cc 0, 3, .inr (.inl (u.1 0)))
  | 2 => .inl (cc 1, 2, tm_rs (fun j => ad (j + 7)))
  | 3 => .inl (cc 2, 4, tm_rs (fun j => ad (j + 9)))
  | 4 => .inl (cc 3, 8, tm_rs (fun j => ad (j + 13)))
  | 5 => .inl (cc 4, 3, tm_rs (fun j => ad (j + 29)))
  | 6 => .inl (cc 5, 4, tm_rs (fun j => ad (j + 32)))
  | n + 7 => tc_cb ad cc u n
abbrev tc_w (ad : Nat → Nat) (cc : Nat → ClassId) (u : tm_S) : va_W := tm_w 36 ad (tc_ce ad cc u)
def tc_ty (cc : Nat → ClassId) : List (ClassId × FieldType) := [(cc 0, .long), (cc 1, .array .long), (cc 2, .object "TrustModule$Key"), (cc 3, .object "TrustModule$Blob"), (cc 4, .object "TrustModule$Session"), (cc 5, .object "TrustModule$Index")]
section TCA
variable {ad : Nat → Nat} {cc : Nat → ClassId} {u : tm_S} {k : Nat}
theorem tc_P (h : k < 2) : tc_ce ad cc u (k + 7) = .inl (cc 0, 8, .inr (.inl (fun i => if i < 8 then u.1 1 (8 * k + i) else 0))) := by
  show tc_cb ad cc u k = _
  unfold tc_cb
  rw [if_pos h]
theorem tc_K (h : k < 4) : tc_ce ad cc u (k + 9) = .inr (2, [.int (u.2.1 0 k), .long (u.1 2 k), .int (u.2.1 1 k), .long (u.1 3 k), .long (u.1 4 k), .int (u.2.1 2 k)]) := by
  show tc_cb ad cc u (k + 2) = _
  unfold tc_cb
  rw [if_neg (by omega), if_pos (by omega), Nat.add_sub_cancel]
theorem tc_B (h : k < 8) : tc_ce ad cc u (k + 13) = .inr (0, [.int (u.2.1 3 k), .ref (ad (k + 21))]) := by
  show tc_cb ad cc u (k + 6) = _
  unfold tc_cb
  rw [if_neg (by omega), if_neg (by omega), if_pos (by omega), Nat.add_sub_cancel]
theorem tc_O (h : k < 8) : tc_ce ad cc u (k + 21) = .inl (cc 0, 4, .inr (.inl (fun i => if i < 4 then u.1 5 (4 * k + i) else 0))) := by
  show tc_cb ad cc u (k + 14) = _
  unfold tc_cb
  rw [if_neg (by omega), if_neg (by omega), if_neg (by omega), if_pos (by omega), Nat.add_sub_cancel]
theorem tc_Y (h : k < 3) : tc_ce ad cc u (k + 29) = .inr (3, [.long (u.1 6 k), .int (u.2.1 4 k), .int (u.2.1 5 k)]) := by
  show tc_cb ad cc u (k + 22) = _
  unfold tc_cb
  rw [if_neg (by omega), if_neg (by omega), if_neg (by omega), if_neg (by omega), if_pos (by omega), Nat.add_sub_cancel]
theorem tc_X : tc_ce ad cc u (k + 32) = .inr (1, [.int (u.2.1 6 k), .int (u.2.1 7 k), .long (u.1 7 k), .int (u.2.1 8 k), .long (u.1 8 k)]) := by
  show tc_cb ad cc u (k + 25) = _
  unfold tc_cb
  rw [if_neg (by omega), if_neg (by omega), if_neg (by omega), if_neg (by omega), if_neg (by omega), Nat.add_sub_cancel]
theorem tc_uT_pcrCount_o {v : Int32} : ∀ j, j < 36 → j ≠ 0 → tc_ce ad cc (tm_I u 9 0 v) j = tc_ce ad cc u j := by
  intro j hj hne
  match j, hj, hne with
  | 0, _, hne => exact absurd rfl hne
  | 1, _, hne => simp [tc_ce, tm_I]
  | 2, _, hne => simp [tc_ce, tm_I]
  | 3, _, hne => simp [tc_ce, tm_I]
  | 4, _, hne => simp [tc_ce, tm_I]
  | 5, _, hne => simp [tc_ce, tm_I]
  | 6, _, hne => simp [tc_ce, tm_I]
  | n + 7, hj, hne =>
    show tc_cb ad cc _ n = tc_cb ad cc u n
    unfold tc_cb
    by_cases hP : n < 2
    · rw [if_pos hP, if_pos hP]
      simp [tm_I]
    rw [if_neg hP, if_neg hP]
    by_cases hK : n < 6
    · rw [if_pos hK, if_pos hK]
      simp [tm_I]
    rw [if_neg hK, if_neg hK]
    by_cases hB : n < 14
    · rw [if_pos hB, if_pos hB]
      simp [tm_I]
    rw [if_neg hB, if_neg hB]
    by_cases hO : n < 22
    · rw [if_pos hO, if_pos hO]
      simp [tm_I]
    rw [if_neg hO, if_neg hO]
    by_cases hY : n < 25
    · rw [if_pos hY, if_pos hY]
      simp [tm_I]
    rw [if_neg hY, if_neg hY]
    simp [tm_I]
theorem tc_sT_pcrCount {v : Int32} : (tc_w ad cc u).set 0 (ad 0, .inr (4, [.ref (ad 1), .ref (ad 2), .ref (ad 3), .ref (ad 4), .ref (ad 5), .ref (ad 6), .int v, .long (u.1 9 0), .int (u.2.1 10 0), .int (u.2.1 11 0), .int (u.2.1 12 0), .int (u.2.1 13 0), .double (u.2.2 0), .double (u.2.2 1), .double (u.2.2 2)])) = tc_w ad cc (tm_I u 9 0 v) :=
  tm_set (by omega) (by
    simp [tc_ce, tm_I]) tc_uT_pcrCount_o
theorem tc_uT_greatestCounted_o {v : Int64} : ∀ j, j < 36 → j ≠ 0 → tc_ce ad cc (tm_L u 9 0 v) j = tc_ce ad cc u j := by
  intro j hj hne
  match j, hj, hne with
  | 0, _, hne => exact absurd rfl hne
  | 1, _, hne => simp [tc_ce, tm_L]
  | 2, _, hne => simp [tc_ce, tm_L]
  | 3, _, hne => simp [tc_ce, tm_L]
  | 4, _, hne => simp [tc_ce, tm_L]
  | 5, _, hne => simp [tc_ce, tm_L]
  | 6, _, hne => simp [tc_ce, tm_L]
  | n + 7, hj, hne =>
    show tc_cb ad cc _ n = tc_cb ad cc u n
    unfold tc_cb
    by_cases hP : n < 2
    · rw [if_pos hP, if_pos hP]
      simp [tm_L]
    rw [if_neg hP, if_neg hP]
    by_cases hK : n < 6
    · rw [if_pos hK, if_pos hK]
      simp [tm_L]
    rw [if_neg hK, if_neg hK]
    by_cases hB : n < 14
    · rw [if_pos hB, if_pos hB]
      simp [tm_L]
    rw [if_neg hB, if_neg hB]
    by_cases hO : n < 22
    · rw [if_pos hO, if_pos hO]
      simp [tm_L]
    rw [if_neg hO, if_neg hO]
    by_cases hY : n < 25
    · rw [if_pos hY, if_pos hY]
      simp [tm_L]
    rw [if_neg hY, if_neg hY]
    simp [tm_L]
theorem tc_sT_greatestCounted {v : Int64} : (tc_w ad cc u).set 0 (ad 0, .inr (4, [.ref (ad 1), .ref (ad 2), .ref (ad 3), .ref (ad 4), .ref (ad 5), .ref (ad 6), .int (u.2.1 9 0), .long v, .int (u.2.1 10 0), .int (u.2.1 11 0), .int (u.2.1 12 0), .int (u.2.1 13 0), .double (u.2.2 0), .double (u.2.2 1), .double (u.2.2 2)])) = tc_w ad cc (tm_L u 9 0 v) :=
  tm_set (by omega) (by
    simp [tc_ce, tm_L]) tc_uT_greatestCounted_o
theorem tc_uT_powerLeft_o {v : Int32} : ∀ j, j < 36 → j ≠ 0 → tc_ce ad cc (tm_I u 10 0 v) j = tc_ce ad cc u j := by
  intro j hj hne
  match j, hj, hne with
  | 0, _, hne => exact absurd rfl hne
  | 1, _, hne => simp [tc_ce, tm_I]
  | 2, _, hne => simp [tc_ce, tm_I]
  | 3, _, hne => simp [tc_ce, tm_I]
  | 4, _, hne => simp [tc_ce, tm_I]
  | 5, _, hne => simp [tc_ce, tm_I]
  | 6, _, hne => simp [tc_ce, tm_I]
  | n + 7, hj, hne =>
    show tc_cb ad cc _ n = tc_cb ad cc u n
    unfold tc_cb
    by_cases hP : n < 2
    · rw [if_pos hP, if_pos hP]
      simp [tm_I]
    rw [if_neg hP, if_neg hP]
    by_cases hK : n < 6
    · rw [if_pos hK, if_pos hK]
      simp [tm_I]
    rw [if_neg hK, if_neg hK]
    by_cases hB : n < 14
    · rw [if_pos hB, if_pos hB]
      simp [tm_I]
    rw [if_neg hB, if_neg hB]
    by_cases hO : n < 22
    · rw [if_pos hO, if_pos hO]
      simp [tm_I]
    rw [if_neg hO, if_neg hO]
    by_cases hY : n < 25
    · rw [if_pos hY, if_pos hY]
      simp [tm_I]
    rw [if_neg hY, if_neg hY]
    simp [tm_I]
theorem tc_sT_powerLeft {v : Int32} : (tc_w ad cc u).set 0 (ad 0, .inr (4, [.ref (ad 1), .ref (ad 2), .ref (ad 3), .ref (ad 4), .ref (ad 5), .ref (ad 6), .int (u.2.1 9 0), .long (u.1 9 0), .int v, .int (u.2.1 11 0), .int (u.2.1 12 0), .int (u.2.1 13 0), .double (u.2.2 0), .double (u.2.2 1), .double (u.2.2 2)])) = tc_w ad cc (tm_I u 10 0 v) :=
  tm_set (by omega) (by
    simp [tc_ce, tm_I]) tc_uT_powerLeft_o
theorem tc_uT_lost_o {v : Int32} : ∀ j, j < 36 → j ≠ 0 → tc_ce ad cc (tm_I u 11 0 v) j = tc_ce ad cc u j := by
  intro j hj hne
  match j, hj, hne with
  | 0, _, hne => exact absurd rfl hne
  | 1, _, hne => simp [tc_ce, tm_I]
  | 2, _, hne => simp [tc_ce, tm_I]
  | 3, _, hne => simp [tc_ce, tm_I]
  | 4, _, hne => simp [tc_ce, tm_I]
  | 5, _, hne => simp [tc_ce, tm_I]
  | 6, _, hne => simp [tc_ce, tm_I]
  | n + 7, hj, hne =>
    show tc_cb ad cc _ n = tc_cb ad cc u n
    unfold tc_cb
    by_cases hP : n < 2
    · rw [if_pos hP, if_pos hP]
      simp [tm_I]
    rw [if_neg hP, if_neg hP]
    by_cases hK : n < 6
    · rw [if_pos hK, if_pos hK]
      simp [tm_I]
    rw [if_neg hK, if_neg hK]
    by_cases hB : n < 14
    · rw [if_pos hB, if_pos hB]
      simp [tm_I]
    rw [if_neg hB, if_neg hB]
    by_cases hO : n < 22
    · rw [if_pos hO, if_pos hO]
      simp [tm_I]
    rw [if_neg hO, if_neg hO]
    by_cases hY : n < 25
    · rw [if_pos hY, if_pos hY]
      simp [tm_I]
    rw [if_neg hY, if_neg hY]
    simp [tm_I]
theorem tc_sT_lost {v : Int32} : (tc_w ad cc u).set 0 (ad 0, .inr (4, [.ref (ad 1), .ref (ad 2), .ref (ad 3), .ref (ad 4), .ref (ad 5), .ref (ad 6), .int (u.2.1 9 0), .long (u.1 9 0), .int (u.2.1 10 0), .int v, .int (u.2.1 12 0), .int (u.2.1 13 0), .double (u.2.2 0), .double (u.2.2 1), .double (u.2.2 2)])) = tc_w ad cc (tm_I u 11 0 v) :=
  tm_set (by omega) (by
    simp [tc_ce, tm_I]) tc_uT_lost_o
theorem tc_uT_timesLost_o {v : Int32} : ∀ j, j < 36 → j ≠ 0 → tc_ce ad cc (tm_I u 12 0 v) j = tc_ce ad cc u j := by
  intro j hj hne
  match j, hj, hne with
  | 0, _, hne => exact absurd rfl hne
  | 1, _, hne => simp [tc_ce, tm_I]
  | 2, _, hne => simp [tc_ce, tm_I]
  | 3, _, hne => simp [tc_ce, tm_I]
  | 4, _, hne => simp [tc_ce, tm_I]
  | 5, _, hne => simp [tc_ce, tm_I]
  | 6, _, hne => simp [tc_ce, tm_I]
  | n + 7, hj, hne =>
    show tc_cb ad cc _ n = tc_cb ad cc u n
    unfold tc_cb
    by_cases hP : n < 2
    · rw [if_pos hP, if_pos hP]
      simp [tm_I]
    rw [if_neg hP, if_neg hP]
    by_cases hK : n < 6
    · rw [if_pos hK, if_pos hK]
      simp [tm_I]
    rw [if_neg hK, if_neg hK]
    by_cases hB : n < 14
    · rw [if_pos hB, if_pos hB]
      simp [tm_I]
    rw [if_neg hB, if_neg hB]
    by_cases hO : n < 22
    · rw [if_pos hO, if_pos hO]
      simp [tm_I]
    rw [if_neg hO, if_neg hO]
    by_cases hY : n < 25
    · rw [if_pos hY, if_pos hY]
      simp [tm_I]
    rw [if_neg hY, if_neg hY]
    simp [tm_I]
theorem tc_sT_timesLost {v : Int32} : (tc_w ad cc u).set 0 (ad 0, .inr (4, [.ref (ad 1), .ref (ad 2), .ref (ad 3), .ref (ad 4), .ref (ad 5), .ref (ad 6), .int (u.2.1 9 0), .long (u.1 9 0), .int (u.2.1 10 0), .int (u.2.1 11 0), .int v, .int (u.2.1 13 0), .double (u.2.2 0), .double (u.2.2 1), .double (u.2.2 2)])) = tc_w ad cc (tm_I u 12 0 v) :=
  tm_set (by omega) (by
    simp [tc_ce, tm_I]) tc_uT_timesLost_o
theorem tc_uT_wrongGuesses_o {v : Int32} : ∀ j, j < 36 → j ≠ 0 → tc_ce ad cc (tm_I u 13 0 v) j = tc_ce ad cc u j := by
  intro j hj hne
  match j, hj, hne with
  | 0, _, hne => exact absurd rfl hne
  | 1, _, hne => simp [tc_ce, tm_I]
  | 2, _, hne => simp [tc_ce, tm_I]
  | 3, _, hne => simp [tc_ce, tm_I]
  | 4, _, hne => simp [tc_ce, tm_I]
  | 5, _, hne => simp [tc_ce, tm_I]
  | 6, _, hne => simp [tc_ce, tm_I]
  | n + 7, hj, hne =>
    show tc_cb ad cc _ n = tc_cb ad cc u n
    unfold tc_cb
    by_cases hP : n < 2
    · rw [if_pos hP, if_pos hP]
      simp [tm_I]
    rw [if_neg hP, if_neg hP]
    by_cases hK : n < 6
    · rw [if_pos hK, if_pos hK]
      simp [tm_I]
    rw [if_neg hK, if_neg hK]
    by_cases hB : n < 14
    · rw [if_pos hB, if_pos hB]
      simp [tm_I]
    rw [if_neg hB, if_neg hB]
    by_cases hO : n < 22
    · rw [if_pos hO, if_pos hO]
      simp [tm_I]
    rw [if_neg hO, if_neg hO]
    by_cases hY : n < 25
    · rw [if_pos hY, if_pos hY]
      simp [tm_I]
    rw [if_neg hY, if_neg hY]
    simp [tm_I]
theorem tc_sT_wrongGuesses {v : Int32} : (tc_w ad cc u).set 0 (ad 0, .inr (4, [.ref (ad 1), .ref (ad 2), .ref (ad 3), .ref (ad 4), .ref (ad 5), .ref (ad 6), .int (u.2.1 9 0), .long (u.1 9 0), .int (u.2.1 10 0), .int (u.2.1 11 0), .int (u.2.1 12 0), .int v, .double (u.2.2 0), .double (u.2.2 1), .double (u.2.2 2)])) = tc_w ad cc (tm_I u 13 0 v) :=
  tm_set (by omega) (by
    simp [tc_ce, tm_I]) tc_uT_wrongGuesses_o
theorem tc_uT_mark_o {v : UInt64} : ∀ j, j < 36 → j ≠ 0 → tc_ce ad cc (tm_D u 0 v) j = tc_ce ad cc u j := by
  intro j hj hne
  match j, hj, hne with
  | 0, _, hne => exact absurd rfl hne
  | 1, _, hne => simp [tc_ce, tm_D]
  | 2, _, hne => simp [tc_ce, tm_D]
  | 3, _, hne => simp [tc_ce, tm_D]
  | 4, _, hne => simp [tc_ce, tm_D]
  | 5, _, hne => simp [tc_ce, tm_D]
  | 6, _, hne => simp [tc_ce, tm_D]
  | n + 7, hj, hne =>
    show tc_cb ad cc _ n = tc_cb ad cc u n
    unfold tc_cb
    by_cases hP : n < 2
    · rw [if_pos hP, if_pos hP]
      simp [tm_D]
    rw [if_neg hP, if_neg hP]
    by_cases hK : n < 6
    · rw [if_pos hK, if_pos hK]
      simp [tm_D]
    rw [if_neg hK, if_neg hK]
    by_cases hB : n < 14
    · rw [if_pos hB, if_pos hB]
      simp [tm_D]
    rw [if_neg hB, if_neg hB]
    by_cases hO : n < 22
    · rw [if_pos hO, if_pos hO]
      simp [tm_D]
    rw [if_neg hO, if_neg hO]
    by_cases hY : n < 25
    · rw [if_pos hY, if_pos hY]
      simp [tm_D]
    rw [if_neg hY, if_neg hY]
    simp [tm_D]
theorem tc_sT_mark {v : UInt64} : (tc_w ad cc u).set 0 (ad 0, .inr (4, [.ref (ad 1), .ref (ad 2), .ref (ad 3), .ref (ad 4), .ref (ad 5), .ref (ad 6), .int (u.2.1 9 0), .long (u.1 9 0), .int (u.2.1 10 0), .int (u.2.1 11 0), .int (u.2.1 12 0), .int (u.2.1 13 0), .double v, .double (u.2.2 1), .double (u.2.2 2)])) = tc_w ad cc (tm_D u 0 v) :=
  tm_set (by omega) (by
    simp [tc_ce, tm_D]) tc_uT_mark_o
theorem tc_uT_now_o {v : UInt64} : ∀ j, j < 36 → j ≠ 0 → tc_ce ad cc (tm_D u 1 v) j = tc_ce ad cc u j := by
  intro j hj hne
  match j, hj, hne with
  | 0, _, hne => exact absurd rfl hne
  | 1, _, hne => simp [tc_ce, tm_D]
  | 2, _, hne => simp [tc_ce, tm_D]
  | 3, _, hne => simp [tc_ce, tm_D]
  | 4, _, hne => simp [tc_ce, tm_D]
  | 5, _, hne => simp [tc_ce, tm_D]
  | 6, _, hne => simp [tc_ce, tm_D]
  | n + 7, hj, hne =>
    show tc_cb ad cc _ n = tc_cb ad cc u n
    unfold tc_cb
    by_cases hP : n < 2
    · rw [if_pos hP, if_pos hP]
      simp [tm_D]
    rw [if_neg hP, if_neg hP]
    by_cases hK : n < 6
    · rw [if_pos hK, if_pos hK]
      simp [tm_D]
    rw [if_neg hK, if_neg hK]
    by_cases hB : n < 14
    · rw [if_pos hB, if_pos hB]
      simp [tm_D]
    rw [if_neg hB, if_neg hB]
    by_cases hO : n < 22
    · rw [if_pos hO, if_pos hO]
      simp [tm_D]
    rw [if_neg hO, if_neg hO]
    by_cases hY : n < 25
    · rw [if_pos hY, if_pos hY]
      simp [tm_D]
    rw [if_neg hY, if_neg hY]
    simp [tm_D]
theorem tc_sT_now {v : UInt64} : (tc_w ad cc u).set 0 (ad 0, .inr (4, [.ref (ad 1), .ref (ad 2), .ref (ad 3), .ref (ad 4), .ref (ad 5), .ref (ad 6), .int (u.2.1 9 0), .long (u.1 9 0), .int (u.2.1 10 0), .int (u.2.1 11 0), .int (u.2.1 12 0), .int (u.2.1 13 0), .double (u.2.2 0), .double v, .double (u.2.2 2)])) = tc_w ad cc (tm_D u 1 v) :=
  tm_set (by omega) (by
    simp [tc_ce, tm_D]) tc_uT_now_o
theorem tc_uT_pace_o {v : UInt64} : ∀ j, j < 36 → j ≠ 0 → tc_ce ad cc (tm_D u 2 v) j = tc_ce ad cc u j := by
  intro j hj hne
  match j, hj, hne with
  | 0, _, hne => exact absurd rfl hne
  | 1, _, hne => simp [tc_ce, tm_D]
  | 2, _, hne => simp [tc_ce, tm_D]
  | 3, _, hne => simp [tc_ce, tm_D]
  | 4, _, hne => simp [tc_ce, tm_D]
  | 5, _, hne => simp [tc_ce, tm_D]
  | 6, _, hne => simp [tc_ce, tm_D]
  | n + 7, hj, hne =>
    show tc_cb ad cc _ n = tc_cb ad cc u n
    unfold tc_cb
    by_cases hP : n < 2
    · rw [if_pos hP, if_pos hP]
      simp [tm_D]
    rw [if_neg hP, if_neg hP]
    by_cases hK : n < 6
    · rw [if_pos hK, if_pos hK]
      simp [tm_D]
    rw [if_neg hK, if_neg hK]
    by_cases hB : n < 14
    · rw [if_pos hB, if_pos hB]
      simp [tm_D]
    rw [if_neg hB, if_neg hB]
    by_cases hO : n < 22
    · rw [if_pos hO, if_pos hO]
      simp [tm_D]
    rw [if_neg hO, if_neg hO]
    by_cases hY : n < 25
    · rw [if_pos hY, if_pos hY]
      simp [tm_D]
    rw [if_neg hY, if_neg hY]
    simp [tm_D]
theorem tc_sT_pace {v : UInt64} : (tc_w ad cc u).set 0 (ad 0, .inr (4, [.ref (ad 1), .ref (ad 2), .ref (ad 3), .ref (ad 4), .ref (ad 5), .ref (ad 6), .int (u.2.1 9 0), .long (u.1 9 0), .int (u.2.1 10 0), .int (u.2.1 11 0), .int (u.2.1 12 0), .int (u.2.1 13 0), .double (u.2.2 0), .double (u.2.2 1), .double v])) = tc_w ad cc (tm_D u 2 v) :=
  tm_set (by omega) (by
    simp [tc_ce, tm_D]) tc_uT_pace_o
theorem tc_uK_held_o {v : Int32} : ∀ j, j < 36 → j ≠ (k + 9) → tc_ce ad cc (tm_I u 0 k v) j = tc_ce ad cc u j := by
  intro j hj hne
  match j, hj, hne with
  | 0, _, hne => simp [tc_ce, tm_I]
  | 1, _, hne => simp [tc_ce, tm_I]
  | 2, _, hne => simp [tc_ce, tm_I]
  | 3, _, hne => simp [tc_ce, tm_I]
  | 4, _, hne => simp [tc_ce, tm_I]
  | 5, _, hne => simp [tc_ce, tm_I]
  | 6, _, hne => simp [tc_ce, tm_I]
  | n + 7, hj, hne =>
    show tc_cb ad cc _ n = tc_cb ad cc u n
    unfold tc_cb
    by_cases hP : n < 2
    · rw [if_pos hP, if_pos hP]
      simp [tm_I]
    rw [if_neg hP, if_neg hP]
    by_cases hK : n < 6
    · rw [if_pos hK, if_pos hK]
      have hz : ¬ n - 2 = k := by omega
      simp [tm_I, hz]
    rw [if_neg hK, if_neg hK]
    by_cases hB : n < 14
    · rw [if_pos hB, if_pos hB]
      simp [tm_I]
    rw [if_neg hB, if_neg hB]
    by_cases hO : n < 22
    · rw [if_pos hO, if_pos hO]
      simp [tm_I]
    rw [if_neg hO, if_neg hO]
    by_cases hY : n < 25
    · rw [if_pos hY, if_pos hY]
      simp [tm_I]
    rw [if_neg hY, if_neg hY]
    simp [tm_I]
theorem tc_sK_held {v : Int32} (hk : k < 4) : (tc_w ad cc u).set (k + 9) (ad (k + 9), .inr (2, [.int v, .long (u.1 2 k), .int (u.2.1 1 k), .long (u.1 3 k), .long (u.1 4 k), .int (u.2.1 2 k)])) = tc_w ad cc (tm_I u 0 k v) :=
  tm_set (by omega) (by
    rw [show tc_ce ad cc (tm_I u 0 k v) (k + 9) = _ from (tc_K hk)]; simp [tm_I]) tc_uK_held_o
theorem tc_uK_value_o {v : Int64} : ∀ j, j < 36 → j ≠ (k + 9) → tc_ce ad cc (tm_L u 2 k v) j = tc_ce ad cc u j := by
  intro j hj hne
  match j, hj, hne with
  | 0, _, hne => simp [tc_ce, tm_L]
  | 1, _, hne => simp [tc_ce, tm_L]
  | 2, _, hne => simp [tc_ce, tm_L]
  | 3, _, hne => simp [tc_ce, tm_L]
  | 4, _, hne => simp [tc_ce, tm_L]
  | 5, _, hne => simp [tc_ce, tm_L]
  | 6, _, hne => simp [tc_ce, tm_L]
  | n + 7, hj, hne =>
    show tc_cb ad cc _ n = tc_cb ad cc u n
    unfold tc_cb
    by_cases hP : n < 2
    · rw [if_pos hP, if_pos hP]
      simp [tm_L]
    rw [if_neg hP, if_neg hP]
    by_cases hK : n < 6
    · rw [if_pos hK, if_pos hK]
      have hz : ¬ n - 2 = k := by omega
      simp [tm_L, hz]
    rw [if_neg hK, if_neg hK]
    by_cases hB : n < 14
    · rw [if_pos hB, if_pos hB]
      simp [tm_L]
    rw [if_neg hB, if_neg hB]
    by_cases hO : n < 22
    · rw [if_pos hO, if_pos hO]
      simp [tm_L]
    rw [if_neg hO, if_neg hO]
    by_cases hY : n < 25
    · rw [if_pos hY, if_pos hY]
      simp [tm_L]
    rw [if_neg hY, if_neg hY]
    simp [tm_L]
theorem tc_sK_value {v : Int64} (hk : k < 4) : (tc_w ad cc u).set (k + 9) (ad (k + 9), .inr (2, [.int (u.2.1 0 k), .long v, .int (u.2.1 1 k), .long (u.1 3 k), .long (u.1 4 k), .int (u.2.1 2 k)])) = tc_w ad cc (tm_L u 2 k v) :=
  tm_set (by omega) (by
    rw [show tc_ce ad cc (tm_L u 2 k v) (k + 9) = _ from (tc_K hk)]; simp [tm_L]) tc_uK_value_o
theorem tc_uK_word_o {v : Int32} : ∀ j, j < 36 → j ≠ (k + 9) → tc_ce ad cc (tm_I u 1 k v) j = tc_ce ad cc u j := by
  intro j hj hne
  match j, hj, hne with
  | 0, _, hne => simp [tc_ce, tm_I]
  | 1, _, hne => simp [tc_ce, tm_I]
  | 2, _, hne => simp [tc_ce, tm_I]
  | 3, _, hne => simp [tc_ce, tm_I]
  | 4, _, hne => simp [tc_ce, tm_I]
  | 5, _, hne => simp [tc_ce, tm_I]
  | 6, _, hne => simp [tc_ce, tm_I]
  | n + 7, hj, hne =>
    show tc_cb ad cc _ n = tc_cb ad cc u n
    unfold tc_cb
    by_cases hP : n < 2
    · rw [if_pos hP, if_pos hP]
      simp [tm_I]
    rw [if_neg hP, if_neg hP]
    by_cases hK : n < 6
    · rw [if_pos hK, if_pos hK]
      have hz : ¬ n - 2 = k := by omega
      simp [tm_I, hz]
    rw [if_neg hK, if_neg hK]
    by_cases hB : n < 14
    · rw [if_pos hB, if_pos hB]
      simp [tm_I]
    rw [if_neg hB, if_neg hB]
    by_cases hO : n < 22
    · rw [if_pos hO, if_pos hO]
      simp [tm_I]
    rw [if_neg hO, if_neg hO]
    by_cases hY : n < 25
    · rw [if_pos hY, if_pos hY]
      simp [tm_I]
    rw [if_neg hY, if_neg hY]
    simp [tm_I]
theorem tc_sK_word {v : Int32} (hk : k < 4) : (tc_w ad cc u).set (k + 9) (ad (k + 9), .inr (2, [.int (u.2.1 0 k), .long (u.1 2 k), .int v, .long (u.1 3 k), .long (u.1 4 k), .int (u.2.1 2 k)])) = tc_w ad cc (tm_I u 1 k v) :=
  tm_set (by omega) (by
    rw [show tc_ce ad cc (tm_I u 1 k v) (k + 9) = _ from (tc_K hk)]; simp [tm_I]) tc_uK_word_o
theorem tc_uK_policy_o {v : Int64} : ∀ j, j < 36 → j ≠ (k + 9) → tc_ce ad cc (tm_L u 3 k v) j = tc_ce ad cc u j := by
  intro j hj hne
  match j, hj, hne with
  | 0, _, hne => simp [tc_ce, tm_L]
  | 1, _, hne => simp [tc_ce, tm_L]
  | 2, _, hne => simp [tc_ce, tm_L]
  | 3, _, hne => simp [tc_ce, tm_L]
  | 4, _, hne => simp [tc_ce, tm_L]
  | 5, _, hne => simp [tc_ce, tm_L]
  | 6, _, hne => simp [tc_ce, tm_L]
  | n + 7, hj, hne =>
    show tc_cb ad cc _ n = tc_cb ad cc u n
    unfold tc_cb
    by_cases hP : n < 2
    · rw [if_pos hP, if_pos hP]
      simp [tm_L]
    rw [if_neg hP, if_neg hP]
    by_cases hK : n < 6
    · rw [if_pos hK, if_pos hK]
      have hz : ¬ n - 2 = k := by omega
      simp [tm_L, hz]
    rw [if_neg hK, if_neg hK]
    by_cases hB : n < 14
    · rw [if_pos hB, if_pos hB]
      simp [tm_L]
    rw [if_neg hB, if_neg hB]
    by_cases hO : n < 22
    · rw [if_pos hO, if_pos hO]
      simp [tm_L]
    rw [if_neg hO, if_neg hO]
    by_cases hY : n < 25
    · rw [if_pos hY, if_pos hY]
      simp [tm_L]
    rw [if_neg hY, if_neg hY]
    simp [tm_L]
theorem tc_sK_policy {v : Int64} (hk : k < 4) : (tc_w ad cc u).set (k + 9) (ad (k + 9), .inr (2, [.int (u.2.1 0 k), .long (u.1 2 k), .int (u.2.1 1 k), .long v, .long (u.1 4 k), .int (u.2.1 2 k)])) = tc_w ad cc (tm_L u 3 k v) :=
  tm_set (by omega) (by
    rw [show tc_ce ad cc (tm_L u 3 k v) (k + 9) = _ from (tc_K hk)]; simp [tm_L]) tc_uK_policy_o
theorem tc_uK_secret_o {v : Int64} : ∀ j, j < 36 → j ≠ (k + 9) → tc_ce ad cc (tm_L u 4 k v) j = tc_ce ad cc u j := by
  intro j hj hne
  match j, hj, hne with
  | 0, _, hne => simp [tc_ce, tm_L]
  | 1, _, hne => simp [tc_ce, tm_L]
  | 2, _, hne => simp [tc_ce, tm_L]
  | 3, _, hne => simp [tc_ce, tm_L]
  | 4, _, hne => simp [tc_ce, tm_L]
  | 5, _, hne => simp [tc_ce, tm_L]
  | 6, _, hne => simp [tc_ce, tm_L]
  | n + 7, hj, hne =>
    show tc_cb ad cc _ n = tc_cb ad cc u n
    unfold tc_cb
    by_cases hP : n < 2
    · rw [if_pos hP, if_pos hP]
      simp [tm_L]
    rw [if_neg hP, if_neg hP]
    by_cases hK : n < 6
    · rw [if_pos hK, if_pos hK]
      have hz : ¬ n - 2 = k := by omega
      simp [tm_L, hz]
    rw [if_neg hK, if_neg hK]
    by_cases hB : n < 14
    · rw [if_pos hB, if_pos hB]
      simp [tm_L]
    rw [if_neg hB, if_neg hB]
    by_cases hO : n < 22
    · rw [if_pos hO, if_pos hO]
      simp [tm_L]
    rw [if_neg hO, if_neg hO]
    by_cases hY : n < 25
    · rw [if_pos hY, if_pos hY]
      simp [tm_L]
    rw [if_neg hY, if_neg hY]
    simp [tm_L]
theorem tc_sK_secret {v : Int64} (hk : k < 4) : (tc_w ad cc u).set (k + 9) (ad (k + 9), .inr (2, [.int (u.2.1 0 k), .long (u.1 2 k), .int (u.2.1 1 k), .long (u.1 3 k), .long v, .int (u.2.1 2 k)])) = tc_w ad cc (tm_L u 4 k v) :=
  tm_set (by omega) (by
    rw [show tc_ce ad cc (tm_L u 4 k v) (k + 9) = _ from (tc_K hk)]; simp [tm_L]) tc_uK_secret_o
theorem tc_uK_parent_o {v : Int32} : ∀ j, j < 36 → j ≠ (k + 9) → tc_ce ad cc (tm_I u 2 k v) j = tc_ce ad cc u j := by
  intro j hj hne
  match j, hj, hne with
  | 0, _, hne => simp [tc_ce, tm_I]
  | 1, _, hne => simp [tc_ce, tm_I]
  | 2, _, hne => simp [tc_ce, tm_I]
  | 3, _, hne => simp [tc_ce, tm_I]
  | 4, _, hne => simp [tc_ce, tm_I]
  | 5, _, hne => simp [tc_ce, tm_I]
  | 6, _, hne => simp [tc_ce, tm_I]
  | n + 7, hj, hne =>
    show tc_cb ad cc _ n = tc_cb ad cc u n
    unfold tc_cb
    by_cases hP : n < 2
    · rw [if_pos hP, if_pos hP]
      simp [tm_I]
    rw [if_neg hP, if_neg hP]
    by_cases hK : n < 6
    · rw [if_pos hK, if_pos hK]
      have hz : ¬ n - 2 = k := by omega
      simp [tm_I, hz]
    rw [if_neg hK, if_neg hK]
    by_cases hB : n < 14
    · rw [if_pos hB, if_pos hB]
      simp [tm_I]
    rw [if_neg hB, if_neg hB]
    by_cases hO : n < 22
    · rw [if_pos hO, if_pos hO]
      simp [tm_I]
    rw [if_neg hO, if_neg hO]
    by_cases hY : n < 25
    · rw [if_pos hY, if_pos hY]
      simp [tm_I]
    rw [if_neg hY, if_neg hY]
    simp [tm_I]
theorem tc_sK_parent {v : Int32} (hk : k < 4) : (tc_w ad cc u).set (k + 9) (ad (k + 9), .inr (2, [.int (u.2.1 0 k), .long (u.1 2 k), .int (u.2.1 1 k), .long (u.1 3 k), .long (u.1 4 k), .int v])) = tc_w ad cc (tm_I u 2 k v) :=
  tm_set (by omega) (by
    rw [show tc_ce ad cc (tm_I u 2 k v) (k + 9) = _ from (tc_K hk)]; simp [tm_I]) tc_uK_parent_o
theorem tc_uB_made_o {v : Int32} : ∀ j, j < 36 → j ≠ (k + 13) → tc_ce ad cc (tm_I u 3 k v) j = tc_ce ad cc u j := by
  intro j hj hne
  match j, hj, hne with
  | 0, _, hne => simp [tc_ce, tm_I]
  | 1, _, hne => simp [tc_ce, tm_I]
  | 2, _, hne => simp [tc_ce, tm_I]
  | 3, _, hne => simp [tc_ce, tm_I]
  | 4, _, hne => simp [tc_ce, tm_I]
  | 5, _, hne => simp [tc_ce, tm_I]
  | 6, _, hne => simp [tc_ce, tm_I]
  | n + 7, hj, hne =>
    show tc_cb ad cc _ n = tc_cb ad cc u n
    unfold tc_cb
    by_cases hP : n < 2
    · rw [if_pos hP, if_pos hP]
      simp [tm_I]
    rw [if_neg hP, if_neg hP]
    by_cases hK : n < 6
    · rw [if_pos hK, if_pos hK]
      simp [tm_I]
    rw [if_neg hK, if_neg hK]
    by_cases hB : n < 14
    · rw [if_pos hB, if_pos hB]
      have hz : ¬ n - 6 = k := by omega
      simp [tm_I, hz]
    rw [if_neg hB, if_neg hB]
    by_cases hO : n < 22
    · rw [if_pos hO, if_pos hO]
      simp [tm_I]
    rw [if_neg hO, if_neg hO]
    by_cases hY : n < 25
    · rw [if_pos hY, if_pos hY]
      simp [tm_I]
    rw [if_neg hY, if_neg hY]
    simp [tm_I]
theorem tc_sB_made {v : Int32} (hk : k < 8) : (tc_w ad cc u).set (k + 13) (ad (k + 13), .inr (0, [.int v, .ref (ad (k + 21))])) = tc_w ad cc (tm_I u 3 k v) :=
  tm_set (by omega) (by
    rw [show tc_ce ad cc (tm_I u 3 k v) (k + 13) = _ from (tc_B hk)]; simp [tm_I]) tc_uB_made_o
theorem tc_uY_digest_o {v : Int64} : ∀ j, j < 36 → j ≠ (k + 29) → tc_ce ad cc (tm_L u 6 k v) j = tc_ce ad cc u j := by
  intro j hj hne
  match j, hj, hne with
  | 0, _, hne => simp [tc_ce, tm_L]
  | 1, _, hne => simp [tc_ce, tm_L]
  | 2, _, hne => simp [tc_ce, tm_L]
  | 3, _, hne => simp [tc_ce, tm_L]
  | 4, _, hne => simp [tc_ce, tm_L]
  | 5, _, hne => simp [tc_ce, tm_L]
  | 6, _, hne => simp [tc_ce, tm_L]
  | n + 7, hj, hne =>
    show tc_cb ad cc _ n = tc_cb ad cc u n
    unfold tc_cb
    by_cases hP : n < 2
    · rw [if_pos hP, if_pos hP]
      simp [tm_L]
    rw [if_neg hP, if_neg hP]
    by_cases hK : n < 6
    · rw [if_pos hK, if_pos hK]
      simp [tm_L]
    rw [if_neg hK, if_neg hK]
    by_cases hB : n < 14
    · rw [if_pos hB, if_pos hB]
      simp [tm_L]
    rw [if_neg hB, if_neg hB]
    by_cases hO : n < 22
    · rw [if_pos hO, if_pos hO]
      simp [tm_L]
    rw [if_neg hO, if_neg hO]
    by_cases hY : n < 25
    · rw [if_pos hY, if_pos hY]
      have hz : ¬ n - 22 = k := by omega
      simp [tm_L, hz]
    rw [if_neg hY, if_neg hY]
    simp [tm_L]
theorem tc_sY_digest {v : Int64} (hk : k < 3) : (tc_w ad cc u).set (k + 29) (ad (k + 29), .inr (3, [.long v, .int (u.2.1 4 k), .int (u.2.1 5 k)])) = tc_w ad cc (tm_L u 6 k v) :=
  tm_set (by omega) (by
    rw [show tc_ce ad cc (tm_L u 6 k v) (k + 29) = _ from (tc_Y hk)]; simp [tm_L]) tc_uY_digest_o
theorem tc_uY_looked_o {v : Int32} : ∀ j, j < 36 → j ≠ (k + 29) → tc_ce ad cc (tm_I u 4 k v) j = tc_ce ad cc u j := by
  intro j hj hne
  match j, hj, hne with
  | 0, _, hne => simp [tc_ce, tm_I]
  | 1, _, hne => simp [tc_ce, tm_I]
  | 2, _, hne => simp [tc_ce, tm_I]
  | 3, _, hne => simp [tc_ce, tm_I]
  | 4, _, hne => simp [tc_ce, tm_I]
  | 5, _, hne => simp [tc_ce, tm_I]
  | 6, _, hne => simp [tc_ce, tm_I]
  | n + 7, hj, hne =>
    show tc_cb ad cc _ n = tc_cb ad cc u n
    unfold tc_cb
    by_cases hP : n < 2
    · rw [if_pos hP, if_pos hP]
      simp [tm_I]
    rw [if_neg hP, if_neg hP]
    by_cases hK : n < 6
    · rw [if_pos hK, if_pos hK]
      simp [tm_I]
    rw [if_neg hK, if_neg hK]
    by_cases hB : n < 14
    · rw [if_pos hB, if_pos hB]
      simp [tm_I]
    rw [if_neg hB, if_neg hB]
    by_cases hO : n < 22
    · rw [if_pos hO, if_pos hO]
      simp [tm_I]
    rw [if_neg hO, if_neg hO]
    by_cases hY : n < 25
    · rw [if_pos hY, if_pos hY]
      have hz : ¬ n - 22 = k := by omega
      simp [tm_I, hz]
    rw [if_neg hY, if_neg hY]
    simp [tm_I]
theorem tc_sY_looked {v : Int32} (hk : k < 3) : (tc_w ad cc u).set (k + 29) (ad (k + 29), .inr (3, [.long (u.1 6 k), .int v, .int (u.2.1 5 k)])) = tc_w ad cc (tm_I u 4 k v) :=
  tm_set (by omega) (by
    rw [show tc_ce ad cc (tm_I u 4 k v) (k + 29) = _ from (tc_Y hk)]; simp [tm_I]) tc_uY_looked_o
theorem tc_uY_countSeen_o {v : Int32} : ∀ j, j < 36 → j ≠ (k + 29) → tc_ce ad cc (tm_I u 5 k v) j = tc_ce ad cc u j := by
  intro j hj hne
  match j, hj, hne with
  | 0, _, hne => simp [tc_ce, tm_I]
  | 1, _, hne => simp [tc_ce, tm_I]
  | 2, _, hne => simp [tc_ce, tm_I]
  | 3, _, hne => simp [tc_ce, tm_I]
  | 4, _, hne => simp [tc_ce, tm_I]
  | 5, _, hne => simp [tc_ce, tm_I]
  | 6, _, hne => simp [tc_ce, tm_I]
  | n + 7, hj, hne =>
    show tc_cb ad cc _ n = tc_cb ad cc u n
    unfold tc_cb
    by_cases hP : n < 2
    · rw [if_pos hP, if_pos hP]
      simp [tm_I]
    rw [if_neg hP, if_neg hP]
    by_cases hK : n < 6
    · rw [if_pos hK, if_pos hK]
      simp [tm_I]
    rw [if_neg hK, if_neg hK]
    by_cases hB : n < 14
    · rw [if_pos hB, if_pos hB]
      simp [tm_I]
    rw [if_neg hB, if_neg hB]
    by_cases hO : n < 22
    · rw [if_pos hO, if_pos hO]
      simp [tm_I]
    rw [if_neg hO, if_neg hO]
    by_cases hY : n < 25
    · rw [if_pos hY, if_pos hY]
      have hz : ¬ n - 22 = k := by omega
      simp [tm_I, hz]
    rw [if_neg hY, if_neg hY]
    simp [tm_I]
theorem tc_sY_countSeen {v : Int32} (hk : k < 3) : (tc_w ad cc u).set (k + 29) (ad (k + 29), .inr (3, [.long (u.1 6 k), .int (u.2.1 4 k), .int v])) = tc_w ad cc (tm_I u 5 k v) :=
  tm_set (by omega) (by
    rw [show tc_ce ad cc (tm_I u 5 k v) (k + 29) = _ from (tc_Y hk)]; simp [tm_I]) tc_uY_countSeen_o
theorem tc_uX_defined_o {v : Int32} : ∀ j, j < 36 → j ≠ (k + 32) → tc_ce ad cc (tm_I u 6 k v) j = tc_ce ad cc u j := by
  intro j hj hne
  match j, hj, hne with
  | 0, _, hne => simp [tc_ce, tm_I]
  | 1, _, hne => simp [tc_ce, tm_I]
  | 2, _, hne => simp [tc_ce, tm_I]
  | 3, _, hne => simp [tc_ce, tm_I]
  | 4, _, hne => simp [tc_ce, tm_I]
  | 5, _, hne => simp [tc_ce, tm_I]
  | 6, _, hne => simp [tc_ce, tm_I]
  | n + 7, hj, hne =>
    show tc_cb ad cc _ n = tc_cb ad cc u n
    unfold tc_cb
    by_cases hP : n < 2
    · rw [if_pos hP, if_pos hP]
      simp [tm_I]
    rw [if_neg hP, if_neg hP]
    by_cases hK : n < 6
    · rw [if_pos hK, if_pos hK]
      simp [tm_I]
    rw [if_neg hK, if_neg hK]
    by_cases hB : n < 14
    · rw [if_pos hB, if_pos hB]
      simp [tm_I]
    rw [if_neg hB, if_neg hB]
    by_cases hO : n < 22
    · rw [if_pos hO, if_pos hO]
      simp [tm_I]
    rw [if_neg hO, if_neg hO]
    by_cases hY : n < 25
    · rw [if_pos hY, if_pos hY]
      simp [tm_I]
    rw [if_neg hY, if_neg hY]
    have hz : ¬ n - 25 = k := by omega
    simp [tm_I, hz]
theorem tc_sX_defined {v : Int32} (hk : k < 4) : (tc_w ad cc u).set (k + 32) (ad (k + 32), .inr (1, [.int v, .int (u.2.1 7 k), .long (u.1 7 k), .int (u.2.1 8 k), .long (u.1 8 k)])) = tc_w ad cc (tm_I u 6 k v) :=
  tm_set (by omega) (by
    rw [show tc_ce ad cc (tm_I u 6 k v) (k + 32) = _ from tc_X]; simp [tm_I]) tc_uX_defined_o
theorem tc_uX_counter_o {v : Int32} : ∀ j, j < 36 → j ≠ (k + 32) → tc_ce ad cc (tm_I u 7 k v) j = tc_ce ad cc u j := by
  intro j hj hne
  match j, hj, hne with
  | 0, _, hne => simp [tc_ce, tm_I]
  | 1, _, hne => simp [tc_ce, tm_I]
  | 2, _, hne => simp [tc_ce, tm_I]
  | 3, _, hne => simp [tc_ce, tm_I]
  | 4, _, hne => simp [tc_ce, tm_I]
  | 5, _, hne => simp [tc_ce, tm_I]
  | 6, _, hne => simp [tc_ce, tm_I]
  | n + 7, hj, hne =>
    show tc_cb ad cc _ n = tc_cb ad cc u n
    unfold tc_cb
    by_cases hP : n < 2
    · rw [if_pos hP, if_pos hP]
      simp [tm_I]
    rw [if_neg hP, if_neg hP]
    by_cases hK : n < 6
    · rw [if_pos hK, if_pos hK]
      simp [tm_I]
    rw [if_neg hK, if_neg hK]
    by_cases hB : n < 14
    · rw [if_pos hB, if_pos hB]
      simp [tm_I]
    rw [if_neg hB, if_neg hB]
    by_cases hO : n < 22
    · rw [if_pos hO, if_pos hO]
      simp [tm_I]
    rw [if_neg hO, if_neg hO]
    by_cases hY : n < 25
    · rw [if_pos hY, if_pos hY]
      simp [tm_I]
    rw [if_neg hY, if_neg hY]
    have hz : ¬ n - 25 = k := by omega
    simp [tm_I, hz]
theorem tc_sX_counter {v : Int32} (hk : k < 4) : (tc_w ad cc u).set (k + 32) (ad (k + 32), .inr (1, [.int (u.2.1 6 k), .int v, .long (u.1 7 k), .int (u.2.1 8 k), .long (u.1 8 k)])) = tc_w ad cc (tm_I u 7 k v) :=
  tm_set (by omega) (by
    rw [show tc_ce ad cc (tm_I u 7 k v) (k + 32) = _ from tc_X]; simp [tm_I]) tc_uX_counter_o
theorem tc_uX_policy_o {v : Int64} : ∀ j, j < 36 → j ≠ (k + 32) → tc_ce ad cc (tm_L u 7 k v) j = tc_ce ad cc u j := by
  intro j hj hne
  match j, hj, hne with
  | 0, _, hne => simp [tc_ce, tm_L]
  | 1, _, hne => simp [tc_ce, tm_L]
  | 2, _, hne => simp [tc_ce, tm_L]
  | 3, _, hne => simp [tc_ce, tm_L]
  | 4, _, hne => simp [tc_ce, tm_L]
  | 5, _, hne => simp [tc_ce, tm_L]
  | 6, _, hne => simp [tc_ce, tm_L]
  | n + 7, hj, hne =>
    show tc_cb ad cc _ n = tc_cb ad cc u n
    unfold tc_cb
    by_cases hP : n < 2
    · rw [if_pos hP, if_pos hP]
      simp [tm_L]
    rw [if_neg hP, if_neg hP]
    by_cases hK : n < 6
    · rw [if_pos hK, if_pos hK]
      simp [tm_L]
    rw [if_neg hK, if_neg hK]
    by_cases hB : n < 14
    · rw [if_pos hB, if_pos hB]
      simp [tm_L]
    rw [if_neg hB, if_neg hB]
    by_cases hO : n < 22
    · rw [if_pos hO, if_pos hO]
      simp [tm_L]
    rw [if_neg hO, if_neg hO]
    by_cases hY : n < 25
    · rw [if_pos hY, if_pos hY]
      simp [tm_L]
    rw [if_neg hY, if_neg hY]
    have hz : ¬ n - 25 = k := by omega
    simp [tm_L, hz]
theorem tc_sX_policy {v : Int64} (hk : k < 4) : (tc_w ad cc u).set (k + 32) (ad (k + 32), .inr (1, [.int (u.2.1 6 k), .int (u.2.1 7 k), .long v, .int (u.2.1 8 k), .long (u.1 8 k)])) = tc_w ad cc (tm_L u 7 k v) :=
  tm_set (by omega) (by
    rw [show tc_ce ad cc (tm_L u 7 k v) (k + 32) = _ from tc_X]; simp [tm_L]) tc_uX_policy_o
theorem tc_uX_written_o {v : Int32} : ∀ j, j < 36 → j ≠ (k + 32) → tc_ce ad cc (tm_I u 8 k v) j = tc_ce ad cc u j := by
  intro j hj hne
  match j, hj, hne with
  | 0, _, hne => simp [tc_ce, tm_I]
  | 1, _, hne => simp [tc_ce, tm_I]
  | 2, _, hne => simp [tc_ce, tm_I]
  | 3, _, hne => simp [tc_ce, tm_I]
  | 4, _, hne => simp [tc_ce, tm_I]
  | 5, _, hne => simp [tc_ce, tm_I]
  | 6, _, hne => simp [tc_ce, tm_I]
  | n + 7, hj, hne =>
    show tc_cb ad cc _ n = tc_cb ad cc u n
    unfold tc_cb
    by_cases hP : n < 2
    · rw [if_pos hP, if_pos hP]
      simp [tm_I]
    rw [if_neg hP, if_neg hP]
    by_cases hK : n < 6
    · rw [if_pos hK, if_pos hK]
      simp [tm_I]
    rw [if_neg hK, if_neg hK]
    by_cases hB : n < 14
    · rw [if_pos hB, if_pos hB]
      simp [tm_I]
    rw [if_neg hB, if_neg hB]
    by_cases hO : n < 22
    · rw [if_pos hO, if_pos hO]
      simp [tm_I]
    rw [if_neg hO, if_neg hO]
    by_cases hY : n < 25
    · rw [if_pos hY, if_pos hY]
      simp [tm_I]
    rw [if_neg hY, if_neg hY]
    have hz : ¬ n - 25 = k := by omega
    simp [tm_I, hz]
theorem tc_sX_written {v : Int32} (hk : k < 4) : (tc_w ad cc u).set (k + 32) (ad (k + 32), .inr (1, [.int (u.2.1 6 k), .int (u.2.1 7 k), .long (u.1 7 k), .int v, .long (u.1 8 k)])) = tc_w ad cc (tm_I u 8 k v) :=
  tm_set (by omega) (by
    rw [show tc_ce ad cc (tm_I u 8 k v) (k + 32) = _ from tc_X]; simp [tm_I]) tc_uX_written_o
theorem tc_uX_value_o {v : Int64} : ∀ j, j < 36 → j ≠ (k + 32) → tc_ce ad cc (tm_L u 8 k v) j = tc_ce ad cc u j := by
  intro j hj hne
  match j, hj, hne with
  | 0, _, hne => simp [tc_ce, tm_L]
  | 1, _, hne => simp [tc_ce, tm_L]
  | 2, _, hne => simp [tc_ce, tm_L]
  | 3, _, hne => simp [tc_ce, tm_L]
  | 4, _, hne => simp [tc_ce, tm_L]
  | 5, _, hne => simp [tc_ce, tm_L]
  | 6, _, hne => simp [tc_ce, tm_L]
  | n + 7, hj, hne =>
    show tc_cb ad cc _ n = tc_cb ad cc u n
    unfold tc_cb
    by_cases hP : n < 2
    · rw [if_pos hP, if_pos hP]
      simp [tm_L]
    rw [if_neg hP, if_neg hP]
    by_cases hK : n < 6
    · rw [if_pos hK, if_pos hK]
      simp [tm_L]
    rw [if_neg hK, if_neg hK]
    by_cases hB : n < 14
    · rw [if_pos hB, if_pos hB]
      simp [tm_L]
    rw [if_neg hB, if_neg hB]
    by_cases hO : n < 22
    · rw [if_pos hO, if_pos hO]
      simp [tm_L]
    rw [if_neg hO, if_neg hO]
    by_cases hY : n < 25
    · rw [if_pos hY, if_pos hY]
      simp [tm_L]
    rw [if_neg hY, if_neg hY]
    have hz : ¬ n - 25 = k := by omega
    simp [tm_L, hz]
theorem tc_sX_value {v : Int64} (hk : k < 4) : (tc_w ad cc u).set (k + 32) (ad (k + 32), .inr (1, [.int (u.2.1 6 k), .int (u.2.1 7 k), .long (u.1 7 k), .int (u.2.1 8 k), .long v])) = tc_w ad cc (tm_L u 8 k v) :=
  tm_set (by omega) (by
    rw [show tc_ce ad cc (tm_L u 8 k v) (k + 32) = _ from tc_X]; simp [tm_L]) tc_uX_value_o
theorem tc_u_seed_o {j0 : Nat} {v : Int64} : ∀ j, j < 36 → j ≠ 1 → tc_ce ad cc (tm_L u 0 j0 v) j = tc_ce ad cc u j := by
  intro j hj hne
  match j, hj, hne with
  | 0, _, hne => simp [tc_ce, tm_L]
  | 1, _, hne => exact absurd rfl hne
  | 2, _, hne => simp [tc_ce, tm_L]
  | 3, _, hne => simp [tc_ce, tm_L]
  | 4, _, hne => simp [tc_ce, tm_L]
  | 5, _, hne => simp [tc_ce, tm_L]
  | 6, _, hne => simp [tc_ce, tm_L]
  | n + 7, hj, hne =>
    show tc_cb ad cc _ n = tc_cb ad cc u n
    unfold tc_cb
    by_cases hP : n < 2
    · rw [if_pos hP, if_pos hP]
      simp [tm_L]
    rw [if_neg hP, if_neg hP]
    by_cases hK : n < 6
    · rw [if_pos hK, if_pos hK]
      simp [tm_L]
    rw [if_neg hK, if_neg hK]
    by_cases hB : n < 14
    · rw [if_pos hB, if_pos hB]
      simp [tm_L]
    rw [if_neg hB, if_neg hB]
    by_cases hO : n < 22
    · rw [if_pos hO, if_pos hO]
      simp [tm_L]
    rw [if_neg hO, if_neg hO]
    by_cases hY : n < 25
    · rw [if_pos hY, if_pos hY]
      simp [tm_L]
    rw [if_neg hY, if_neg hY]
    simp [tm_L]
theorem tc_u_pcr_o {j0 : Nat} {v : Int64} (hj : j0 < 8) : ∀ j, j < 36 → j ≠ (k + 7) → tc_ce ad cc (tm_L u 1 (8 * k + j0) v) j = tc_ce ad cc u j := by
  intro j hj hne
  match j, hj, hne with
  | 0, _, hne => simp [tc_ce, tm_L]
  | 1, _, hne => simp [tc_ce, tm_L]
  | 2, _, hne => simp [tc_ce, tm_L]
  | 3, _, hne => simp [tc_ce, tm_L]
  | 4, _, hne => simp [tc_ce, tm_L]
  | 5, _, hne => simp [tc_ce, tm_L]
  | 6, _, hne => simp [tc_ce, tm_L]
  | n + 7, hj, hne =>
    show tc_cb ad cc _ n = tc_cb ad cc u n
    unfold tc_cb
    by_cases hP : n < 2
    · rw [if_pos hP, if_pos hP]
      simp only [tm_L]; congr; funext i; by_cases hi : i < 8 <;> simp [hi]; intro q; omega
    rw [if_neg hP, if_neg hP]
    by_cases hK : n < 6
    · rw [if_pos hK, if_pos hK]
      simp [tm_L]
    rw [if_neg hK, if_neg hK]
    by_cases hB : n < 14
    · rw [if_pos hB, if_pos hB]
      simp [tm_L]
    rw [if_neg hB, if_neg hB]
    by_cases hO : n < 22
    · rw [if_pos hO, if_pos hO]
      simp [tm_L]
    rw [if_neg hO, if_neg hO]
    by_cases hY : n < 25
    · rw [if_pos hY, if_pos hY]
      simp [tm_L]
    rw [if_neg hY, if_neg hY]
    simp [tm_L]
theorem tc_u_blob_o {j0 : Nat} {v : Int64} (hj : j0 < 4) : ∀ j, j < 36 → j ≠ (k + 21) → tc_ce ad cc (tm_L u 5 (4 * k + j0) v) j = tc_ce ad cc u j := by
  intro j hj hne
  match j, hj, hne with
  | 0, _, hne => simp [tc_ce, tm_L]
  | 1, _, hne => simp [tc_ce, tm_L]
  | 2, _, hne => simp [tc_ce, tm_L]
  | 3, _, hne => simp [tc_ce, tm_L]
  | 4, _, hne => simp [tc_ce, tm_L]
  | 5, _, hne => simp [tc_ce, tm_L]
  | 6, _, hne => simp [tc_ce, tm_L]
  | n + 7, hj, hne =>
    show tc_cb ad cc _ n = tc_cb ad cc u n
    unfold tc_cb
    by_cases hP : n < 2
    · rw [if_pos hP, if_pos hP]
      simp [tm_L]
    rw [if_neg hP, if_neg hP]
    by_cases hK : n < 6
    · rw [if_pos hK, if_pos hK]
      simp [tm_L]
    rw [if_neg hK, if_neg hK]
    by_cases hB : n < 14
    · rw [if_pos hB, if_pos hB]
      simp [tm_L]
    rw [if_neg hB, if_neg hB]
    by_cases hO : n < 22
    · rw [if_pos hO, if_pos hO]
      simp only [tm_L]; congr; funext i; by_cases hi : i < 4 <;> simp [hi]; intro q; omega
    rw [if_neg hO, if_neg hO]
    by_cases hY : n < 25
    · rw [if_pos hY, if_pos hY]
      simp [tm_L]
    rw [if_neg hY, if_neg hY]
    simp [tm_L]
theorem tc_s_seed {j0 : Nat} {v : Int64} : (tc_w ad cc u).set 1 (ad 1, .inl (cc 0, 3, .inr (.inl (vp_updL (u.1 0) j0 v)))) = tc_w ad cc (tm_L u 0 j0 v) :=
  tm_set (by omega) (by
    show Sum.inl (cc 0, 3, Sum.inr (Sum.inl ((tm_L u 0 j0 v).1 0))) = _
    congr; funext i; simp [tm_L, vp_updL]) tc_u_seed_o
theorem tc_s_pcr {j0 : Nat} {v : Int64} (hk : k < 2) (hj : j0 < 8) : (tc_w ad cc u).set (k + 7) (ad (k + 7), .inl (cc 0, 8, .inr (.inl (vp_updL (fun i => if i < 8 then u.1 1 (8 * k + i) else 0) j0 v)))) = tc_w ad cc (tm_L u 1 (8 * k + j0) v) :=
  tm_set (by omega) (by
    rw [tc_P hk]
    congr; funext i
    by_cases h1 : i = j0
    · subst h1; simp [tm_L, vp_updL, hj]
    · by_cases hi : i < 8 <;> simp [tm_L, vp_updL, h1, hi]) (tc_u_pcr_o hj)
theorem tc_s_blob {j0 : Nat} {v : Int64} (hk : k < 8) (hj : j0 < 4) : (tc_w ad cc u).set (k + 21) (ad (k + 21), .inl (cc 0, 4, .inr (.inl (vp_updL (fun i => if i < 4 then u.1 5 (4 * k + i) else 0) j0 v)))) = tc_w ad cc (tm_L u 5 (4 * k + j0) v) :=
  tm_set (by omega) (by
    rw [tc_O hk]
    congr; funext i
    by_cases h1 : i = j0
    · subst h1; simp [tm_L, vp_updL, hj]
    · by_cases hi : i < 4 <;> simp [tm_L, vp_updL, h1, hi]) (tc_u_blob_o hj)
end TCA
end
section
section TCR
variable {p : Program} {l : Launch} {e : Env} {R : Room} {s : State} {m : MethodId} {args : Array Value} {below : List Frame} {meth : Method} {c : Code} {H : Heap} {locs : List Loc} {cells slots : Nat} {Q : State → Prop}
variable {cb : ByteArray} {pc : Nat} {ls : Array Slot} {rest : List Value} {dC : Nat → ClassId} {dI : Nat → Nat → Nat} {A : Nat → Prop} {ad : Nat → Nat} {cc : Nat → ClassId} {u : tm_S} {own : String} {index : Nat} {Ts : List Cond}
theorem tc_gT_seeds (hx : p.tables.exec = Jvm.exec) (hb : c.code = cb) (hts : ∀ w ∈ Ts, w.before args s = true) (hin : ∀ w ∈ wsX40, w ∈ Ts) (hown : s.vm.findClass own = some m.cls) (hK : va_K (dC, dI) vwCl (tc_ty cc) s) (hP : va_P (dC, dI) vwCl (tc_w ad cc u) H) (hlink : (Cond.fieldLink own index "TrustModule" "seeds" "[J").before args s = true) (hdg : decode cb pc = .ok (.getfield index, 3))
    (kk : W p l e R s m args below meth c H locs cells slots Q (F0 m (pc + 3) ls (.ref (ad 1) :: rest))) : W p l e R s m args below meth c H locs cells slots Q (F0 m pc ls (.ref (ad 0) :: rest)) :=
  va_get (D := (dC, dI)) (ci := 4) (C := RX4) (T := TX4) (N := 15) hx hb hts hin hown hK hP 0 (tm_at (i := 0) (by omega) rfl) rfl 0 (by decide) hlink (fun _ h9 => h9) rfl hdg kk
theorem tc_gT_pcrs (hx : p.tables.exec = Jvm.exec) (hb : c.code = cb) (hts : ∀ w ∈ Ts, w.before args s = true) (hin : ∀ w ∈ wsX40, w ∈ Ts) (hown : s.vm.findClass own = some m.cls) (hK : va_K (dC, dI) vwCl (tc_ty cc) s) (hP : va_P (dC, dI) vwCl (tc_w ad cc u) H) (hlink : (Cond.fieldLink own index "TrustModule" "pcrs" "[[J").before args s = true) (hdg : decode cb pc = .ok (.getfield index, 3))
    (kk : W p l e R s m args below meth c H locs cells slots Q (F0 m (pc + 3) ls (.ref (ad 2) :: rest))) : W p l e R s m args below meth c H locs cells slots Q (F0 m pc ls (.ref (ad 0) :: rest)) :=
  va_get (D := (dC, dI)) (ci := 4) (C := RX4) (T := TX4) (N := 15) hx hb hts hin hown hK hP 0 (tm_at (i := 0) (by omega) rfl) rfl 1 (by decide) hlink (fun _ h9 => h9) rfl hdg kk
theorem tc_gT_keys (hx : p.tables.exec = Jvm.exec) (hb : c.code = cb) (hts : ∀ w ∈ Ts, w.before args s = true) (hin : ∀ w ∈ wsX40, w ∈ Ts) (hown : s.vm.findClass own = some m.cls) (hK : va_K (dC, dI) vwCl (tc_ty cc) s) (hP : va_P (dC, dI) vwCl (tc_w ad cc u) H) (hlink : (Cond.fieldLink own index "TrustModule" "keys" "[LTrustModule$Key;").before args s = true) (hdg : decode cb pc = .ok (.getfield index, 3))
    (kk : W p l e R s m args below meth c H locs cells slots Q (F0 m (pc + 3) ls (.ref (ad 3) :: rest))) : W p l e R s m args below meth c H locs cells slots Q (F0 m pc ls (.ref (ad 0) :: rest)) :=
  va_get (D := (dC, dI)) (ci := 4) (C := RX4) (T := TX4) (N := 15) hx hb hts hin hown hK hP 0 (tm_at (i := 0) (by omega) rfl) rfl 2 (by decide) hlink (fun _ h9 => h9) rfl hdg kk
theorem tc_gT_blobs (hx : p.tables.exec = Jvm.exec) (hb : c.code = cb) (hts : ∀ w ∈ Ts, w.before args s = true) (hin : ∀ w ∈ wsX40, w ∈ Ts) (hown : s.vm.findClass own = some m.cls) (hK : va_K (dC, dI) vwCl (tc_ty cc) s) (hP : va_P (dC, dI) vwCl (tc_w ad cc u) H) (hlink : (Cond.fieldLink own index "TrustModule" "blobs" "[LTrustModule$Blob;").before args s = true) (hdg : decode cb pc = .ok (.getfield index, 3))
    (kk : W p l e R s m args below meth c H locs cells slots Q (F0 m (pc + 3) ls (.ref (ad 4) :: rest))) : W p l e R s m args below meth c H locs cells slots Q (F0 m pc ls (.ref (ad 0) :: rest)) :=
  va_get (D := (dC, dI)) (ci := 4) (C := RX4) (T := TX4) (N := 15) hx hb hts hin hown hK hP 0 (tm_at (i := 0) (by omega) rfl) rfl 3 (by decide) hlink (fun _ h9 => h9) rfl hdg kk
theorem tc_gT_sessions (hx : p.tables.exec = Jvm.exec) (hb : c.code = cb) (hts : ∀ w ∈ Ts, w.before args s = true) (hin : ∀ w ∈ wsX40, w ∈ Ts) (hown : s.vm.findClass own = some m.cls) (hK : va_K (dC, dI) vwCl (tc_ty cc) s) (hP : va_P (dC, dI) vwCl (tc_w ad cc u) H) (hlink : (Cond.fieldLink own index "TrustModule" "sessions" "[LTrustModule$Session;").before args s = true) (hdg : decode cb pc = .ok (.getfield index, 3))
    (kk : W p l e R s m args below meth c H locs cells slots Q (F0 m (pc + 3) ls (.ref (ad 5) :: rest))) : W p l e R s m args below meth c H locs cells slots Q (F0 m pc ls (.ref (ad 0) :: rest)) :=
  va_get (D := (dC, dI)) (ci := 4) (C := RX4) (T := TX4) (N := 15) hx hb hts hin hown hK hP 0 (tm_at (i := 0) (by omega) rfl) rfl 4 (by decide) hlink (fun _ h9 => h9) rfl hdg kk
theorem tc_gT_indices (hx : p.tables.exec = Jvm.exec) (hb : c.code = cb) (hts : ∀ w ∈ Ts, w.before args s = true) (hin : ∀ w ∈ wsX40, w ∈ Ts) (hown : s.vm.findClass own = some m.cls) (hK : va_K (dC, dI) vwCl (tc_ty cc) s) (hP : va_P (dC, dI) vwCl (tc_w ad cc u) H) (hlink : (Cond.fieldLink own index "TrustModule" "indices" "[LTrustModule$Index;").before args s = true) (hdg : decode cb pc = .ok (.getfield index, 3))
    (kk : W p l e R s m args below meth c H locs cells slots Q (F0 m (pc + 3) ls (.ref (ad 6) :: rest))) : W p l e R s m args below meth c H locs cells slots Q (F0 m pc ls (.ref (ad 0) :: rest)) :=
  va_get (D := (dC, dI)) (ci := 4) (C := RX4) (T := TX4) (N := 15) hx hb hts hin hown hK hP 0 (tm_at (i := 0) (by omega) rfl) rfl 5 (by decide) hlink (fun _ h9 => h9) rfl hdg kk
theorem tc_gT_pcrCount (hx : p.tables.exec = Jvm.exec) (hb : c.code = cb) (hts : ∀ w ∈ Ts, w.before args s = true) (hin : ∀ w ∈ wsX40, w ∈ Ts) (hown : s.vm.findClass own = some m.cls) (hK : va_K (dC, dI) vwCl (tc_ty cc) s) (hP : va_P (dC, dI) vwCl (tc_w ad cc u) H) (hlink : (Cond.fieldLink own index "TrustModule" "pcrCount" "I").before args s = true) (hdg : decode cb pc = .ok (.getfield index, 3))
    (kk : W p l e R s m args below meth c H locs cells slots Q (F0 m (pc + 3) ls (.int (u.2.1 9 0) :: rest))) : W p l e R s m args below meth c H locs cells slots Q (F0 m pc ls (.ref (ad 0) :: rest)) :=
  va_get (D := (dC, dI)) (ci := 4) (C := RX4) (T := TX4) (N := 15) hx hb hts hin hown hK hP 0 (tm_at (i := 0) (by omega) rfl) rfl 6 (by decide) hlink (fun _ h9 => h9) rfl hdg kk
theorem tc_pT_pcrCount {v : Int32} (hx : p.tables.exec = Jvm.exec) (hb : c.code = cb) (hts : ∀ w ∈ Ts, w.before args s = true) (hin : ∀ w ∈ wsX40, w ∈ Ts) (hown : s.vm.findClass own = some m.cls) (hK : va_K (dC, dI) vwCl (tc_ty cc) s) (hP : va_P (dC, dI) vwCl (tc_w ad cc u) H) (hD : va_D A (tc_w ad cc u)) (hS : va_S A s.heap H locs) (hlink : (Cond.fieldLink own index "TrustModule" "pcrCount" "I").before args s = true) (hdg : decode cb pc = .ok (.putfield index, 3))
    (kk : ∀ (H1 : Heap) (locs1 : List Loc), va_P (dC, dI) vwCl (tc_w ad cc (tm_I u 9 0 v)) H1 → va_D A (tc_w ad cc (tm_I u 9 0 v)) → va_S A s.heap H1 locs1 → W p l e R s m args below meth c H1 locs1 cells slots Q (F0 m (pc + 3) ls rest)) : W p l e R s m args below meth c H locs cells slots Q (F0 m pc ls (.int v :: .ref (ad 0) :: rest)) := by
  refine va_put (D := (dC, dI)) (ci := 4) (ty := .int) (C := RX4) (T := TX4) (N := 15) hx hb hts hin tyX4 tyX4_ok nmX4 hown hK hP hD hS 0 (tm_at (i := 0) (by omega) rfl) rfl 6 (by decide) hlink (fun _ h9 => h9) rfl (by decide +kernel) rfl rfl (Nat.le_of_ble_eq_true rfl) hdg (fun H1 locs1 h1 h2 h3 => ?_)
  have e1 := tc_sT_pcrCount (ad := ad) (cc := cc) (u := u) (v := v)
  exact kk H1 locs1 (e1 ▸ h1) (e1 ▸ h2) h3
theorem tc_gT_greatestCounted (hx : p.tables.exec = Jvm.exec) (hb : c.code = cb) (hts : ∀ w ∈ Ts, w.before args s = true) (hin : ∀ w ∈ wsX40, w ∈ Ts) (hown : s.vm.findClass own = some m.cls) (hK : va_K (dC, dI) vwCl (tc_ty cc) s) (hP : va_P (dC, dI) vwCl (tc_w ad cc u) H) (hlink : (Cond.fieldLink own index "TrustModule" "greatestCounted" "J").before args s = true) (hdg : decode cb pc = .ok (.getfield index, 3))
    (kk : W p l e R s m args below meth c H locs cells slots Q (F0 m (pc + 3) ls (.long (u.1 9 0) :: rest))) : W p l e R s m args below meth c H locs cells slots Q (F0 m pc ls (.ref (ad 0) :: rest)) :=
  va_get (D := (dC, dI)) (ci := 4) (C := RX4) (T := TX4) (N := 15) hx hb hts hin hown hK hP 0 (tm_at (i := 0) (by omega) rfl) rfl 7 (by decide) hlink (fun _ h9 => h9) rfl hdg kk
theorem tc_pT_greatestCounted {v : Int64} (hx : p.tables.exec = Jvm.exec) (hb : c.code = cb) (hts : ∀ w ∈ Ts, w.before args s = true) (hin : ∀ w ∈ wsX40, w ∈ Ts) (hown : s.vm.findClass own = some m.cls) (hK : va_K (dC, dI) vwCl (tc_ty cc) s) (hP : va_P (dC, dI) vwCl (tc_w ad cc u) H) (hD : va_D A (tc_w ad cc u)) (hS : va_S A s.heap H locs) (hlink : (Cond.fieldLink own index "TrustModule" "greatestCounted" "J").before args s = true) (hdg : decode cb pc = .ok (.putfield index, 3))
    (kk : ∀ (H1 : Heap) (locs1 : List Loc), va_P (dC, dI) vwCl (tc_w ad cc (tm_L u 9 0 v)) H1 → va_D A (tc_w ad cc (tm_L u 9 0 v)) → va_S A s.heap H1 locs1 → W p l e R s m args below meth c H1 locs1 cells slots Q (F0 m (pc + 3) ls rest)) : W p l e R s m args below meth c H locs cells slots Q (F0 m pc ls (.long v :: .ref (ad 0) :: rest)) := by
  refine va_put (D := (dC, dI)) (ci := 4) (ty := .long) (C := RX4) (T := TX4) (N := 15) hx hb hts hin tyX4 tyX4_ok nmX4 hown hK hP hD hS 0 (tm_at (i := 0) (by omega) rfl) rfl 7 (by decide) hlink (fun _ h9 => h9) rfl (by decide +kernel) rfl rfl (Nat.le_of_ble_eq_true rfl) hdg (fun H1 locs1 h1 h2 h3 => ?_)
  have e1 := tc_sT_greatestCounted (ad := ad) (cc := cc) (u := u) (v := v)
  exact kk H1 locs1 (e1 ▸ h1) (e1 ▸ h2) h3
theorem tc_gT_powerLeft (hx : p.tables.exec = Jvm.exec) (hb : c.code = cb) (hts : ∀ w ∈ Ts, w.before args s = true) (hin : ∀ w ∈ wsX40, w ∈ Ts) (hown : s.vm.findClass own = some m.cls) (hK : va_K (dC, dI) vwCl (tc_ty cc) s) (hP : va_P (dC, dI) vwCl (tc_w ad cc u) H) (hlink : (Cond.fieldLink own index "TrustModule" "powerLeft" "I").before args s = true) (hdg : decode cb pc = .ok (.getfield index, 3))
    (kk : W p l e R s m args below meth c H locs cells slots Q (F0 m (pc + 3) ls (.int (u.2.1 10 0) :: rest))) : W p l e R s m args below meth c H locs cells slots Q (F0 m pc ls (.ref (ad 0) :: rest)) :=
  va_get (D := (dC, dI)) (ci := 4) (C := RX4) (T := TX4) (N := 15) hx hb hts hin hown hK hP 0 (tm_at (i := 0) (by omega) rfl) rfl 8 (by decide) hlink (fun _ h9 => h9) rfl hdg kk
theorem tc_pT_powerLeft {v : Int32} (hx : p.tables.exec = Jvm.exec) (hb : c.code = cb) (hts : ∀ w ∈ Ts, w.before args s = true) (hin : ∀ w ∈ wsX40, w ∈ Ts) (hown : s.vm.findClass own = some m.cls) (hK : va_K (dC, dI) vwCl (tc_ty cc) s) (hP : va_P (dC, dI) vwCl (tc_w ad cc u) H) (hD : va_D A (tc_w ad cc u)) (hS : va_S A s.heap H locs) (hlink : (Cond.fieldLink own index "TrustModule" "powerLeft" "I").before args s = true) (hdg : decode cb pc = .ok (.putfield index, 3))
    (kk : ∀ (H1 : Heap) (locs1 : List Loc), va_P (dC, dI) vwCl (tc_w ad cc (tm_I u 10 0 v)) H1 → va_D A (tc_w ad cc (tm_I u 10 0 v)) → va_S A s.heap H1 locs1 → W p l e R s m args below meth c H1 locs1 cells slots Q (F0 m (pc + 3) ls rest)) : W p l e R s m args below meth c H locs cells slots Q (F0 m pc ls (.int v :: .ref (ad 0) :: rest)) := by
  refine va_put (D := (dC, dI)) (ci := 4) (ty := .int) (C := RX4) (T := TX4) (N := 15) hx hb hts hin tyX4 tyX4_ok nmX4 hown hK hP hD hS 0 (tm_at (i := 0) (by omega) rfl) rfl 8 (by decide) hlink (fun _ h9 => h9) rfl (by decide +kernel) rfl rfl (Nat.le_of_ble_eq_true rfl) hdg (fun H1 locs1 h1 h2 h3 => ?_)
  have e1 := tc_sT_powerLeft (ad := ad) (cc := cc) (u := u) (v := v)
  exact kk H1 locs1 (e1 ▸ h1) (e1 ▸ h2) h3
theorem tc_gT_lost (hx : p.tables.exec = Jvm.exec) (hb : c.code = cb) (hts : ∀ w ∈ Ts, w.before args s = true) (hin : ∀ w ∈ wsX40, w ∈ Ts) (hown : s.vm.findClass own = some m.cls) (hK : va_K (dC, dI) vwCl (tc_ty cc) s) (hP : va_P (dC, dI) vwCl (tc_w ad cc u) H) (hlink : (Cond.fieldLink own index "TrustModule" "lost" "Z").before args s = true) (hdg : decode cb pc = .ok (.getfield index, 3))
    (kk : W p l e R s m args below meth c H locs cells slots Q (F0 m (pc + 3) ls (.int (u.2.1 11 0) :: rest))) : W p l e R s m args below meth c H locs cells slots Q (F0 m pc ls (.ref (ad 0) :: rest)) :=
  va_get (D := (dC, dI)) (ci := 4) (C := RX4) (T := TX4) (N := 15) hx hb hts hin hown hK hP 0 (tm_at (i := 0) (by omega) rfl) rfl 9 (by decide) hlink (fun _ h9 => h9) rfl hdg kk
theorem tc_pT_lost {v : Int32} (hx : p.tables.exec = Jvm.exec) (hb : c.code = cb) (hts : ∀ w ∈ Ts, w.before args s = true) (hin : ∀ w ∈ wsX40, w ∈ Ts) (hown : s.vm.findClass own = some m.cls) (hK : va_K (dC, dI) vwCl (tc_ty cc) s) (hP : va_P (dC, dI) vwCl (tc_w ad cc u) H) (hD : va_D A (tc_w ad cc u)) (hS : va_S A s.heap H locs) (hn : narrow .boolean (.int v) = .int v) (hfit : fits .boolean (.int v) = true) (hlink : (Cond.fieldLink own index "TrustModule" "lost" "Z").before args s = true) (hdg : decode cb pc = .ok (.putfield index, 3))
    (kk : ∀ (H1 : Heap) (locs1 : List Loc), va_P (dC, dI) vwCl (tc_w ad cc (tm_I u 11 0 v)) H1 → va_D A (tc_w ad cc (tm_I u 11 0 v)) → va_S A s.heap H1 locs1 → W p l e R s m args below meth c H1 locs1 cells slots Q (F0 m (pc + 3) ls rest)) : W p l e R s m args below meth c H locs cells slots Q (F0 m pc ls (.int v :: .ref (ad 0) :: rest)) := by
  refine va_put (D := (dC, dI)) (ci := 4) (ty := .boolean) (C := RX4) (T := TX4) (N := 15) hx hb hts hin tyX4 tyX4_ok nmX4 hown hK hP hD hS 0 (tm_at (i := 0) (by omega) rfl) rfl 9 (by decide) hlink (fun _ h9 => h9) rfl (by decide +kernel) hn hfit (Nat.le_of_ble_eq_true rfl) hdg (fun H1 locs1 h1 h2 h3 => ?_)
  have e1 := tc_sT_lost (ad := ad) (cc := cc) (u := u) (v := v)
  exact kk H1 locs1 (e1 ▸ h1) (e1 ▸ h2) h3
theorem tc_gT_timesLost (hx : p.tables.exec = Jvm.exec) (hb : c.code = cb) (hts : ∀ w ∈ Ts, w.before args s = true) (hin : ∀ w ∈ wsX40, w ∈ Ts) (hown : s.vm.findClass own = some m.cls) (hK : va_K (dC, dI) vwCl (tc_ty cc) s) (hP : va_P (dC, dI) vwCl (tc_w ad cc u) H) (hlink : (Cond.fieldLink own index "TrustModule" "timesLost" "I").before args s = true) (hdg : decode cb pc = .ok (.getfield index, 3))
    (kk : W p l e R s m args below meth c H locs cells slots Q (F0 m (pc + 3) ls (.int (u.2.1 12 0) :: rest))) : W p l e R s m args below meth c H locs cells slots Q (F0 m pc ls (.ref (ad 0) :: rest)) :=
  va_get (D := (dC, dI)) (ci := 4) (C := RX4) (T := TX4) (N := 15) hx hb hts hin hown hK hP 0 (tm_at (i := 0) (by omega) rfl) rfl 10 (by decide) hlink (fun _ h9 => h9) rfl hdg kk
theorem tc_pT_timesLost {v : Int32} (hx : p.tables.exec = Jvm.exec) (hb : c.code = cb) (hts : ∀ w ∈ Ts, w.before args s = true) (hin : ∀ w ∈ wsX40, w ∈ Ts) (hown : s.vm.findClass own = some m.cls) (hK : va_K (dC, dI) vwCl (tc_ty cc) s) (hP : va_P (dC, dI) vwCl (tc_w ad cc u) H) (hD : va_D A (tc_w ad cc u)) (hS : va_S A s.heap H locs) (hlink : (Cond.fieldLink own index "TrustModule" "timesLost" "I").before args s = true) (hdg : decode cb pc = .ok (.putfield index, 3))
    (kk : ∀ (H1 : Heap) (locs1 : List Loc), va_P (dC, dI) vwCl (tc_w ad cc (tm_I u 12 0 v)) H1 → va_D A (tc_w ad cc (tm_I u 12 0 v)) → va_S A s.heap H1 locs1 → W p l e R s m args below meth c H1 locs1 cells slots Q (F0 m (pc + 3) ls rest)) : W p l e R s m args below meth c H locs cells slots Q (F0 m pc ls (.int v :: .ref (ad 0) :: rest)) := by
  refine va_put (D := (dC, dI)) (ci := 4) (ty := .int) (C := RX4) (T := TX4) (N := 15) hx hb hts hin tyX4 tyX4_ok nmX4 hown hK hP hD hS 0 (tm_at (i := 0) (by omega) rfl) rfl 10 (by decide) hlink (fun _ h9 => h9) rfl (by decide +kernel) rfl rfl (Nat.le_of_ble_eq_true rfl) hdg (fun H1 locs1 h1 h2 h3 => ?_)
  have e1 := tc_sT_timesLost (ad := ad) (cc := cc) (u := u) (v := v)
  exact kk H1 locs1 (e1 ▸ h1) (e1 ▸ h2) h3
theorem tc_gT_wrongGuesses (hx : p.tables.exec = Jvm.exec) (hb : c.code = cb) (hts : ∀ w ∈ Ts, w.before args s = true) (hin : ∀ w ∈ wsX40, w ∈ Ts) (hown : s.vm.findClass own = some m.cls) (hK : va_K (dC, dI) vwCl (tc_ty cc) s) (hP : va_P (dC, dI) vwCl (tc_w ad cc u) H) (hlink : (Cond.fieldLink own index "TrustModule" "wrongGuesses" "I").before args s = true) (hdg : decode cb pc = .ok (.getfield index, 3))
    (kk : W p l e R s m args below meth c H locs cells slots Q (F0 m (pc + 3) ls (.int (u.2.1 13 0) :: rest))) : W p l e R s m args below meth c H locs cells slots Q (F0 m pc ls (.ref (ad 0) :: rest)) :=
  va_get (D := (dC, dI)) (ci := 4) (C := RX4) (T := TX4) (N := 15) hx hb hts hin hown hK hP 0 (tm_at (i := 0) (by omega) rfl) rfl 11 (by decide) hlink (fun _ h9 => h9) rfl hdg kk
theorem tc_pT_wrongGuesses {v : Int32} (hx : p.tables.exec = Jvm.exec) (hb : c.code = cb) (hts : ∀ w ∈ Ts, w.before args s = true) (hin : ∀ w ∈ wsX40, w ∈ Ts) (hown : s.vm.findClass own = some m.cls) (hK : va_K (dC, dI) vwCl (tc_ty cc) s) (hP : va_P (dC, dI) vwCl (tc_w ad cc u) H) (hD : va_D A (tc_w ad cc u)) (hS : va_S A s.heap H locs) (hlink : (Cond.fieldLink own index "TrustModule" "wrongGuesses" "I").before args s = true) (hdg : decode cb pc = .ok (.putfield index, 3))
    (kk : ∀ (H1 : Heap) (locs1 : List Loc), va_P (dC, dI) vwCl (tc_w ad cc (tm_I u 13 0 v)) H1 → va_D A (tc_w ad cc (tm_I u 13 0 v)) → va_S A s.heap H1 locs1 → W p l e R s m args below meth c H1 locs1 cells slots Q (F0 m (pc + 3) ls rest)) : W p l e R s m args below meth c H locs cells slots Q (F0 m pc ls (.int v :: .ref (ad 0) :: rest)) := by
  refine va_put (D := (dC, dI)) (ci := 4) (ty := .int) (C := RX4) (T := TX4) (N := 15) hx hb hts hin tyX4 tyX4_ok nmX4 hown hK hP hD hS 0 (tm_at (i := 0) (by omega) rfl) rfl 11 (by decide) hlink (fun _ h9 => h9) rfl (by decide +kernel) rfl rfl (Nat.le_of_ble_eq_true rfl) hdg (fun H1 locs1 h1 h2 h3 => ?_)
  have e1 := tc_sT_wrongGuesses (ad := ad) (cc := cc) (u := u) (v := v)
  exact kk H1 locs1 (e1 ▸ h1) (e1 ▸ h2) h3
theorem tc_gT_mark (hx : p.tables.exec = Jvm.exec) (hb : c.code = cb) (hts : ∀ w ∈ Ts, w.before args s = true) (hin : ∀ w ∈ wsX40, w ∈ Ts) (hown : s.vm.findClass own = some m.cls) (hK : va_K (dC, dI) vwCl (tc_ty cc) s) (hP : va_P (dC, dI) vwCl (tc_w ad cc u) H) (hlink : (Cond.fieldLink own index "TrustModule" "mark" "D").before args s = true) (hdg : decode cb pc = .ok (.getfield index, 3))
    (kk : W p l e R s m args below meth c H locs cells slots Q (F0 m (pc + 3) ls (.double (u.2.2 0) :: rest))) : W p l e R s m args below meth c H locs cells slots Q (F0 m pc ls (.ref (ad 0) :: rest)) :=
  va_get (D := (dC, dI)) (ci := 4) (C := RX4) (T := TX4) (N := 15) hx hb hts hin hown hK hP 0 (tm_at (i := 0) (by omega) rfl) rfl 12 (by decide) hlink (fun _ h9 => h9) rfl hdg kk
theorem tc_pT_mark {v : UInt64} (hx : p.tables.exec = Jvm.exec) (hb : c.code = cb) (hts : ∀ w ∈ Ts, w.before args s = true) (hin : ∀ w ∈ wsX40, w ∈ Ts) (hown : s.vm.findClass own = some m.cls) (hK : va_K (dC, dI) vwCl (tc_ty cc) s) (hP : va_P (dC, dI) vwCl (tc_w ad cc u) H) (hD : va_D A (tc_w ad cc u)) (hS : va_S A s.heap H locs) (hlink : (Cond.fieldLink own index "TrustModule" "mark" "D").before args s = true) (hdg : decode cb pc = .ok (.putfield index, 3))
    (kk : ∀ (H1 : Heap) (locs1 : List Loc), va_P (dC, dI) vwCl (tc_w ad cc (tm_D u 0 v)) H1 → va_D A (tc_w ad cc (tm_D u 0 v)) → va_S A s.heap H1 locs1 → W p l e R s m args below meth c H1 locs1 cells slots Q (F0 m (pc + 3) ls rest)) : W p l e R s m args below meth c H locs cells slots Q (F0 m pc ls (.double v :: .ref (ad 0) :: rest)) := by
  refine va_put (D := (dC, dI)) (ci := 4) (ty := .double) (C := RX4) (T := TX4) (N := 15) hx hb hts hin tyX4 tyX4_ok nmX4 hown hK hP hD hS 0 (tm_at (i := 0) (by omega) rfl) rfl 12 (by decide) hlink (fun _ h9 => h9) rfl (by decide +kernel) rfl rfl (Nat.le_of_ble_eq_true rfl) hdg (fun H1 locs1 h1 h2 h3 => ?_)
  have e1 := tc_sT_mark (ad := ad) (cc := cc) (u := u) (v := v)
  exact kk H1 locs1 (e1 ▸ h1) (e1 ▸ h2) h3
theorem tc_gT_now (hx : p.tables.exec = Jvm.exec) (hb : c.code = cb) (hts : ∀ w ∈ Ts, w.before args s = true) (hin : ∀ w ∈ wsX40, w ∈ Ts) (hown : s.vm.findClass own = some m.cls) (hK : va_K (dC, dI) vwCl (tc_ty cc) s) (hP : va_P (dC, dI) vwCl (tc_w ad cc u) H) (hlink : (Cond.fieldLink own index "TrustModule" "now" "D").before args s = true) (hdg : decode cb pc = .ok (.getfield index, 3))
    (kk : W p l e R s m args below meth c H locs cells slots Q (F0 m (pc + 3) ls (.double (u.2.2 1) :: rest))) : W p l e R s m args below meth c H locs cells slots Q (F0 m pc ls (.ref (ad 0) :: rest)) :=
  va_get (D := (dC, dI)) (ci := 4) (C := RX4) (T := TX4) (N := 15) hx hb hts hin hown hK hP 0 (tm_at (i := 0) (by omega) rfl) rfl 13 (by decide) hlink (fun _ h9 => h9) rfl hdg kk
theorem tc_pT_now {v : UInt64} (hx : p.tables.exec = Jvm.exec) (hb : c.code = cb) (hts : ∀ w ∈ Ts, w.before args s = true) (hin : ∀ w ∈ wsX40, w ∈ Ts) (hown : s.vm.findClass own = some m.cls) (hK : va_K (dC, dI) vwCl (tc_ty cc) s) (hP : va_P (dC, dI) vwCl (tc_w ad cc u) H) (hD : va_D A (tc_w ad cc u)) (hS : va_S A s.heap H locs) (hlink : (Cond.fieldLink own index "TrustModule" "now" "D").before args s = true) (hdg : decode cb pc = .ok (.putfield index, 3))
    (kk : ∀ (H1 : Heap) (locs1 : List Loc), va_P (dC, dI) vwCl (tc_w ad cc (tm_D u 1 v)) H1 → va_D A (tc_w ad cc (tm_D u 1 v)) → va_S A s.heap H1 locs1 → W p l e R s m args below meth c H1 locs1 cells slots Q (F0 m (pc + 3) ls rest)) : W p l e R s m args below meth c H locs cells slots Q (F0 m pc ls (.double v :: .ref (ad 0) :: rest)) := by
  refine va_put (D := (dC, dI)) (ci := 4) (ty := .double) (C := RX4) (T := TX4) (N := 15) hx hb hts hin tyX4 tyX4_ok nmX4 hown hK hP hD hS 0 (tm_at (i := 0) (by omega) rfl) rfl 13 (by decide) hlink (fun _ h9 => h9) rfl (by decide +kernel) rfl rfl (Nat.le_of_ble_eq_true rfl) hdg (fun H1 locs1 h1 h2 h3 => ?_)
  have e1 := tc_sT_now (ad := ad) (cc := cc) (u := u) (v := v)
  exact kk H1 locs1 (e1 ▸ h1) (e1 ▸ h2) h3
theorem tc_gT_pace (hx : p.tables.exec = Jvm.exec) (hb : c.code = cb) (hts : ∀ w ∈ Ts, w.before args s = true) (hin : ∀ w ∈ wsX40, w ∈ Ts) (hown : s.vm.findClass own = some m.cls) (hK : va_K (dC, dI) vwCl (tc_ty cc) s) (hP : va_P (dC, dI) vwCl (tc_w ad cc u) H) (hlink : (Cond.fieldLink own index "TrustModule" "pace" "D").before args s = true) (hdg : decode cb pc = .ok (.getfield index, 3))
    (kk : W p l e R s m args below meth c H locs cells slots Q (F0 m (pc + 3) ls (.double (u.2.2 2) :: rest))) : W p l e R s m args below meth c H locs cells slots Q (F0 m pc ls (.ref (ad 0) :: rest)) :=
  va_get (D := (dC, dI)) (ci := 4) (C := RX4) (T := TX4) (N := 15) hx hb hts hin hown hK hP 0 (tm_at (i := 0) (by omega) rfl) rfl 14 (by decide) hlink (fun _ h9 => h9) rfl hdg kk
theorem tc_pT_pace {v : UInt64} (hx : p.tables.exec = Jvm.exec) (hb : c.code = cb) (hts : ∀ w ∈ Ts, w.before args s = true) (hin : ∀ w ∈ wsX40, w ∈ Ts) (hown : s.vm.findClass own = some m.cls) (hK : va_K (dC, dI) vwCl (tc_ty cc) s) (hP : va_P (dC, dI) vwCl (tc_w ad cc u) H) (hD : va_D A (tc_w ad cc u)) (hS : va_S A s.heap H locs) (hlink : (Cond.fieldLink own index "TrustModule" "pace" "D").before args s = true) (hdg : decode cb pc = .ok (.putfield index, 3))
    (kk : ∀ (H1 : Heap) (locs1 : List Loc), va_P (dC, dI) vwCl (tc_w ad cc (tm_D u 2 v)) H1 → va_D A (tc_w ad cc (tm_D u 2 v)) → va_S A s.heap H1 locs1 → W p l e R s m args below meth c H1 locs1 cells slots Q (F0 m (pc + 3) ls rest)) : W p l e R s m args below meth c H locs cells slots Q (F0 m pc ls (.double v :: .ref (ad 0) :: rest)) := by
  refine va_put (D := (dC, dI)) (ci := 4) (ty := .double) (C := RX4) (T := TX4) (N := 15) hx hb hts hin tyX4 tyX4_ok nmX4 hown hK hP hD hS 0 (tm_at (i := 0) (by omega) rfl) rfl 14 (by decide) hlink (fun _ h9 => h9) rfl (by decide +kernel) rfl rfl (Nat.le_of_ble_eq_true rfl) hdg (fun H1 locs1 h1 h2 h3 => ?_)
  have e1 := tc_sT_pace (ad := ad) (cc := cc) (u := u) (v := v)
  exact kk H1 locs1 (e1 ▸ h1) (e1 ▸ h2) h3
theorem tc_gK_held {k : Nat} (hx : p.tables.exec = Jvm.exec) (hb : c.code = cb) (hts : ∀ w ∈ Ts, w.before args s = true) (hin : ∀ w ∈ wsX20, w ∈ Ts) (hown : s.vm.findClass own = some m.cls) (hK : va_K (dC, dI) vwCl (tc_ty cc) s) (hP : va_P (dC, dI) vwCl (tc_w ad cc u) H) (hk : k < 4) (hlink : (Cond.fieldLink own index "TrustModule$Key" "held" "Z").before args s = true) (hdg : decode cb pc = .ok (.getfield index, 3))
    (kk : W p l e R s m args below meth c H locs cells slots Q (F0 m (pc + 3) ls (.int (u.2.1 0 k) :: rest))) : W p l e R s m args below meth c H locs cells slots Q (F0 m pc ls (.ref (ad (k + 9)) :: rest)) :=
  va_get (D := (dC, dI)) (ci := 2) (C := RX2) (T := TX2) (N := 6) hx hb hts hin hown hK hP (k + 9) (tm_at (i := (k + 9)) (by omega) (tc_K hk)) rfl 0 (by decide) hlink (fun _ h9 => h9) rfl hdg kk
theorem tc_pK_held {k : Nat} {v : Int32} (hx : p.tables.exec = Jvm.exec) (hb : c.code = cb) (hts : ∀ w ∈ Ts, w.before args s = true) (hin : ∀ w ∈ wsX20, w ∈ Ts) (hown : s.vm.findClass own = some m.cls) (hK : va_K (dC, dI) vwCl (tc_ty cc) s) (hP : va_P (dC, dI) vwCl (tc_w ad cc u) H) (hD : va_D A (tc_w ad cc u)) (hS : va_S A s.heap H locs) (hk : k < 4) (hn : narrow .boolean (.int v) = .int v) (hfit : fits .boolean (.int v) = true) (hlink : (Cond.fieldLink own index "TrustModule$Key" "held" "Z").before args s = true) (hdg : decode cb pc = .ok (.putfield index, 3))
    (kk : ∀ (H1 : Heap) (locs1 : List Loc), va_P (dC, dI) vwCl (tc_w ad cc (tm_I u 0 k v)) H1 → va_D A (tc_w ad cc (tm_I u 0 k v)) → va_S A s.heap H1 locs1 → W p l e R s m args below meth c H1 locs1 cells slots Q (F0 m (pc + 3) ls rest)) : W p l e R s m args below meth c H locs cells slots Q (F0 m pc ls (.int v :: .ref (ad (k + 9)) :: rest)) := by
  refine va_put (D := (dC, dI)) (ci := 2) (ty := .boolean) (C := RX2) (T := TX2) (N := 6) hx hb hts hin tyX2 tyX2_ok nmX2 hown hK hP hD hS (k + 9) (tm_at (i := (k + 9)) (by omega) (tc_K hk)) rfl 0 (by decide) hlink (fun _ h9 => h9) rfl (by decide +kernel) hn hfit (Nat.le_of_ble_eq_true rfl) hdg (fun H1 locs1 h1 h2 h3 => ?_)
  have e1 := tc_sK_held (ad := ad) (cc := cc) (u := u) (v := v) hk
  exact kk H1 locs1 (e1 ▸ h1) (e1 ▸ h2) h3
theorem tc_gK_value {k : Nat} (hx : p.tables.exec = Jvm.exec) (hb : c.code = cb) (hts : ∀ w ∈ Ts, w.before args s = true) (hin : ∀ w ∈ wsX20, w ∈ Ts) (hown : s.vm.findClass own = some m.cls) (hK : va_K (dC, dI) vwCl (tc_ty cc) s) (hP : va_P (dC, dI) vwCl (tc_w ad cc u) H) (hk : k < 4) (hlink : (Cond.fieldLink own index "TrustModule$Key" "value" "J").before args s = true) (hdg : decode cb pc = .ok (.getfield index, 3))
    (kk : W p l e R s m args below meth c H locs cells slots Q (F0 m (pc + 3) ls (.long (u.1 2 k) :: rest))) : W p l e R s m args below meth c H locs cells slots Q (F0 m pc ls (.ref (ad (k + 9)) :: rest)) :=
  va_get (D := (dC, dI)) (ci := 2) (C := RX2) (T := TX2) (N := 6) hx hb hts hin hown hK hP (k + 9) (tm_at (i := (k + 9)) (by omega) (tc_K hk)) rfl 1 (by decide) hlink (fun _ h9 => h9) rfl hdg kk
theorem tc_pK_value {k : Nat} {v : Int64} (hx : p.tables.exec = Jvm.exec) (hb : c.code = cb) (hts : ∀ w ∈ Ts, w.before args s = true) (hin : ∀ w ∈ wsX20, w ∈ Ts) (hown : s.vm.findClass own = some m.cls) (hK : va_K (dC, dI) vwCl (tc_ty cc) s) (hP : va_P (dC, dI) vwCl (tc_w ad cc u) H) (hD : va_D A (tc_w ad cc u)) (hS : va_S A s.heap H locs) (hk : k < 4) (hlink : (Cond.fieldLink own index "TrustModule$Key" "value" "J").before args s = true) (hdg : decode cb pc = .ok (.putfield index, 3))
    (kk : ∀ (H1 : Heap) (locs1 : List Loc), va_P (dC, dI) vwCl (tc_w ad cc (tm_L u 2 k v)) H1 → va_D A (tc_w ad cc (tm_L u 2 k v)) → va_S A s.heap H1 locs1 → W p l e R s m args below meth c H1 locs1 cells slots Q (F0 m (pc + 3) ls rest)) : W p l e R s m args below meth c H locs cells slots Q (F0 m pc ls (.long v :: .ref (ad (k + 9)) :: rest)) := by
  refine va_put (D := (dC, dI)) (ci := 2) (ty := .long) (C := RX2) (T := TX2) (N := 6) hx hb hts hin tyX2 tyX2_ok nmX2 hown hK hP hD hS (k + 9) (tm_at (i := (k + 9)) (by omega) (tc_K hk)) rfl 1 (by decide) hlink (fun _ h9 => h9) rfl (by decide +kernel) rfl rfl (Nat.le_of_ble_eq_true rfl) hdg (fun H1 locs1 h1 h2 h3 => ?_)
  have e1 := tc_sK_value (ad := ad) (cc := cc) (u := u) (v := v) hk
  exact kk H1 locs1 (e1 ▸ h1) (e1 ▸ h2) h3
theorem tc_gK_word {k : Nat} (hx : p.tables.exec = Jvm.exec) (hb : c.code = cb) (hts : ∀ w ∈ Ts, w.before args s = true) (hin : ∀ w ∈ wsX20, w ∈ Ts) (hown : s.vm.findClass own = some m.cls) (hK : va_K (dC, dI) vwCl (tc_ty cc) s) (hP : va_P (dC, dI) vwCl (tc_w ad cc u) H) (hk : k < 4) (hlink : (Cond.fieldLink own index "TrustModule$Key" "word" "I").before args s = true) (hdg : decode cb pc = .ok (.getfield index, 3))
    (kk : W p l e R s m args below meth c H locs cells slots Q (F0 m (pc + 3) ls (.int (u.2.1 1 k) :: rest))) : W p l e R s m args below meth c H locs cells slots Q (F0 m pc ls (.ref (ad (k + 9)) :: rest)) :=
  va_get (D := (dC, dI)) (ci := 2) (C := RX2) (T := TX2) (N := 6) hx hb hts hin hown hK hP (k + 9) (tm_at (i := (k + 9)) (by omega) (tc_K hk)) rfl 2 (by decide) hlink (fun _ h9 => h9) rfl hdg kk
theorem tc_pK_word {k : Nat} {v : Int32} (hx : p.tables.exec = Jvm.exec) (hb : c.code = cb) (hts : ∀ w ∈ Ts, w.before args s = true) (hin : ∀ w ∈ wsX20, w ∈ Ts) (hown : s.vm.findClass own = some m.cls) (hK : va_K (dC, dI) vwCl (tc_ty cc) s) (hP : va_P (dC, dI) vwCl (tc_w ad cc u) H) (hD : va_D A (tc_w ad cc u)) (hS : va_S A s.heap H locs) (hk : k < 4) (hlink : (Cond.fieldLink own index "TrustModule$Key" "word" "I").before args s = true) (hdg : decode cb pc = .ok (.putfield index, 3))
    (kk : ∀ (H1 : Heap) (locs1 : List Loc), va_P (dC, dI) vwCl (tc_w ad cc (tm_I u 1 k v)) H1 → va_D A (tc_w ad cc (tm_I u 1 k v)) → va_S A s.heap H1 locs1 → W p l e R s m args below meth c H1 locs1 cells slots Q (F0 m (pc + 3) ls rest)) : W p l e R s m args below meth c H locs cells slots Q (F0 m pc ls (.int v :: .ref (ad (k + 9)) :: rest)) := by
  refine va_put (D := (dC, dI)) (ci := 2) (ty := .int) (C := RX2) (T := TX2) (N := 6) hx hb hts hin tyX2 tyX2_ok nmX2 hown hK hP hD hS (k + 9) (tm_at (i := (k + 9)) (by omega) (tc_K hk)) rfl 2 (by decide) hlink (fun _ h9 => h9) rfl (by decide +kernel) rfl rfl (Nat.le_of_ble_eq_true rfl) hdg (fun H1 locs1 h1 h2 h3 => ?_)
  have e1 := tc_sK_word (ad := ad) (cc := cc) (u := u) (v := v) hk
  exact kk H1 locs1 (e1 ▸ h1) (e1 ▸ h2) h3
theorem tc_gK_policy {k : Nat} (hx : p.tables.exec = Jvm.exec) (hb : c.code = cb) (hts : ∀ w ∈ Ts, w.before args s = true) (hin : ∀ w ∈ wsX20, w ∈ Ts) (hown : s.vm.findClass own = some m.cls) (hK : va_K (dC, dI) vwCl (tc_ty cc) s) (hP : va_P (dC, dI) vwCl (tc_w ad cc u) H) (hk : k < 4) (hlink : (Cond.fieldLink own index "TrustModule$Key" "policy" "J").before args s = true) (hdg : decode cb pc = .ok (.getfield index, 3))
    (kk : W p l e R s m args below meth c H locs cells slots Q (F0 m (pc + 3) ls (.long (u.1 3 k) :: rest))) : W p l e R s m args below meth c H locs cells slots Q (F0 m pc ls (.ref (ad (k + 9)) :: rest)) :=
  va_get (D := (dC, dI)) (ci := 2) (C := RX2) (T := TX2) (N := 6) hx hb hts hin hown hK hP (k + 9) (tm_at (i := (k + 9)) (by omega) (tc_K hk)) rfl 3 (by decide) hlink (fun _ h9 => h9) rfl hdg kk
theorem tc_pK_policy {k : Nat} {v : Int64} (hx : p.tables.exec = Jvm.exec) (hb : c.code = cb) (hts : ∀ w ∈ Ts, w.before args s = true) (hin : ∀ w ∈ wsX20, w ∈ Ts) (hown : s.vm.findClass own = some m.cls) (hK : va_K (dC, dI) vwCl (tc_ty cc) s) (hP : va_P (dC, dI) vwCl (tc_w ad cc u) H) (hD : va_D A (tc_w ad cc u)) (hS : va_S A s.heap H locs) (hk : k < 4) (hlink : (Cond.fieldLink own index "TrustModule$Key" "policy" "J").before args s = true) (hdg : decode cb pc = .ok (.putfield index, 3))
    (kk : ∀ (H1 : Heap) (locs1 : List Loc), va_P (dC, dI) vwCl (tc_w ad cc (tm_L u 3 k v)) H1 → va_D A (tc_w ad cc (tm_L u 3 k v)) → va_S A s.heap H1 locs1 → W p l e R s m args below meth c H1 locs1 cells slots Q (F0 m (pc + 3) ls rest)) : W p l e R s m args below meth c H locs cells slots Q (F0 m pc ls (.long v :: .ref (ad (k + 9)) :: rest)) := by
  refine va_put (D := (dC, dI)) (ci := 2) (ty := .long) (C := RX2) (T := TX2) (N := 6) hx hb hts hin tyX2 tyX2_ok nmX2 hown hK hP hD hS (k + 9) (tm_at (i := (k + 9)) (by omega) (tc_K hk)) rfl 3 (by decide) hlink (fun _ h9 => h9) rfl (by decide +kernel) rfl rfl (Nat.le_of_ble_eq_true rfl) hdg (fun H1 locs1 h1 h2 h3 => ?_)
  have e1 := tc_sK_policy (ad := ad) (cc := cc) (u := u) (v := v) hk
  exact kk H1 locs1 (e1 ▸ h1) (e1 ▸ h2) h3
theorem tc_gK_secret {k : Nat} (hx : p.tables.exec = Jvm.exec) (hb : c.code = cb) (hts : ∀ w ∈ Ts, w.before args s = true) (hin : ∀ w ∈ wsX20, w ∈ Ts) (hown : s.vm.findClass own = some m.cls) (hK : va_K (dC, dI) vwCl (tc_ty cc) s) (hP : va_P (dC, dI) vwCl (tc_w ad cc u) H) (hk : k < 4) (hlink : (Cond.fieldLink own index "TrustModule$Key" "secret" "J").before args s = true) (hdg : decode cb pc = .ok (.getfield index, 3))
    (kk : W p l e R s m args below meth c H locs cells slots Q (F0 m (pc + 3) ls (.long (u.1 4 k) :: rest))) : W p l e R s m args below meth c H locs cells slots Q (F0 m pc ls (.ref (ad (k + 9)) :: rest)) :=
  va_get (D := (dC, dI)) (ci := 2) (C := RX2) (T := TX2) (N := 6) hx hb hts hin hown hK hP (k + 9) (tm_at (i := (k + 9)) (by omega) (tc_K hk)) rfl 4 (by decide) hlink (fun _ h9 => h9) rfl hdg kk
theorem tc_pK_secret {k : Nat} {v : Int64} (hx : p.tables.exec = Jvm.exec) (hb : c.code = cb) (hts : ∀ w ∈ Ts, w.before args s = true) (hin : ∀ w ∈ wsX20, w ∈ Ts) (hown : s.vm.findClass own = some m.cls) (hK : va_K (dC, dI) vwCl (tc_ty cc) s) (hP : va_P (dC, dI) vwCl (tc_w ad cc u) H) (hD : va_D A (tc_w ad cc u)) (hS : va_S A s.heap H locs) (hk : k < 4) (hlink : (Cond.fieldLink own index "TrustModule$Key" "secret" "J").before args s = true) (hdg : decode cb pc = .ok (.putfield index, 3))
    (kk : ∀ (H1 : Heap) (locs1 : List Loc), va_P (dC, dI) vwCl (tc_w ad cc (tm_L u 4 k v)) H1 → va_D A (tc_w ad cc (tm_L u 4 k v)) → va_S A s.heap H1 locs1 → W p l e R s m args below meth c H1 locs1 cells slots Q (F0 m (pc + 3) ls rest)) : W p l e R s m args below meth c H locs cells slots Q (F0 m pc ls (.long v :: .ref (ad (k + 9)) :: rest)) := by
  refine va_put (D := (dC, dI)) (ci := 2) (ty := .long) (C := RX2) (T := TX2) (N := 6) hx hb hts hin tyX2 tyX2_ok nmX2 hown hK hP hD hS (k + 9) (tm_at (i := (k + 9)) (by omega) (tc_K hk)) rfl 4 (by decide) hlink (fun _ h9 => h9) rfl (by decide +kernel) rfl rfl (Nat.le_of_ble_eq_true rfl) hdg (fun H1 locs1 h1 h2 h3 => ?_)
  have e1 := tc_sK_secret (ad := ad) (cc := cc) (u := u) (v := v) hk
  exact kk H1 locs1 (e1 ▸ h1) (e1 ▸ h2) h3
theorem tc_gK_parent {k : Nat} (hx : p.tables.exec = Jvm.exec) (hb : c.code = cb) (hts : ∀ w ∈ Ts, w.before args s = true) (hin : ∀ w ∈ wsX20, w ∈ Ts) (hown : s.vm.findClass own = some m.cls) (hK : va_K (dC, dI) vwCl (tc_ty cc) s) (hP : va_P (dC, dI) vwCl (tc_w ad cc u) H) (hk : k < 4) (hlink : (Cond.fieldLink own index "TrustModule$Key" "parent" "Z").before args s = true) (hdg : decode cb pc = .ok (.getfield index, 3))
    (kk : W p l e R s m args below meth c H locs cells slots Q (F0 m (pc + 3) ls (.int (u.2.1 2 k) :: rest))) : W p l e R s m args below meth c H locs cells slots Q (F0 m pc ls (.ref (ad (k + 9)) :: rest)) :=
  va_get (D := (dC, dI)) (ci := 2) (C := RX2) (T := TX2) (N := 6) hx hb hts hin hown hK hP (k + 9) (tm_at (i := (k + 9)) (by omega) (tc_K hk)) rfl 5 (by decide) hlink (fun _ h9 => h9) rfl hdg kk
theorem tc_pK_parent {k : Nat} {v : Int32} (hx : p.tables.exec = Jvm.exec) (hb : c.code = cb) (hts : ∀ w ∈ Ts, w.before args s = true) (hin : ∀ w ∈ wsX20, w ∈ Ts) (hown : s.vm.findClass own = some m.cls) (hK : va_K (dC, dI) vwCl (tc_ty cc) s) (hP : va_P (dC, dI) vwCl (tc_w ad cc u) H) (hD : va_D A (tc_w ad cc u)) (hS : va_S A s.heap H locs) (hk : k < 4) (hn : narrow .boolean (.int v) = .int v) (hfit : fits .boolean (.int v) = true) (hlink : (Cond.fieldLink own index "TrustModule$Key" "parent" "Z").before args s = true) (hdg : decode cb pc = .ok (.putfield index, 3))
    (kk : ∀ (H1 : Heap) (locs1 : List Loc), va_P (dC, dI) vwCl (tc_w ad cc (tm_I u 2 k v)) H1 → va_D A (tc_w ad cc (tm_I u 2 k v)) → va_S A s.heap H1 locs1 → W p l e R s m args below meth c H1 locs1 cells slots Q (F0 m (pc + 3) ls rest)) : W p l e R s m args below meth c H locs cells slots Q (F0 m pc ls (.int v :: .ref (ad (k + 9)) :: rest)) := by
  refine va_put (D := (dC, dI)) (ci := 2) (ty := .boolean) (C := RX2) (T := TX2) (N := 6) hx hb hts hin tyX2 tyX2_ok nmX2 hown hK hP hD hS (k + 9) (tm_at (i := (k + 9)) (by omega) (tc_K hk)) rfl 5 (by decide) hlink (fun _ h9 => h9) rfl (by decide +kernel) hn hfit (Nat.le_of_ble_eq_true rfl) hdg (fun H1 locs1 h1 h2 h3 => ?_)
  have e1 := tc_sK_parent (ad := ad) (cc := cc) (u := u) (v := v) hk
  exact kk H1 locs1 (e1 ▸ h1) (e1 ▸ h2) h3
theorem tc_gB_made {k : Nat} (hx : p.tables.exec = Jvm.exec) (hb : c.code = cb) (hts : ∀ w ∈ Ts, w.before args s = true) (hin : ∀ w ∈ wsX00, w ∈ Ts) (hown : s.vm.findClass own = some m.cls) (hK : va_K (dC, dI) vwCl (tc_ty cc) s) (hP : va_P (dC, dI) vwCl (tc_w ad cc u) H) (hk : k < 8) (hlink : (Cond.fieldLink own index "TrustModule$Blob" "made" "Z").before args s = true) (hdg : decode cb pc = .ok (.getfield index, 3))
    (kk : W p l e R s m args below meth c H locs cells slots Q (F0 m (pc + 3) ls (.int (u.2.1 3 k) :: rest))) : W p l e R s m args below meth c H locs cells slots Q (F0 m pc ls (.ref (ad (k + 13)) :: rest)) :=
  va_get (D := (dC, dI)) (ci := 0) (C := RX0) (T := TX0) (N := 2) hx hb hts hin hown hK hP (k + 13) (tm_at (i := (k + 13)) (by omega) (tc_B hk)) rfl 0 (by decide) hlink (fun _ h9 => h9) rfl hdg kk
theorem tc_pB_made {k : Nat} {v : Int32} (hx : p.tables.exec = Jvm.exec) (hb : c.code = cb) (hts : ∀ w ∈ Ts, w.before args s = true) (hin : ∀ w ∈ wsX00, w ∈ Ts) (hown : s.vm.findClass own = some m.cls) (hK : va_K (dC, dI) vwCl (tc_ty cc) s) (hP : va_P (dC, dI) vwCl (tc_w ad cc u) H) (hD : va_D A (tc_w ad cc u)) (hS : va_S A s.heap H locs) (hk : k < 8) (hn : narrow .boolean (.int v) = .int v) (hfit : fits .boolean (.int v) = true) (hlink : (Cond.fieldLink own index "TrustModule$Blob" "made" "Z").before args s = true) (hdg : decode cb pc = .ok (.putfield index, 3))
    (kk : ∀ (H1 : Heap) (locs1 : List Loc), va_P (dC, dI) vwCl (tc_w ad cc (tm_I u 3 k v)) H1 → va_D A (tc_w ad cc (tm_I u 3 k v)) → va_S A s.heap H1 locs1 → W p l e R s m args below meth c H1 locs1 cells slots Q (F0 m (pc + 3) ls rest)) : W p l e R s m args below meth c H locs cells slots Q (F0 m pc ls (.int v :: .ref (ad (k + 13)) :: rest)) := by
  refine va_put (D := (dC, dI)) (ci := 0) (ty := .boolean) (C := RX0) (T := TX0) (N := 2) hx hb hts hin tyX0 tyX0_ok nmX0 hown hK hP hD hS (k + 13) (tm_at (i := (k + 13)) (by omega) (tc_B hk)) rfl 0 (by decide) hlink (fun _ h9 => h9) rfl (by decide +kernel) hn hfit (Nat.le_of_ble_eq_true rfl) hdg (fun H1 locs1 h1 h2 h3 => ?_)
  have e1 := tc_sB_made (ad := ad) (cc := cc) (u := u) (v := v) hk
  exact kk H1 locs1 (e1 ▸ h1) (e1 ▸ h2) h3
theorem tc_gB_longs {k : Nat} (hx : p.tables.exec = Jvm.exec) (hb : c.code = cb) (hts : ∀ w ∈ Ts, w.before args s = true) (hin : ∀ w ∈ wsX00, w ∈ Ts) (hown : s.vm.findClass own = some m.cls) (hK : va_K (dC, dI) vwCl (tc_ty cc) s) (hP : va_P (dC, dI) vwCl (tc_w ad cc u) H) (hk : k < 8) (hlink : (Cond.fieldLink own index "TrustModule$Blob" "longs" "[J").before args s = true) (hdg : decode cb pc = .ok (.getfield index, 3))
    (kk : W p l e R s m args below meth c H locs cells slots Q (F0 m (pc + 3) ls (.ref (ad (k + 21)) :: rest))) : W p l e R s m args below meth c H locs cells slots Q (F0 m pc ls (.ref (ad (k + 13)) :: rest)) :=
  va_get (D := (dC, dI)) (ci := 0) (C := RX0) (T := TX0) (N := 2) hx hb hts hin hown hK hP (k + 13) (tm_at (i := (k + 13)) (by omega) (tc_B hk)) rfl 1 (by decide) hlink (fun _ h9 => h9) rfl hdg kk
theorem tc_gY_digest {k : Nat} (hx : p.tables.exec = Jvm.exec) (hb : c.code = cb) (hts : ∀ w ∈ Ts, w.before args s = true) (hin : ∀ w ∈ wsX30, w ∈ Ts) (hown : s.vm.findClass own = some m.cls) (hK : va_K (dC, dI) vwCl (tc_ty cc) s) (hP : va_P (dC, dI) vwCl (tc_w ad cc u) H) (hk : k < 3) (hlink : (Cond.fieldLink own index "TrustModule$Session" "digest" "J").before args s = true) (hdg : decode cb pc = .ok (.getfield index, 3))
    (kk : W p l e R s m args below meth c H locs cells slots Q (F0 m (pc + 3) ls (.long (u.1 6 k) :: rest))) : W p l e R s m args below meth c H locs cells slots Q (F0 m pc ls (.ref (ad (k + 29)) :: rest)) :=
  va_get (D := (dC, dI)) (ci := 3) (C := RX3) (T := TX3) (N := 3) hx hb hts hin hown hK hP (k + 29) (tm_at (i := (k + 29)) (by omega) (tc_Y hk)) rfl 0 (by decide) hlink (fun _ h9 => h9) rfl hdg kk
theorem tc_pY_digest {k : Nat} {v : Int64} (hx : p.tables.exec = Jvm.exec) (hb : c.code = cb) (hts : ∀ w ∈ Ts, w.before args s = true) (hin : ∀ w ∈ wsX30, w ∈ Ts) (hown : s.vm.findClass own = some m.cls) (hK : va_K (dC, dI) vwCl (tc_ty cc) s) (hP : va_P (dC, dI) vwCl (tc_w ad cc u) H) (hD : va_D A (tc_w ad cc u)) (hS : va_S A s.heap H locs) (hk : k < 3) (hlink : (Cond.fieldLink own index "TrustModule$Session" "digest" "J").before args s = true) (hdg : decode cb pc = .ok (.putfield index, 3))
    (kk : ∀ (H1 : Heap) (locs1 : List Loc), va_P (dC, dI) vwCl (tc_w ad cc (tm_L u 6 k v)) H1 → va_D A (tc_w ad cc (tm_L u 6 k v)) → va_S A s.heap H1 locs1 → W p l e R s m args below meth c H1 locs1 cells slots Q (F0 m (pc + 3) ls rest)) : W p l e R s m args below meth c H locs cells slots Q (F0 m pc ls (.long v :: .ref (ad (k + 29)) :: rest)) := by
  refine va_put (D := (dC, dI)) (ci := 3) (ty := .long) (C := RX3) (T := TX3) (N := 3) hx hb hts hin tyX3 tyX3_ok nmX3 hown hK hP hD hS (k + 29) (tm_at (i := (k + 29)) (by omega) (tc_Y hk)) rfl 0 (by decide) hlink (fun _ h9 => h9) rfl (by decide +kernel) rfl rfl (Nat.le_of_ble_eq_true rfl) hdg (fun H1 locs1 h1 h2 h3 => ?_)
  have e1 := tc_sY_digest (ad := ad) (cc := cc) (u := u) (v := v) hk
  exact kk H1 locs1 (e1 ▸ h1) (e1 ▸ h2) h3
theorem tc_gY_looked {k : Nat} (hx : p.tables.exec = Jvm.exec) (hb : c.code = cb) (hts : ∀ w ∈ Ts, w.before args s = true) (hin : ∀ w ∈ wsX30, w ∈ Ts) (hown : s.vm.findClass own = some m.cls) (hK : va_K (dC, dI) vwCl (tc_ty cc) s) (hP : va_P (dC, dI) vwCl (tc_w ad cc u) H) (hk : k < 3) (hlink : (Cond.fieldLink own index "TrustModule$Session" "looked" "Z").before args s = true) (hdg : decode cb pc = .ok (.getfield index, 3))
    (kk : W p l e R s m args below meth c H locs cells slots Q (F0 m (pc + 3) ls (.int (u.2.1 4 k) :: rest))) : W p l e R s m args below meth c H locs cells slots Q (F0 m pc ls (.ref (ad (k + 29)) :: rest)) :=
  va_get (D := (dC, dI)) (ci := 3) (C := RX3) (T := TX3) (N := 3) hx hb hts hin hown hK hP (k + 29) (tm_at (i := (k + 29)) (by omega) (tc_Y hk)) rfl 1 (by decide) hlink (fun _ h9 => h9) rfl hdg kk
theorem tc_pY_looked {k : Nat} {v : Int32} (hx : p.tables.exec = Jvm.exec) (hb : c.code = cb) (hts : ∀ w ∈ Ts, w.before args s = true) (hin : ∀ w ∈ wsX30, w ∈ Ts) (hown : s.vm.findClass own = some m.cls) (hK : va_K (dC, dI) vwCl (tc_ty cc) s) (hP : va_P (dC, dI) vwCl (tc_w ad cc u) H) (hD : va_D A (tc_w ad cc u)) (hS : va_S A s.heap H locs) (hk : k < 3) (hn : narrow .boolean (.int v) = .int v) (hfit : fits .boolean (.int v) = true) (hlink : (Cond.fieldLink own index "TrustModule$Session" "looked" "Z").before args s = true) (hdg : decode cb pc = .ok (.putfield index, 3))
    (kk : ∀ (H1 : Heap) (locs1 : List Loc), va_P (dC, dI) vwCl (tc_w ad cc (tm_I u 4 k v)) H1 → va_D A (tc_w ad cc (tm_I u 4 k v)) → va_S A s.heap H1 locs1 → W p l e R s m args below meth c H1 locs1 cells slots Q (F0 m (pc + 3) ls rest)) : W p l e R s m args below meth c H locs cells slots Q (F0 m pc ls (.int v :: .ref (ad (k + 29)) :: rest)) := by
  refine va_put (D := (dC, dI)) (ci := 3) (ty := .boolean) (C := RX3) (T := TX3) (N := 3) hx hb hts hin tyX3 tyX3_ok nmX3 hown hK hP hD hS (k + 29) (tm_at (i := (k + 29)) (by omega) (tc_Y hk)) rfl 1 (by decide) hlink (fun _ h9 => h9) rfl (by decide +kernel) hn hfit (Nat.le_of_ble_eq_true rfl) hdg (fun H1 locs1 h1 h2 h3 => ?_)
  have e1 := tc_sY_looked (ad := ad) (cc := cc) (u := u) (v := v) hk
  exact kk H1 locs1 (e1 ▸ h1) (e1 ▸ h2) h3
theorem tc_gY_countSeen {k : Nat} (hx : p.tables.exec = Jvm.exec) (hb : c.code = cb) (hts : ∀ w ∈ Ts, w.before args s = true) (hin : ∀ w ∈ wsX30, w ∈ Ts) (hown : s.vm.findClass own = some m.cls) (hK : va_K (dC, dI) vwCl (tc_ty cc) s) (hP : va_P (dC, dI) vwCl (tc_w ad cc u) H) (hk : k < 3) (hlink : (Cond.fieldLink own index "TrustModule$Session" "countSeen" "I").before args s = true) (hdg : decode cb pc = .ok (.getfield index, 3))
    (kk : W p l e R s m args below meth c H locs cells slots Q (F0 m (pc + 3) ls (.int (u.2.1 5 k) :: rest))) : W p l e R s m args below meth c H locs cells slots Q (F0 m pc ls (.ref (ad (k + 29)) :: rest)) :=
  va_get (D := (dC, dI)) (ci := 3) (C := RX3) (T := TX3) (N := 3) hx hb hts hin hown hK hP (k + 29) (tm_at (i := (k + 29)) (by omega) (tc_Y hk)) rfl 2 (by decide) hlink (fun _ h9 => h9) rfl hdg kk
theorem tc_pY_countSeen {k : Nat} {v : Int32} (hx : p.tables.exec = Jvm.exec) (hb : c.code = cb) (hts : ∀ w ∈ Ts, w.before args s = true) (hin : ∀ w ∈ wsX30, w ∈ Ts) (hown : s.vm.findClass own = some m.cls) (hK : va_K (dC, dI) vwCl (tc_ty cc) s) (hP : va_P (dC, dI) vwCl (tc_w ad cc u) H) (hD : va_D A (tc_w ad cc u)) (hS : va_S A s.heap H locs) (hk : k < 3) (hlink : (Cond.fieldLink own index "TrustModule$Session" "countSeen" "I").before args s = true) (hdg : decode cb pc = .ok (.putfield index, 3))
    (kk : ∀ (H1 : Heap) (locs1 : List Loc), va_P (dC, dI) vwCl (tc_w ad cc (tm_I u 5 k v)) H1 → va_D A (tc_w ad cc (tm_I u 5 k v)) → va_S A s.heap H1 locs1 → W p l e R s m args below meth c H1 locs1 cells slots Q (F0 m (pc + 3) ls rest)) : W p l e R s m args below meth c H locs cells slots Q (F0 m pc ls (.int v :: .ref (ad (k + 29)) :: rest)) := by
  refine va_put (D := (dC, dI)) (ci := 3) (ty := .int) (C := RX3) (T := TX3) (N := 3) hx hb hts hin tyX3 tyX3_ok nmX3 hown hK hP hD hS (k + 29) (tm_at (i := (k + 29)) (by omega) (tc_Y hk)) rfl 2 (by decide) hlink (fun _ h9 => h9) rfl (by decide +kernel) rfl rfl (Nat.le_of_ble_eq_true rfl) hdg (fun H1 locs1 h1 h2 h3 => ?_)
  have e1 := tc_sY_countSeen (ad := ad) (cc := cc) (u := u) (v := v) hk
  exact kk H1 locs1 (e1 ▸ h1) (e1 ▸ h2) h3
theorem tc_gX_defined {k : Nat} (hx : p.tables.exec = Jvm.exec) (hb : c.code = cb) (hts : ∀ w ∈ Ts, w.before args s = true) (hin : ∀ w ∈ wsX10, w ∈ Ts) (hown : s.vm.findClass own = some m.cls) (hK : va_K (dC, dI) vwCl (tc_ty cc) s) (hP : va_P (dC, dI) vwCl (tc_w ad cc u) H) (hk : k < 4) (hlink : (Cond.fieldLink own index "TrustModule$Index" "defined" "Z").before args s = true) (hdg : decode cb pc = .ok (.getfield index, 3))
    (kk : W p l e R s m args below meth c H locs cells slots Q (F0 m (pc + 3) ls (.int (u.2.1 6 k) :: rest))) : W p l e R s m args below meth c H locs cells slots Q (F0 m pc ls (.ref (ad (k + 32)) :: rest)) :=
  va_get (D := (dC, dI)) (ci := 1) (C := RX1) (T := TX1) (N := 5) hx hb hts hin hown hK hP (k + 32) (tm_at (i := (k + 32)) (by omega) tc_X) rfl 0 (by decide) hlink (fun _ h9 => h9) rfl hdg kk
theorem tc_pX_defined {k : Nat} {v : Int32} (hx : p.tables.exec = Jvm.exec) (hb : c.code = cb) (hts : ∀ w ∈ Ts, w.before args s = true) (hin : ∀ w ∈ wsX10, w ∈ Ts) (hown : s.vm.findClass own = some m.cls) (hK : va_K (dC, dI) vwCl (tc_ty cc) s) (hP : va_P (dC, dI) vwCl (tc_w ad cc u) H) (hD : va_D A (tc_w ad cc u)) (hS : va_S A s.heap H locs) (hk : k < 4) (hn : narrow .boolean (.int v) = .int v) (hfit : fits .boolean (.int v) = true) (hlink : (Cond.fieldLink own index "TrustModule$Index" "defined" "Z").before args s = true) (hdg : decode cb pc = .ok (.putfield index, 3))
    (kk : ∀ (H1 : Heap) (locs1 : List Loc), va_P (dC, dI) vwCl (tc_w ad cc (tm_I u 6 k v)) H1 → va_D A (tc_w ad cc (tm_I u 6 k v)) → va_S A s.heap H1 locs1 → W p l e R s m args below meth c H1 locs1 cells slots Q (F0 m (pc + 3) ls rest)) : W p l e R s m args below meth c H locs cells slots Q (F0 m pc ls (.int v :: .ref (ad (k + 32)) :: rest)) := by
  refine va_put (D := (dC, dI)) (ci := 1) (ty := .boolean) (C := RX1) (T := TX1) (N := 5) hx hb hts hin tyX1 tyX1_ok nmX1 hown hK hP hD hS (k + 32) (tm_at (i := (k + 32)) (by omega) tc_X) rfl 0 (by decide) hlink (fun _ h9 => h9) rfl (by decide +kernel) hn hfit (Nat.le_of_ble_eq_true rfl) hdg (fun H1 locs1 h1 h2 h3 => ?_)
  have e1 := tc_sX_defined (ad := ad) (cc := cc) (u := u) (v := v) hk
  exact kk H1 locs1 (e1 ▸ h1) (e1 ▸ h2) h3
theorem tc_gX_counter {k : Nat} (hx : p.tables.exec = Jvm.exec) (hb : c.code = cb) (hts : ∀ w ∈ Ts, w.before args s = true) (hin : ∀ w ∈ wsX10, w ∈ Ts) (hown : s.vm.findClass own = some m.cls) (hK : va_K (dC, dI) vwCl (tc_ty cc) s) (hP : va_P (dC, dI) vwCl (tc_w ad cc u) H) (hk : k < 4) (hlink : (Cond.fieldLink own index "TrustModule$Index" "counter" "Z").before args s = true) (hdg : decode cb pc = .ok (.getfield index, 3))
    (kk : W p l e R s m args below meth c H locs cells slots Q (F0 m (pc + 3) ls (.int (u.2.1 7 k) :: rest))) : W p l e R s m args below meth c H locs cells slots Q (F0 m pc ls (.ref (ad (k + 32)) :: rest)) :=
  va_get (D := (dC, dI)) (ci := 1) (C := RX1) (T := TX1) (N := 5) hx hb hts hin hown hK hP (k + 32) (tm_at (i := (k + 32)) (by omega) tc_X) rfl 1 (by decide) hlink (fun _ h9 => h9) rfl hdg kk
theorem tc_pX_counter {k : Nat} {v : Int32} (hx : p.tables.exec = Jvm.exec) (hb : c.code = cb) (hts : ∀ w ∈ Ts, w.before args s = true) (hin : ∀ w ∈ wsX10, w ∈ Ts) (hown : s.vm.findClass own = some m.cls) (hK : va_K (dC, dI) vwCl (tc_ty cc) s) (hP : va_P (dC, dI) vwCl (tc_w ad cc u) H) (hD : va_D A (tc_w ad cc u)) (hS : va_S A s.heap H locs) (hk : k < 4) (hn : narrow .boolean (.int v) = .int v) (hfit : fits .boolean (.int v) = true) (hlink : (Cond.fieldLink own index "TrustModule$Index" "counter" "Z").before args s = true) (hdg : decode cb pc = .ok (.putfield index, 3))
    (kk : ∀ (H1 : Heap) (locs1 : List Loc), va_P (dC, dI) vwCl (tc_w ad cc (tm_I u 7 k v)) H1 → va_D A (tc_w ad cc (tm_I u 7 k v)) → va_S A s.heap H1 locs1 → W p l e R s m args below meth c H1 locs1 cells slots Q (F0 m (pc + 3) ls rest)) : W p l e R s m args below meth c H locs cells slots Q (F0 m pc ls (.int v :: .ref (ad (k + 32)) :: rest)) := by
  refine va_put (D := (dC, dI)) (ci := 1) (ty := .boolean) (C := RX1) (T := TX1) (N := 5) hx hb hts hin tyX1 tyX1_ok nmX1 hown hK hP hD hS (k + 32) (tm_at (i := (k + 32)) (by omega) tc_X) rfl 1 (by decide) hlink (fun _ h9 => h9) rfl (by decide +kernel) hn hfit (Nat.le_of_ble_eq_true rfl) hdg (fun H1 locs1 h1 h2 h3 => ?_)
  have e1 := tc_sX_counter (ad := ad) (cc := cc) (u := u) (v := v) hk
  exact kk H1 locs1 (e1 ▸ h1) (e1 ▸ h2) h3
theorem tc_gX_policy {k : Nat} (hx : p.tables.exec = Jvm.exec) (hb : c.code = cb) (hts : ∀ w ∈ Ts, w.before args s = true) (hin : ∀ w ∈ wsX10, w ∈ Ts) (hown : s.vm.findClass own = some m.cls) (hK : va_K (dC, dI) vwCl (tc_ty cc) s) (hP : va_P (dC, dI) vwCl (tc_w ad cc u) H) (hk : k < 4) (hlink : (Cond.fieldLink own index "TrustModule$Index" "policy" "J").before args s = true) (hdg : decode cb pc = .ok (.getfield index, 3))
    (kk : W p l e R s m args below meth c H locs cells slots Q (F0 m (pc + 3) ls (.long (u.1 7 k) :: rest))) : W p l e R s m args below meth c H locs cells slots Q (F0 m pc ls (.ref (ad (k + 32)) :: rest)) :=
  va_get (D := (dC, dI)) (ci := 1) (C := RX1) (T := TX1) (N := 5) hx hb hts hin hown hK hP (k + 32) (tm_at (i := (k + 32)) (by omega) tc_X) rfl 2 (by decide) hlink (fun _ h9 => h9) rfl hdg kk
theorem tc_pX_policy {k : Nat} {v : Int64} (hx : p.tables.exec = Jvm.exec) (hb : c.code = cb) (hts : ∀ w ∈ Ts, w.before args s = true) (hin : ∀ w ∈ wsX10, w ∈ Ts) (hown : s.vm.findClass own = some m.cls) (hK : va_K (dC, dI) vwCl (tc_ty cc) s) (hP : va_P (dC, dI) vwCl (tc_w ad cc u) H) (hD : va_D A (tc_w ad cc u)) (hS : va_S A s.heap H locs) (hk : k < 4) (hlink : (Cond.fieldLink own index "TrustModule$Index" "policy" "J").before args s = true) (hdg : decode cb pc = .ok (.putfield index, 3))
    (kk : ∀ (H1 : Heap) (locs1 : List Loc), va_P (dC, dI) vwCl (tc_w ad cc (tm_L u 7 k v)) H1 → va_D A (tc_w ad cc (tm_L u 7 k v)) → va_S A s.heap H1 locs1 → W p l e R s m args below meth c H1 locs1 cells slots Q (F0 m (pc + 3) ls rest)) : W p l e R s m args below meth c H locs cells slots Q (F0 m pc ls (.long v :: .ref (ad (k + 32)) :: rest)) := by
  refine va_put (D := (dC, dI)) (ci := 1) (ty := .long) (C := RX1) (T := TX1) (N := 5) hx hb hts hin tyX1 tyX1_ok nmX1 hown hK hP hD hS (k + 32) (tm_at (i := (k + 32)) (by omega) tc_X) rfl 2 (by decide) hlink (fun _ h9 => h9) rfl (by decide +kernel) rfl rfl (Nat.le_of_ble_eq_true rfl) hdg (fun H1 locs1 h1 h2 h3 => ?_)
  have e1 := tc_sX_policy (ad := ad) (cc := cc) (u := u) (v := v) hk
  exact kk H1 locs1 (e1 ▸ h1) (e1 ▸ h2) h3
theorem tc_gX_written {k : Nat} (hx : p.tables.exec = Jvm.exec) (hb : c.code = cb) (hts : ∀ w ∈ Ts, w.before args s = true) (hin : ∀ w ∈ wsX10, w ∈ Ts) (hown : s.vm.findClass own = some m.cls) (hK : va_K (dC, dI) vwCl (tc_ty cc) s) (hP : va_P (dC, dI) vwCl (tc_w ad cc u) H) (hk : k < 4) (hlink : (Cond.fieldLink own index "TrustModule$Index" "written" "Z").before args s = true) (hdg : decode cb pc = .ok (.getfield index, 3))
    (kk : W p l e R s m args below meth c H locs cells slots Q (F0 m (pc + 3) ls (.int (u.2.1 8 k) :: rest))) : W p l e R s m args below meth c H locs cells slots Q (F0 m pc ls (.ref (ad (k + 32)) :: rest)) :=
  va_get (D := (dC, dI)) (ci := 1) (C := RX1) (T := TX1) (N := 5) hx hb hts hin hown hK hP (k + 32) (tm_at (i := (k + 32)) (by omega) tc_X) rfl 3 (by decide) hlink (fun _ h9 => h9) rfl hdg kk
theorem tc_pX_written {k : Nat} {v : Int32} (hx : p.tables.exec = Jvm.exec) (hb : c.code = cb) (hts : ∀ w ∈ Ts, w.before args s = true) (hin : ∀ w ∈ wsX10, w ∈ Ts) (hown : s.vm.findClass own = some m.cls) (hK : va_K (dC, dI) vwCl (tc_ty cc) s) (hP : va_P (dC, dI) vwCl (tc_w ad cc u) H) (hD : va_D A (tc_w ad cc u)) (hS : va_S A s.heap H locs) (hk : k < 4) (hn : narrow .boolean (.int v) = .int v) (hfit : fits .boolean (.int v) = true) (hlink : (Cond.fieldLink own index "TrustModule$Index" "written" "Z").before args s = true) (hdg : decode cb pc = .ok (.putfield index, 3))
    (kk : ∀ (H1 : Heap) (locs1 : List Loc), va_P (dC, dI) vwCl (tc_w ad cc (tm_I u 8 k v)) H1 → va_D A (tc_w ad cc (tm_I u 8 k v)) → va_S A s.heap H1 locs1 → W p l e R s m args below meth c H1 locs1 cells slots Q (F0 m (pc + 3) ls rest)) : W p l e R s m args below meth c H locs cells slots Q (F0 m pc ls (.int v :: .ref (ad (k + 32)) :: rest)) := by
  refine va_put (D := (dC, dI)) (ci := 1) (ty := .boolean) (C := RX1) (T := TX1) (N := 5) hx hb hts hin tyX1 tyX1_ok nmX1 hown hK hP hD hS (k + 32) (tm_at (i := (k + 32)) (by omega) tc_X) rfl 3 (by decide) hlink (fun _ h9 => h9) rfl (by decide +kernel) hn hfit (Nat.le_of_ble_eq_true rfl) hdg (fun H1 locs1 h1 h2 h3 => ?_)
  have e1 := tc_sX_written (ad := ad) (cc := cc) (u := u) (v := v) hk
  exact kk H1 locs1 (e1 ▸ h1) (e1 ▸ h2) h3
theorem tc_gX_value {k : Nat} (hx : p.tables.exec = Jvm.exec) (hb : c.code = cb) (hts : ∀ w ∈ Ts, w.before args s = true) (hin : ∀ w ∈ wsX10, w ∈ Ts) (hown : s.vm.findClass own = some m.cls) (hK : va_K (dC, dI) vwCl (tc_ty cc) s) (hP : va_P (dC, dI) vwCl (tc_w ad cc u) H) (hk : k < 4) (hlink : (Cond.fieldLink own index "TrustModule$Index" "value" "J").before args s = true) (hdg : decode cb pc = .ok (.getfield index, 3))
    (kk : W p l e R s m args below meth c H locs cells slots Q (F0 m (pc + 3) ls (.long (u.1 8 k) :: rest))) : W p l e R s m args below meth c H locs cells slots Q (F0 m pc ls (.ref (ad (k + 32)) :: rest)) :=
  va_get (D := (dC, dI)) (ci := 1) (C := RX1) (T := TX1) (N := 5) hx hb hts hin hown hK hP (k + 32) (tm_at (i := (k + 32)) (by omega) tc_X) rfl 4 (by decide) hlink (fun _ h9 => h9) rfl hdg kk
theorem tc_pX_value {k : Nat} {v : Int64} (hx : p.tables.exec = Jvm.exec) (hb : c.code = cb) (hts : ∀ w ∈ Ts, w.before args s = true) (hin : ∀ w ∈ wsX10, w ∈ Ts) (hown : s.vm.findClass own = some m.cls) (hK : va_K (dC, dI) vwCl (tc_ty cc) s) (hP : va_P (dC, dI) vwCl (tc_w ad cc u) H) (hD : va_D A (tc_w ad cc u)) (hS : va_S A s.heap H locs) (hk : k < 4) (hlink : (Cond.fieldLink own index "TrustModule$Index" "value" "J").before args s = true) (hdg : decode cb pc = .ok (.putfield index, 3))
    (kk : ∀ (H1 : Heap) (locs1 : List Loc), va_P (dC, dI) vwCl (tc_w ad cc (tm_L u 8 k v)) H1 → va_D A (tc_w ad cc (tm_L u 8 k v)) → va_S A s.heap H1 locs1 → W p l e R s m args below meth c H1 locs1 cells slots Q (F0 m (pc + 3) ls rest)) : W p l e R s m args below meth c H locs cells slots Q (F0 m pc ls (.long v :: .ref (ad (k + 32)) :: rest)) := by
  refine va_put (D := (dC, dI)) (ci := 1) (ty := .long) (C := RX1) (T := TX1) (N := 5) hx hb hts hin tyX1 tyX1_ok nmX1 hown hK hP hD hS (k + 32) (tm_at (i := (k + 32)) (by omega) tc_X) rfl 4 (by decide) hlink (fun _ h9 => h9) rfl (by decide +kernel) rfl rfl (Nat.le_of_ble_eq_true rfl) hdg (fun H1 locs1 h1 h2 h3 => ?_)
  have e1 := tc_sX_value (ad := ad) (cc := cc) (u := u) (v := v) hk
  exact kk H1 locs1 (e1 ▸ h1) (e1 ▸ h2) h3
theorem tc_a_keys {j : Nat} (hx : p.tables.exec = Jvm.exec) (hb : c.code = cb) (hK : va_K (dC, dI) vwCl (tc_ty cc) s) (hP : va_P (dC, dI) vwCl (tc_w ad cc u) H) (hj : j < 4) (hdg : decode cb pc = .ok (.aaload, 1))
    (kk : W p l e R s m args below meth c H locs cells slots Q (F0 m (pc + 1) ls (.ref (ad (j + 9)) :: rest))) : W p l e R s m args below meth c H locs cells slots Q (F0 m pc ls (.int (nI j) :: .ref (ad 3) :: rest)) :=
  kq_aald hx hb hK hP 3 2 (tm_at (i := 3) (by omega) rfl) rfl hj (by omega) hdg kk
theorem tc_a_blobs {j : Nat} (hx : p.tables.exec = Jvm.exec) (hb : c.code = cb) (hK : va_K (dC, dI) vwCl (tc_ty cc) s) (hP : va_P (dC, dI) vwCl (tc_w ad cc u) H) (hj : j < 8) (hdg : decode cb pc = .ok (.aaload, 1))
    (kk : W p l e R s m args below meth c H locs cells slots Q (F0 m (pc + 1) ls (.ref (ad (j + 13)) :: rest))) : W p l e R s m args below meth c H locs cells slots Q (F0 m pc ls (.int (nI j) :: .ref (ad 4) :: rest)) :=
  kq_aald hx hb hK hP 4 3 (tm_at (i := 4) (by omega) rfl) rfl hj (by omega) hdg kk
theorem tc_a_sessions {j : Nat} (hx : p.tables.exec = Jvm.exec) (hb : c.code = cb) (hK : va_K (dC, dI) vwCl (tc_ty cc) s) (hP : va_P (dC, dI) vwCl (tc_w ad cc u) H) (hj : j < 3) (hdg : decode cb pc = .ok (.aaload, 1))
    (kk : W p l e R s m args below meth c H locs cells slots Q (F0 m (pc + 1) ls (.ref (ad (j + 29)) :: rest))) : W p l e R s m args below meth c H locs cells slots Q (F0 m pc ls (.int (nI j) :: .ref (ad 5) :: rest)) :=
  kq_aald hx hb hK hP 5 4 (tm_at (i := 5) (by omega) rfl) rfl hj (by omega) hdg kk
theorem tc_a_indices {j : Nat} (hx : p.tables.exec = Jvm.exec) (hb : c.code = cb) (hK : va_K (dC, dI) vwCl (tc_ty cc) s) (hP : va_P (dC, dI) vwCl (tc_w ad cc u) H) (hj : j < 4) (hdg : decode cb pc = .ok (.aaload, 1))
    (kk : W p l e R s m args below meth c H locs cells slots Q (F0 m (pc + 1) ls (.ref (ad (j + 32)) :: rest))) : W p l e R s m args below meth c H locs cells slots Q (F0 m pc ls (.int (nI j) :: .ref (ad 6) :: rest)) :=
  kq_aald hx hb hK hP 6 5 (tm_at (i := 6) (by omega) rfl) rfl hj (by omega) hdg kk
theorem tc_a_pcrs {j : Nat} (hx : p.tables.exec = Jvm.exec) (hb : c.code = cb) (hK : va_K (dC, dI) vwCl (tc_ty cc) s) (hP : va_P (dC, dI) vwCl (tc_w ad cc u) H) (hj : j < 2) (hdg : decode cb pc = .ok (.aaload, 1))
    (kk : W p l e R s m args below meth c H locs cells slots Q (F0 m (pc + 1) ls (.ref (ad (j + 7)) :: rest))) : W p l e R s m args below meth c H locs cells slots Q (F0 m pc ls (.int (nI j) :: .ref (ad 2) :: rest)) :=
  kq_aalg hx hb hK hP 2 1 (tm_at (i := 2) (by omega) rfl) rfl hj (by omega) hdg kk
theorem tc_l_seed {j : Nat} (hx : p.tables.exec = Jvm.exec) (hb : c.code = cb) (hK : va_K (dC, dI) vwCl (tc_ty cc) s) (hP : va_P (dC, dI) vwCl (tc_w ad cc u) H) (hj : j < 3) (hdg : decode cb pc = .ok (.laload, 1))
    (kk : W p l e R s m args below meth c H locs cells slots Q (F0 m (pc + 1) ls (.long (u.1 0 j) :: rest))) : W p l e R s m args below meth c H locs cells slots Q (F0 m pc ls (.int (nI j) :: .ref (ad 1) :: rest)) :=
  kq_lald hx hb hK hP 1 0 (tm_at (i := 1) (by omega) rfl) rfl hj (by omega) hdg kk
theorem tc_t_seed {j : Nat} {v : Int64} (hx : p.tables.exec = Jvm.exec) (hb : c.code = cb) (hK : va_K (dC, dI) vwCl (tc_ty cc) s) (hP : va_P (dC, dI) vwCl (tc_w ad cc u) H) (hD : va_D A (tc_w ad cc u)) (hS : va_S A s.heap H locs) (hj : j < 3) (hdg : decode cb pc = .ok (.lastore, 1))
    (kk : ∀ (H1 : Heap) (locs1 : List Loc), va_P (dC, dI) vwCl (tc_w ad cc (tm_L u 0 j v)) H1 → va_D A (tc_w ad cc (tm_L u 0 j v)) → va_S A s.heap H1 locs1 → W p l e R s m args below meth c H1 locs1 cells slots Q (F0 m (pc + 1) ls rest)) : W p l e R s m args below meth c H locs cells slots Q (F0 m pc ls (.long v :: .int (nI j) :: .ref (ad 1) :: rest)) :=
  kq_last hx hb hK hP hD hS 1 0 (tm_at (i := 1) (by omega) rfl) rfl hj (by omega) hdg tc_s_seed kk
theorem tc_l_pcr {k : Nat} {j : Nat} (hx : p.tables.exec = Jvm.exec) (hb : c.code = cb) (hK : va_K (dC, dI) vwCl (tc_ty cc) s) (hP : va_P (dC, dI) vwCl (tc_w ad cc u) H) (hk : k < 2) (hj : j < 8) (hdg : decode cb pc = .ok (.laload, 1))
    (kk : W p l e R s m args below meth c H locs cells slots Q (F0 m (pc + 1) ls (.long (u.1 1 (8 * k + j)) :: rest))) : W p l e R s m args below meth c H locs cells slots Q (F0 m pc ls (.int (nI j) :: .ref (ad (k + 7)) :: rest)) :=
  kq_lald hx hb hK hP (k + 7) 0 (tm_at (i := k + 7) (by omega) (tc_P hk)) rfl hj (by omega) hdg (by simp only [if_pos hj]; exact kk)
theorem tc_t_pcr {k : Nat} {j : Nat} {v : Int64} (hx : p.tables.exec = Jvm.exec) (hb : c.code = cb) (hK : va_K (dC, dI) vwCl (tc_ty cc) s) (hP : va_P (dC, dI) vwCl (tc_w ad cc u) H) (hD : va_D A (tc_w ad cc u)) (hS : va_S A s.heap H locs) (hk : k < 2) (hj : j < 8) (hdg : decode cb pc = .ok (.lastore, 1))
    (kk : ∀ (H1 : Heap) (locs1 : List Loc), va_P (dC, dI) vwCl (tc_w ad cc (tm_L u 1 (8 * k + j) v)) H1 → va_D A (tc_w ad cc (tm_L u 1 (8 * k + j) v)) → va_S A s.heap H1 locs1 → W p l e R s m args below meth c H1 locs1 cells slots Q (F0 m (pc + 1) ls rest)) : W p l e R s m args below meth c H locs cells slots Q (F0 m pc ls (.long v :: .int (nI j) :: .ref (ad (k + 7)) :: rest)) :=
  kq_last hx hb hK hP hD hS (k + 7) 0 (tm_at (i := k + 7) (by omega) (tc_P hk)) rfl hj (by omega) hdg (tc_s_pcr hk hj) kk
theorem tc_l_blob {k : Nat} {j : Nat} (hx : p.tables.exec = Jvm.exec) (hb : c.code = cb) (hK : va_K (dC, dI) vwCl (tc_ty cc) s) (hP : va_P (dC, dI) vwCl (tc_w ad cc u) H) (hk : k < 8) (hj : j < 4) (hdg : decode cb pc = .ok (.laload, 1))
    (kk : W p l e R s m args below meth c H locs cells slots Q (F0 m (pc + 1) ls (.long (u.1 5 (4 * k + j)) :: rest))) : W p l e R s m args below meth c H locs cells slots Q (F0 m pc ls (.int (nI j) :: .ref (ad (k + 21)) :: rest)) :=
  kq_lald hx hb hK hP (k + 21) 0 (tm_at (i := k + 21) (by omega) (tc_O hk)) rfl hj (by omega) hdg (by simp only [if_pos hj]; exact kk)
theorem tc_t_blob {k : Nat} {j : Nat} {v : Int64} (hx : p.tables.exec = Jvm.exec) (hb : c.code = cb) (hK : va_K (dC, dI) vwCl (tc_ty cc) s) (hP : va_P (dC, dI) vwCl (tc_w ad cc u) H) (hD : va_D A (tc_w ad cc u)) (hS : va_S A s.heap H locs) (hk : k < 8) (hj : j < 4) (hdg : decode cb pc = .ok (.lastore, 1))
    (kk : ∀ (H1 : Heap) (locs1 : List Loc), va_P (dC, dI) vwCl (tc_w ad cc (tm_L u 5 (4 * k + j) v)) H1 → va_D A (tc_w ad cc (tm_L u 5 (4 * k + j) v)) → va_S A s.heap H1 locs1 → W p l e R s m args below meth c H1 locs1 cells slots Q (F0 m (pc + 1) ls rest)) : W p l e R s m args below meth c H locs cells slots Q (F0 m pc ls (.long v :: .int (nI j) :: .ref (ad (k + 21)) :: rest)) :=
  kq_last hx hb hK hP hD hS (k + 21) 0 (tm_at (i := k + 21) (by omega) (tc_O hk)) rfl hj (by omega) hdg (tc_s_blob hk hj) kk
end TCR
end
section
/-! THE REFERENCE: its object and 18 arrays -/
def tr_ce (ad : Nat → Nat) (cc : Nat → ClassId) (u : tm_S) : Nat → va_E
  | 0 => .inr (5, [.ref (ad 1), .ref (ad 2), .ref (ad 3), .ref (ad 4), .ref (ad 5), .ref (ad 6), .ref (ad 7), .ref (ad 8), .ref (ad 9), .ref (ad 10), .ref (ad 11), .ref (ad 12), .ref (ad 13), .ref (ad 14), .ref (ad 15), .ref (ad 16), .ref (ad 17), .ref (ad 18), .int (u.2.1 9 0), .int (u.2.1 13 0), .int (u.2.1 10 0), .int (u.2.1 12 0), .int (u.2.1 14 0), .int (u.2.1 11 0), .long (u.1 9 0), .double (u.2.2 1), .double (u.2.2 0), .double (u.2.2 2)])
  | 1 => .inl (cc 0, 3, .inr (.inl (u.1 0)))
  | 2 => .inl (cc 0, 16, .inr (.inl (u.1 1)))
  | 3 => .inl (cc 0, 3, .inr (.inl (u.1 6)))
  | 4 => .inl (cc 0, 32, .inr (.inl (u.1 5)))
  | 5 => .inl (cc 0, 4, .inr (.inl (u.1 8)))
  | 6 => .inl (cc 0, 4, .inr (.inl (u.1 7)))
  | 7 => .inl (cc 0, 4, .inr (.inl (u.1 2)))
  | 8 => .inl (cc 0, 4, .inr (.inl (u.1 3)))
  | 9 => .inl (cc 0, 4, .inr (.inl (u.1 4)))
  | 10 => .inl (cc 1, 4, .inl (u.2.1 1))
  | 11 => .inl (cc 1, 3, .inl (u.2.1 5))
  | 12 => .inl (cc 2, 4, .inl (u.2.1 0))
  | 13 => .inl (cc 2, 4, .inl (u.2.1 2))
  | 14 => .inl (cc 2, 8, .inl (u.2.1 3))
  | 15 => .inl (cc 2, 3, .inl (u.2.1 4))
  | 16 => .inl (cc 2, 4, .inl (u.2.1 6))
  | 17 => .inl (cc 2, 4, .inl (u.2.1 7))
  | _ => .inl (cc 2, 4, .inl (u.2.1 8))
abbrev tr_w (ad : Nat → Nat) (cc : Nat → ClassId) (u : tm_S) : va_W := tm_w 19 ad (tr_ce ad cc u)
def tr_ty (cc : Nat → ClassId) : List (ClassId × FieldType) := [(cc 0, .long), (cc 1, .int), (cc 2, .boolean)]
section TRA
variable {ad : Nat → Nat} {cc : Nat → ClassId} {u : tm_S}
theorem tr_u_pcrCount_o {v : Int32} : ∀ q, q < 19 → q ≠ 0 → tr_ce ad cc (tm_I u 9 0 v) q = tr_ce ad cc u q := by
  intro q hj hne
  match q, hj, hne with
  | 0, _, hne => exact absurd rfl hne
  | 1, _, hne => simp [tr_ce, tm_I]
  | 2, _, hne => simp [tr_ce, tm_I]
  | 3, _, hne => simp [tr_ce, tm_I]
  | 4, _, hne => simp [tr_ce, tm_I]
  | 5, _, hne => simp [tr_ce, tm_I]
  | 6, _, hne => simp [tr_ce, tm_I]
  | 7, _, hne => simp [tr_ce, tm_I]
  | 8, _, hne => simp [tr_ce, tm_I]
  | 9, _, hne => simp [tr_ce, tm_I]
  | 10, _, hne => simp [tr_ce, tm_I]
  | 11, _, hne => simp [tr_ce, tm_I]
  | 12, _, hne => simp [tr_ce, tm_I]
  | 13, _, hne => simp [tr_ce, tm_I]
  | 14, _, hne => simp [tr_ce, tm_I]
  | 15, _, hne => simp [tr_ce, tm_I]
  | 16, _, hne => simp [tr_ce, tm_I]
  | 17, _, hne => simp [tr_ce, tm_I]
  | 18, _, hne => simp [tr_ce, tm_I]
  | n + 19, hj, _ => exact absurd hj (by omega)
theorem tr_s_pcrCount {v : Int32} : (tr_w ad cc u).set 0 (ad 0, .inr (5, [.ref (ad 1), .ref (ad 2), .ref (ad 3), .ref (ad 4), .ref (ad 5), .ref (ad 6), .ref (ad 7), .ref (ad 8), .ref (ad 9), .ref (ad 10), .ref (ad 11), .ref (ad 12), .ref (ad 13), .ref (ad 14), .ref (ad 15), .ref (ad 16), .ref (ad 17), .ref (ad 18), .int v, .int (u.2.1 13 0), .int (u.2.1 10 0), .int (u.2.1 12 0), .int (u.2.1 14 0), .int (u.2.1 11 0), .long (u.1 9 0), .double (u.2.2 1), .double (u.2.2 0), .double (u.2.2 2)])) = tr_w ad cc (tm_I u 9 0 v) :=
  tm_set (by omega) (by simp [tr_ce, tm_I]) tr_u_pcrCount_o
theorem tr_u_guesses_o {v : Int32} : ∀ q, q < 19 → q ≠ 0 → tr_ce ad cc (tm_I u 13 0 v) q = tr_ce ad cc u q := by
  intro q hj hne
  match q, hj, hne with
  | 0, _, hne => exact absurd rfl hne
  | 1, _, hne => simp [tr_ce, tm_I]
  | 2, _, hne => simp [tr_ce, tm_I]
  | 3, _, hne => simp [tr_ce, tm_I]
  | 4, _, hne => simp [tr_ce, tm_I]
  | 5, _, hne => simp [tr_ce, tm_I]
  | 6, _, hne => simp [tr_ce, tm_I]
  | 7, _, hne => simp [tr_ce, tm_I]
  | 8, _, hne => simp [tr_ce, tm_I]
  | 9, _, hne => simp [tr_ce, tm_I]
  | 10, _, hne => simp [tr_ce, tm_I]
  | 11, _, hne => simp [tr_ce, tm_I]
  | 12, _, hne => simp [tr_ce, tm_I]
  | 13, _, hne => simp [tr_ce, tm_I]
  | 14, _, hne => simp [tr_ce, tm_I]
  | 15, _, hne => simp [tr_ce, tm_I]
  | 16, _, hne => simp [tr_ce, tm_I]
  | 17, _, hne => simp [tr_ce, tm_I]
  | 18, _, hne => simp [tr_ce, tm_I]
  | n + 19, hj, _ => exact absurd hj (by omega)
theorem tr_s_guesses {v : Int32} : (tr_w ad cc u).set 0 (ad 0, .inr (5, [.ref (ad 1), .ref (ad 2), .ref (ad 3), .ref (ad 4), .ref (ad 5), .ref (ad 6), .ref (ad 7), .ref (ad 8), .ref (ad 9), .ref (ad 10), .ref (ad 11), .ref (ad 12), .ref (ad 13), .ref (ad 14), .ref (ad 15), .ref (ad 16), .ref (ad 17), .ref (ad 18), .int (u.2.1 9 0), .int v, .int (u.2.1 10 0), .int (u.2.1 12 0), .int (u.2.1 14 0), .int (u.2.1 11 0), .long (u.1 9 0), .double (u.2.2 1), .double (u.2.2 0), .double (u.2.2 2)])) = tr_w ad cc (tm_I u 13 0 v) :=
  tm_set (by omega) (by simp [tr_ce, tm_I]) tr_u_guesses_o
theorem tr_u_power_o {v : Int32} : ∀ q, q < 19 → q ≠ 0 → tr_ce ad cc (tm_I u 10 0 v) q = tr_ce ad cc u q := by
  intro q hj hne
  match q, hj, hne with
  | 0, _, hne => exact absurd rfl hne
  | 1, _, hne => simp [tr_ce, tm_I]
  | 2, _, hne => simp [tr_ce, tm_I]
  | 3, _, hne => simp [tr_ce, tm_I]
  | 4, _, hne => simp [tr_ce, tm_I]
  | 5, _, hne => simp [tr_ce, tm_I]
  | 6, _, hne => simp [tr_ce, tm_I]
  | 7, _, hne => simp [tr_ce, tm_I]
  | 8, _, hne => simp [tr_ce, tm_I]
  | 9, _, hne => simp [tr_ce, tm_I]
  | 10, _, hne => simp [tr_ce, tm_I]
  | 11, _, hne => simp [tr_ce, tm_I]
  | 12, _, hne => simp [tr_ce, tm_I]
  | 13, _, hne => simp [tr_ce, tm_I]
  | 14, _, hne => simp [tr_ce, tm_I]
  | 15, _, hne => simp [tr_ce, tm_I]
  | 16, _, hne => simp [tr_ce, tm_I]
  | 17, _, hne => simp [tr_ce, tm_I]
  | 18, _, hne => simp [tr_ce, tm_I]
  | n + 19, hj, _ => exact absurd hj (by omega)
theorem tr_s_power {v : Int32} : (tr_w ad cc u).set 0 (ad 0, .inr (5, [.ref (ad 1), .ref (ad 2), .ref (ad 3), .ref (ad 4), .ref (ad 5), .ref (ad 6), .ref (ad 7), .ref (ad 8), .ref (ad 9), .ref (ad 10), .ref (ad 11), .ref (ad 12), .ref (ad 13), .ref (ad 14), .ref (ad 15), .ref (ad 16), .ref (ad 17), .ref (ad 18), .int (u.2.1 9 0), .int (u.2.1 13 0), .int v, .int (u.2.1 12 0), .int (u.2.1 14 0), .int (u.2.1 11 0), .long (u.1 9 0), .double (u.2.2 1), .double (u.2.2 0), .double (u.2.2 2)])) = tr_w ad cc (tm_I u 10 0 v) :=
  tm_set (by omega) (by simp [tr_ce, tm_I]) tr_u_power_o
theorem tr_u_losses_o {v : Int32} : ∀ q, q < 19 → q ≠ 0 → tr_ce ad cc (tm_I u 12 0 v) q = tr_ce ad cc u q := by
  intro q hj hne
  match q, hj, hne with
  | 0, _, hne => exact absurd rfl hne
  | 1, _, hne => simp [tr_ce, tm_I]
  | 2, _, hne => simp [tr_ce, tm_I]
  | 3, _, hne => simp [tr_ce, tm_I]
  | 4, _, hne => simp [tr_ce, tm_I]
  | 5, _, hne => simp [tr_ce, tm_I]
  | 6, _, hne => simp [tr_ce, tm_I]
  | 7, _, hne => simp [tr_ce, tm_I]
  | 8, _, hne => simp [tr_ce, tm_I]
  | 9, _, hne => simp [tr_ce, tm_I]
  | 10, _, hne => simp [tr_ce, tm_I]
  | 11, _, hne => simp [tr_ce, tm_I]
  | 12, _, hne => simp [tr_ce, tm_I]
  | 13, _, hne => simp [tr_ce, tm_I]
  | 14, _, hne => simp [tr_ce, tm_I]
  | 15, _, hne => simp [tr_ce, tm_I]
  | 16, _, hne => simp [tr_ce, tm_I]
  | 17, _, hne => simp [tr_ce, tm_I]
  | 18, _, hne => simp [tr_ce, tm_I]
  | n + 19, hj, _ => exact absurd hj (by omega)
theorem tr_s_losses {v : Int32} : (tr_w ad cc u).set 0 (ad 0, .inr (5, [.ref (ad 1), .ref (ad 2), .ref (ad 3), .ref (ad 4), .ref (ad 5), .ref (ad 6), .ref (ad 7), .ref (ad 8), .ref (ad 9), .ref (ad 10), .ref (ad 11), .ref (ad 12), .ref (ad 13), .ref (ad 14), .ref (ad 15), .ref (ad 16), .ref (ad 17), .ref (ad 18), .int (u.2.1 9 0), .int (u.2.1 13 0), .int (u.2.1 10 0), .int v, .int (u.2.1 14 0), .int (u.2.1 11 0), .long (u.1 9 0), .double (u.2.2 1), .double (u.2.2 0), .double (u.2.2 2)])) = tr_w ad cc (tm_I u 12 0 v) :=
  tm_set (by omega) (by simp [tr_ce, tm_I]) tr_u_losses_o
theorem tr_u_thrown_o {v : Int32} : ∀ q, q < 19 → q ≠ 0 → tr_ce ad cc (tm_I u 14 0 v) q = tr_ce ad cc u q := by
  intro q hj hne
  match q, hj, hne with
  | 0, _, hne => exact absurd rfl hne
  | 1, _, hne => simp [tr_ce, tm_I]
  | 2, _, hne => simp [tr_ce, tm_I]
  | 3, _, hne => simp [tr_ce, tm_I]
  | 4, _, hne => simp [tr_ce, tm_I]
  | 5, _, hne => simp [tr_ce, tm_I]
  | 6, _, hne => simp [tr_ce, tm_I]
  | 7, _, hne => simp [tr_ce, tm_I]
  | 8, _, hne => simp [tr_ce, tm_I]
  | 9, _, hne => simp [tr_ce, tm_I]
  | 10, _, hne => simp [tr_ce, tm_I]
  | 11, _, hne => simp [tr_ce, tm_I]
  | 12, _, hne => simp [tr_ce, tm_I]
  | 13, _, hne => simp [tr_ce, tm_I]
  | 14, _, hne => simp [tr_ce, tm_I]
  | 15, _, hne => simp [tr_ce, tm_I]
  | 16, _, hne => simp [tr_ce, tm_I]
  | 17, _, hne => simp [tr_ce, tm_I]
  | 18, _, hne => simp [tr_ce, tm_I]
  | n + 19, hj, _ => exact absurd hj (by omega)
theorem tr_s_thrown {v : Int32} : (tr_w ad cc u).set 0 (ad 0, .inr (5, [.ref (ad 1), .ref (ad 2), .ref (ad 3), .ref (ad 4), .ref (ad 5), .ref (ad 6), .ref (ad 7), .ref (ad 8), .ref (ad 9), .ref (ad 10), .ref (ad 11), .ref (ad 12), .ref (ad 13), .ref (ad 14), .ref (ad 15), .ref (ad 16), .ref (ad 17), .ref (ad 18), .int (u.2.1 9 0), .int (u.2.1 13 0), .int (u.2.1 10 0), .int (u.2.1 12 0), .int v, .int (u.2.1 11 0), .long (u.1 9 0), .double (u.2.2 1), .double (u.2.2 0), .double (u.2.2 2)])) = tr_w ad cc (tm_I u 14 0 v) :=
  tm_set (by omega) (by simp [tr_ce, tm_I]) tr_u_thrown_o
theorem tr_u_lost_o {v : Int32} : ∀ q, q < 19 → q ≠ 0 → tr_ce ad cc (tm_I u 11 0 v) q = tr_ce ad cc u q := by
  intro q hj hne
  match q, hj, hne with
  | 0, _, hne => exact absurd rfl hne
  | 1, _, hne => simp [tr_ce, tm_I]
  | 2, _, hne => simp [tr_ce, tm_I]
  | 3, _, hne => simp [tr_ce, tm_I]
  | 4, _, hne => simp [tr_ce, tm_I]
  | 5, _, hne => simp [tr_ce, tm_I]
  | 6, _, hne => simp [tr_ce, tm_I]
  | 7, _, hne => simp [tr_ce, tm_I]
  | 8, _, hne => simp [tr_ce, tm_I]
  | 9, _, hne => simp [tr_ce, tm_I]
  | 10, _, hne => simp [tr_ce, tm_I]
  | 11, _, hne => simp [tr_ce, tm_I]
  | 12, _, hne => simp [tr_ce, tm_I]
  | 13, _, hne => simp [tr_ce, tm_I]
  | 14, _, hne => simp [tr_ce, tm_I]
  | 15, _, hne => simp [tr_ce, tm_I]
  | 16, _, hne => simp [tr_ce, tm_I]
  | 17, _, hne => simp [tr_ce, tm_I]
  | 18, _, hne => simp [tr_ce, tm_I]
  | n + 19, hj, _ => exact absurd hj (by omega)
theorem tr_s_lost {v : Int32} : (tr_w ad cc u).set 0 (ad 0, .inr (5, [.ref (ad 1), .ref (ad 2), .ref (ad 3), .ref (ad 4), .ref (ad 5), .ref (ad 6), .ref (ad 7), .ref (ad 8), .ref (ad 9), .ref (ad 10), .ref (ad 11), .ref (ad 12), .ref (ad 13), .ref (ad 14), .ref (ad 15), .ref (ad 16), .ref (ad 17), .ref (ad 18), .int (u.2.1 9 0), .int (u.2.1 13 0), .int (u.2.1 10 0), .int (u.2.1 12 0), .int (u.2.1 14 0), .int v, .long (u.1 9 0), .double (u.2.2 1), .double (u.2.2 0), .double (u.2.2 2)])) = tr_w ad cc (tm_I u 11 0 v) :=
  tm_set (by omega) (by simp [tr_ce, tm_I]) tr_u_lost_o
theorem tr_u_highest_o {v : Int64} : ∀ q, q < 19 → q ≠ 0 → tr_ce ad cc (tm_L u 9 0 v) q = tr_ce ad cc u q := by
  intro q hj hne
  match q, hj, hne with
  | 0, _, hne => exact absurd rfl hne
  | 1, _, hne => simp [tr_ce, tm_L]
  | 2, _, hne => simp [tr_ce, tm_L]
  | 3, _, hne => simp [tr_ce, tm_L]
  | 4, _, hne => simp [tr_ce, tm_L]
  | 5, _, hne => simp [tr_ce, tm_L]
  | 6, _, hne => simp [tr_ce, tm_L]
  | 7, _, hne => simp [tr_ce, tm_L]
  | 8, _, hne => simp [tr_ce, tm_L]
  | 9, _, hne => simp [tr_ce, tm_L]
  | 10, _, hne => simp [tr_ce, tm_L]
  | 11, _, hne => simp [tr_ce, tm_L]
  | 12, _, hne => simp [tr_ce, tm_L]
  | 13, _, hne => simp [tr_ce, tm_L]
  | 14, _, hne => simp [tr_ce, tm_L]
  | 15, _, hne => simp [tr_ce, tm_L]
  | 16, _, hne => simp [tr_ce, tm_L]
  | 17, _, hne => simp [tr_ce, tm_L]
  | 18, _, hne => simp [tr_ce, tm_L]
  | n + 19, hj, _ => exact absurd hj (by omega)
theorem tr_s_highest {v : Int64} : (tr_w ad cc u).set 0 (ad 0, .inr (5, [.ref (ad 1), .ref (ad 2), .ref (ad 3), .ref (ad 4), .ref (ad 5), .ref (ad 6), .ref (ad 7), .ref (ad 8), .ref (ad 9), .ref (ad 10), .ref (ad 11), .ref (ad 12), .ref (ad 13), .ref (ad 14), .ref (ad 15), .ref (ad 16), .ref (ad 17), .ref (ad 18), .int (u.2.1 9 0), .int (u.2.1 13 0), .int (u.2.1 10 0), .int (u.2.1 12 0), .int (u.2.1 14 0), .int (u.2.1 11 0), .long v, .double (u.2.2 1), .double (u.2.2 0), .double (u.2.2 2)])) = tr_w ad cc (tm_L u 9 0 v) :=
  tm_set (by omega) (by simp [tr_ce, tm_L]) tr_u_highest_o
theorem tr_u_clock_o {v : UInt64} : ∀ q, q < 19 → q ≠ 0 → tr_ce ad cc (tm_D u 1 v) q = tr_ce ad cc u q := by
  intro q hj hne
  match q, hj, hne with
  | 0, _, hne => exact absurd rfl hne
  | 1, _, hne => simp [tr_ce, tm_D]
  | 2, _, hne => simp [tr_ce, tm_D]
  | 3, _, hne => simp [tr_ce, tm_D]
  | 4, _, hne => simp [tr_ce, tm_D]
  | 5, _, hne => simp [tr_ce, tm_D]
  | 6, _, hne => simp [tr_ce, tm_D]
  | 7, _, hne => simp [tr_ce, tm_D]
  | 8, _, hne => simp [tr_ce, tm_D]
  | 9, _, hne => simp [tr_ce, tm_D]
  | 10, _, hne => simp [tr_ce, tm_D]
  | 11, _, hne => simp [tr_ce, tm_D]
  | 12, _, hne => simp [tr_ce, tm_D]
  | 13, _, hne => simp [tr_ce, tm_D]
  | 14, _, hne => simp [tr_ce, tm_D]
  | 15, _, hne => simp [tr_ce, tm_D]
  | 16, _, hne => simp [tr_ce, tm_D]
  | 17, _, hne => simp [tr_ce, tm_D]
  | 18, _, hne => simp [tr_ce, tm_D]
  | n + 19, hj, _ => exact absurd hj (by omega)
theorem tr_s_clock {v : UInt64} : (tr_w ad cc u).set 0 (ad 0, .inr (5, [.ref (ad 1), .ref (ad 2), .ref (ad 3), .ref (ad 4), .ref (ad 5), .ref (ad 6), .ref (ad 7), .ref (ad 8), .ref (ad 9), .ref (ad 10), .ref (ad 11), .ref (ad 12), .ref (ad 13), .ref (ad 14), .ref (ad 15), .ref (ad 16), .ref (ad 17), .ref (ad 18), .int (u.2.1 9 0), .int (u.2.1 13 0), .int (u.2.1 10 0), .int (u.2.1 12 0), .int (u.2.1 14 0), .int (u.2.1 11 0), .long (u.1 9 0), .double v, .double (u.2.2 0), .double (u.2.2 2)])) = tr_w ad cc (tm_D u 1 v) :=
  tm_set (by omega) (by simp [tr_ce, tm_D]) tr_u_clock_o
theorem tr_u_mark_o {v : UInt64} : ∀ q, q < 19 → q ≠ 0 → tr_ce ad cc (tm_D u 0 v) q = tr_ce ad cc u q := by
  intro q hj hne
  match q, hj, hne with
  | 0, _, hne => exact absurd rfl hne
  | 1, _, hne => simp [tr_ce, tm_D]
  | 2, _, hne => simp [tr_ce, tm_D]
  | 3, _, hne => simp [tr_ce, tm_D]
  | 4, _, hne => simp [tr_ce, tm_D]
  | 5, _, hne => simp [tr_ce, tm_D]
  | 6, _, hne => simp [tr_ce, tm_D]
  | 7, _, hne => simp [tr_ce, tm_D]
  | 8, _, hne => simp [tr_ce, tm_D]
  | 9, _, hne => simp [tr_ce, tm_D]
  | 10, _, hne => simp [tr_ce, tm_D]
  | 11, _, hne => simp [tr_ce, tm_D]
  | 12, _, hne => simp [tr_ce, tm_D]
  | 13, _, hne => simp [tr_ce, tm_D]
  | 14, _, hne => simp [tr_ce, tm_D]
  | 15, _, hne => simp [tr_ce, tm_D]
  | 16, _, hne => simp [tr_ce, tm_D]
  | 17, _, hne => simp [tr_ce, tm_D]
  | 18, _, hne => simp [tr_ce, tm_D]
  | n + 19, hj, _ => exact absurd hj (by omega)
theorem tr_s_mark {v : UInt64} : (tr_w ad cc u).set 0 (ad 0, .inr (5, [.ref (ad 1), .ref (ad 2), .ref (ad 3), .ref (ad 4), .ref (ad 5), .ref (ad 6), .ref (ad 7), .ref (ad 8), .ref (ad 9), .ref (ad 10), .ref (ad 11), .ref (ad 12), .ref (ad 13), .ref (ad 14), .ref (ad 15), .ref (ad 16), .ref (ad 17), .ref (ad 18), .int (u.2.1 9 0), .int (u.2.1 13 0), .int (u.2.1 10 0), .int (u.2.1 12 0), .int (u.2.1 14 0), .int (u.2.1 11 0), .long (u.1 9 0), .double (u.2.2 1), .double v, .double (u.2.2 2)])) = tr_w ad cc (tm_D u 0 v) :=
  tm_set (by omega) (by simp [tr_ce, tm_D]) tr_u_mark_o
theorem tr_u_rate_o {v : UInt64} : ∀ q, q < 19 → q ≠ 0 → tr_ce ad cc (tm_D u 2 v) q = tr_ce ad cc u q := by
  intro q hj hne
  match q, hj, hne with
  | 0, _, hne => exact absurd rfl hne
  | 1, _, hne => simp [tr_ce, tm_D]
  | 2, _, hne => simp [tr_ce, tm_D]
  | 3, _, hne => simp [tr_ce, tm_D]
  | 4, _, hne => simp [tr_ce, tm_D]
  | 5, _, hne => simp [tr_ce, tm_D]
  | 6, _, hne => simp [tr_ce, tm_D]
  | 7, _, hne => simp [tr_ce, tm_D]
  | 8, _, hne => simp [tr_ce, tm_D]
  | 9, _, hne => simp [tr_ce, tm_D]
  | 10, _, hne => simp [tr_ce, tm_D]
  | 11, _, hne => simp [tr_ce, tm_D]
  | 12, _, hne => simp [tr_ce, tm_D]
  | 13, _, hne => simp [tr_ce, tm_D]
  | 14, _, hne => simp [tr_ce, tm_D]
  | 15, _, hne => simp [tr_ce, tm_D]
  | 16, _, hne => simp [tr_ce, tm_D]
  | 17, _, hne => simp [tr_ce, tm_D]
  | 18, _, hne => simp [tr_ce, tm_D]
  | n + 19, hj, _ => exact absurd hj (by omega)
theorem tr_s_rate {v : UInt64} : (tr_w ad cc u).set 0 (ad 0, .inr (5, [.ref (ad 1), .ref (ad 2), .ref (ad 3), .ref (ad 4), .ref (ad 5), .ref (ad 6), .ref (ad 7), .ref (ad 8), .ref (ad 9), .ref (ad 10), .ref (ad 11), .ref (ad 12), .ref (ad 13), .ref (ad 14), .ref (ad 15), .ref (ad 16), .ref (ad 17), .ref (ad 18), .int (u.2.1 9 0), .int (u.2.1 13 0), .int (u.2.1 10 0), .int (u.2.1 12 0), .int (u.2.1 14 0), .int (u.2.1 11 0), .long (u.1 9 0), .double (u.2.2 1), .double (u.2.2 0), .double v])) = tr_w ad cc (tm_D u 2 v) :=
  tm_set (by omega) (by simp [tr_ce, tm_D]) tr_u_rate_o
theorem tr_u_seed_o {j : Nat} {v : Int64} : ∀ q, q < 19 → q ≠ 1 → tr_ce ad cc (tm_L u 0 j v) q = tr_ce ad cc u q := by
  intro q hj hne
  match q, hj, hne with
  | 0, _, hne => simp [tr_ce, tm_L]
  | 1, _, hne => exact absurd rfl hne
  | 2, _, hne => simp [tr_ce, tm_L]
  | 3, _, hne => simp [tr_ce, tm_L]
  | 4, _, hne => simp [tr_ce, tm_L]
  | 5, _, hne => simp [tr_ce, tm_L]
  | 6, _, hne => simp [tr_ce, tm_L]
  | 7, _, hne => simp [tr_ce, tm_L]
  | 8, _, hne => simp [tr_ce, tm_L]
  | 9, _, hne => simp [tr_ce, tm_L]
  | 10, _, hne => simp [tr_ce, tm_L]
  | 11, _, hne => simp [tr_ce, tm_L]
  | 12, _, hne => simp [tr_ce, tm_L]
  | 13, _, hne => simp [tr_ce, tm_L]
  | 14, _, hne => simp [tr_ce, tm_L]
  | 15, _, hne => simp [tr_ce, tm_L]
  | 16, _, hne => simp [tr_ce, tm_L]
  | 17, _, hne => simp [tr_ce, tm_L]
  | 18, _, hne => simp [tr_ce, tm_L]
  | n + 19, hj, _ => exact absurd hj (by omega)
theorem tr_s_seed {j : Nat} {v : Int64} : (tr_w ad cc u).set 1 (ad 1, .inl (cc 0, 3, .inr (.inl (vp_updL (u.1 0) j v)))) = tr_w ad cc (tm_L u 0 j v) :=
  tm_set (by omega) (by
    simp only [tr_ce]
    congr; funext i; simp [tm_L, vp_updL]) tr_u_seed_o
theorem tr_u_pcr_o {j : Nat} {v : Int64} : ∀ q, q < 19 → q ≠ 2 → tr_ce ad cc (tm_L u 1 j v) q = tr_ce ad cc u q := by
  intro q hj hne
  match q, hj, hne with
  | 0, _, hne => simp [tr_ce, tm_L]
  | 1, _, hne => simp [tr_ce, tm_L]
  | 2, _, hne => exact absurd rfl hne
  | 3, _, hne => simp [tr_ce, tm_L]
  | 4, _, hne => simp [tr_ce, tm_L]
  | 5, _, hne => simp [tr_ce, tm_L]
  | 6, _, hne => simp [tr_ce, tm_L]
  | 7, _, hne => simp [tr_ce, tm_L]
  | 8, _, hne => simp [tr_ce, tm_L]
  | 9, _, hne => simp [tr_ce, tm_L]
  | 10, _, hne => simp [tr_ce, tm_L]
  | 11, _, hne => simp [tr_ce, tm_L]
  | 12, _, hne => simp [tr_ce, tm_L]
  | 13, _, hne => simp [tr_ce, tm_L]
  | 14, _, hne => simp [tr_ce, tm_L]
  | 15, _, hne => simp [tr_ce, tm_L]
  | 16, _, hne => simp [tr_ce, tm_L]
  | 17, _, hne => simp [tr_ce, tm_L]
  | 18, _, hne => simp [tr_ce, tm_L]
  | n + 19, hj, _ => exact absurd hj (by omega)
theorem tr_s_pcr {j : Nat} {v : Int64} : (tr_w ad cc u).set 2 (ad 2, .inl (cc 0, 16, .inr (.inl (vp_updL (u.1 1) j v)))) = tr_w ad cc (tm_L u 1 j v) :=
  tm_set (by omega) (by
    simp only [tr_ce]
    congr; funext i; simp [tm_L, vp_updL]) tr_u_pcr_o
theorem tr_u_digest_o {j : Nat} {v : Int64} : ∀ q, q < 19 → q ≠ 3 → tr_ce ad cc (tm_L u 6 j v) q = tr_ce ad cc u q := by
  intro q hj hne
  match q, hj, hne with
  | 0, _, hne => simp [tr_ce, tm_L]
  | 1, _, hne => simp [tr_ce, tm_L]
  | 2, _, hne => simp [tr_ce, tm_L]
  | 3, _, hne => exact absurd rfl hne
  | 4, _, hne => simp [tr_ce, tm_L]
  | 5, _, hne => simp [tr_ce, tm_L]
  | 6, _, hne => simp [tr_ce, tm_L]
  | 7, _, hne => simp [tr_ce, tm_L]
  | 8, _, hne => simp [tr_ce, tm_L]
  | 9, _, hne => simp [tr_ce, tm_L]
  | 10, _, hne => simp [tr_ce, tm_L]
  | 11, _, hne => simp [tr_ce, tm_L]
  | 12, _, hne => simp [tr_ce, tm_L]
  | 13, _, hne => simp [tr_ce, tm_L]
  | 14, _, hne => simp [tr_ce, tm_L]
  | 15, _, hne => simp [tr_ce, tm_L]
  | 16, _, hne => simp [tr_ce, tm_L]
  | 17, _, hne => simp [tr_ce, tm_L]
  | 18, _, hne => simp [tr_ce, tm_L]
  | n + 19, hj, _ => exact absurd hj (by omega)
theorem tr_s_digest {j : Nat} {v : Int64} : (tr_w ad cc u).set 3 (ad 3, .inl (cc 0, 3, .inr (.inl (vp_updL (u.1 6) j v)))) = tr_w ad cc (tm_L u 6 j v) :=
  tm_set (by omega) (by
    simp only [tr_ce]
    congr; funext i; simp [tm_L, vp_updL]) tr_u_digest_o
theorem tr_u_blob_o {j : Nat} {v : Int64} : ∀ q, q < 19 → q ≠ 4 → tr_ce ad cc (tm_L u 5 j v) q = tr_ce ad cc u q := by
  intro q hj hne
  match q, hj, hne with
  | 0, _, hne => simp [tr_ce, tm_L]
  | 1, _, hne => simp [tr_ce, tm_L]
  | 2, _, hne => simp [tr_ce, tm_L]
  | 3, _, hne => simp [tr_ce, tm_L]
  | 4, _, hne => exact absurd rfl hne
  | 5, _, hne => simp [tr_ce, tm_L]
  | 6, _, hne => simp [tr_ce, tm_L]
  | 7, _, hne => simp [tr_ce, tm_L]
  | 8, _, hne => simp [tr_ce, tm_L]
  | 9, _, hne => simp [tr_ce, tm_L]
  | 10, _, hne => simp [tr_ce, tm_L]
  | 11, _, hne => simp [tr_ce, tm_L]
  | 12, _, hne => simp [tr_ce, tm_L]
  | 13, _, hne => simp [tr_ce, tm_L]
  | 14, _, hne => simp [tr_ce, tm_L]
  | 15, _, hne => simp [tr_ce, tm_L]
  | 16, _, hne => simp [tr_ce, tm_L]
  | 17, _, hne => simp [tr_ce, tm_L]
  | 18, _, hne => simp [tr_ce, tm_L]
  | n + 19, hj, _ => exact absurd hj (by omega)
theorem tr_s_blob {j : Nat} {v : Int64} : (tr_w ad cc u).set 4 (ad 4, .inl (cc 0, 32, .inr (.inl (vp_updL (u.1 5) j v)))) = tr_w ad cc (tm_L u 5 j v) :=
  tm_set (by omega) (by
    simp only [tr_ce]
    congr; funext i; simp [tm_L, vp_updL]) tr_u_blob_o
theorem tr_u_cell_o {j : Nat} {v : Int64} : ∀ q, q < 19 → q ≠ 5 → tr_ce ad cc (tm_L u 8 j v) q = tr_ce ad cc u q := by
  intro q hj hne
  match q, hj, hne with
  | 0, _, hne => simp [tr_ce, tm_L]
  | 1, _, hne => simp [tr_ce, tm_L]
  | 2, _, hne => simp [tr_ce, tm_L]
  | 3, _, hne => simp [tr_ce, tm_L]
  | 4, _, hne => simp [tr_ce, tm_L]
  | 5, _, hne => exact absurd rfl hne
  | 6, _, hne => simp [tr_ce, tm_L]
  | 7, _, hne => simp [tr_ce, tm_L]
  | 8, _, hne => simp [tr_ce, tm_L]
  | 9, _, hne => simp [tr_ce, tm_L]
  | 10, _, hne => simp [tr_ce, tm_L]
  | 11, _, hne => simp [tr_ce, tm_L]
  | 12, _, hne => simp [tr_ce, tm_L]
  | 13, _, hne => simp [tr_ce, tm_L]
  | 14, _, hne => simp [tr_ce, tm_L]
  | 15, _, hne => simp [tr_ce, tm_L]
  | 16, _, hne => simp [tr_ce, tm_L]
  | 17, _, hne => simp [tr_ce, tm_L]
  | 18, _, hne => simp [tr_ce, tm_L]
  | n + 19, hj, _ => exact absurd hj (by omega)
theorem tr_s_cell {j : Nat} {v : Int64} : (tr_w ad cc u).set 5 (ad 5, .inl (cc 0, 4, .inr (.inl (vp_updL (u.1 8) j v)))) = tr_w ad cc (tm_L u 8 j v) :=
  tm_set (by omega) (by
    simp only [tr_ce]
    congr; funext i; simp [tm_L, vp_updL]) tr_u_cell_o
theorem tr_u_cellPolicy_o {j : Nat} {v : Int64} : ∀ q, q < 19 → q ≠ 6 → tr_ce ad cc (tm_L u 7 j v) q = tr_ce ad cc u q := by
  intro q hj hne
  match q, hj, hne with
  | 0, _, hne => simp [tr_ce, tm_L]
  | 1, _, hne => simp [tr_ce, tm_L]
  | 2, _, hne => simp [tr_ce, tm_L]
  | 3, _, hne => simp [tr_ce, tm_L]
  | 4, _, hne => simp [tr_ce, tm_L]
  | 5, _, hne => simp [tr_ce, tm_L]
  | 6, _, hne => exact absurd rfl hne
  | 7, _, hne => simp [tr_ce, tm_L]
  | 8, _, hne => simp [tr_ce, tm_L]
  | 9, _, hne => simp [tr_ce, tm_L]
  | 10, _, hne => simp [tr_ce, tm_L]
  | 11, _, hne => simp [tr_ce, tm_L]
  | 12, _, hne => simp [tr_ce, tm_L]
  | 13, _, hne => simp [tr_ce, tm_L]
  | 14, _, hne => simp [tr_ce, tm_L]
  | 15, _, hne => simp [tr_ce, tm_L]
  | 16, _, hne => simp [tr_ce, tm_L]
  | 17, _, hne => simp [tr_ce, tm_L]
  | 18, _, hne => simp [tr_ce, tm_L]
  | n + 19, hj, _ => exact absurd hj (by omega)
theorem tr_s_cellPolicy {j : Nat} {v : Int64} : (tr_w ad cc u).set 6 (ad 6, .inl (cc 0, 4, .inr (.inl (vp_updL (u.1 7) j v)))) = tr_w ad cc (tm_L u 7 j v) :=
  tm_set (by omega) (by
    simp only [tr_ce]
    congr; funext i; simp [tm_L, vp_updL]) tr_u_cellPolicy_o
theorem tr_u_keyValue_o {j : Nat} {v : Int64} : ∀ q, q < 19 → q ≠ 7 → tr_ce ad cc (tm_L u 2 j v) q = tr_ce ad cc u q := by
  intro q hj hne
  match q, hj, hne with
  | 0, _, hne => simp [tr_ce, tm_L]
  | 1, _, hne => simp [tr_ce, tm_L]
  | 2, _, hne => simp [tr_ce, tm_L]
  | 3, _, hne => simp [tr_ce, tm_L]
  | 4, _, hne => simp [tr_ce, tm_L]
  | 5, _, hne => simp [tr_ce, tm_L]
  | 6, _, hne => simp [tr_ce, tm_L]
  | 7, _, hne => exact absurd rfl hne
  | 8, _, hne => simp [tr_ce, tm_L]
  | 9, _, hne => simp [tr_ce, tm_L]
  | 10, _, hne => simp [tr_ce, tm_L]
  | 11, _, hne => simp [tr_ce, tm_L]
  | 12, _, hne => simp [tr_ce, tm_L]
  | 13, _, hne => simp [tr_ce, tm_L]
  | 14, _, hne => simp [tr_ce, tm_L]
  | 15, _, hne => simp [tr_ce, tm_L]
  | 16, _, hne => simp [tr_ce, tm_L]
  | 17, _, hne => simp [tr_ce, tm_L]
  | 18, _, hne => simp [tr_ce, tm_L]
  | n + 19, hj, _ => exact absurd hj (by omega)
theorem tr_s_keyValue {j : Nat} {v : Int64} : (tr_w ad cc u).set 7 (ad 7, .inl (cc 0, 4, .inr (.inl (vp_updL (u.1 2) j v)))) = tr_w ad cc (tm_L u 2 j v) :=
  tm_set (by omega) (by
    simp only [tr_ce]
    congr; funext i; simp [tm_L, vp_updL]) tr_u_keyValue_o
theorem tr_u_policy_o {j : Nat} {v : Int64} : ∀ q, q < 19 → q ≠ 8 → tr_ce ad cc (tm_L u 3 j v) q = tr_ce ad cc u q := by
  intro q hj hne
  match q, hj, hne with
  | 0, _, hne => simp [tr_ce, tm_L]
  | 1, _, hne => simp [tr_ce, tm_L]
  | 2, _, hne => simp [tr_ce, tm_L]
  | 3, _, hne => simp [tr_ce, tm_L]
  | 4, _, hne => simp [tr_ce, tm_L]
  | 5, _, hne => simp [tr_ce, tm_L]
  | 6, _, hne => simp [tr_ce, tm_L]
  | 7, _, hne => simp [tr_ce, tm_L]
  | 8, _, hne => exact absurd rfl hne
  | 9, _, hne => simp [tr_ce, tm_L]
  | 10, _, hne => simp [tr_ce, tm_L]
  | 11, _, hne => simp [tr_ce, tm_L]
  | 12, _, hne => simp [tr_ce, tm_L]
  | 13, _, hne => simp [tr_ce, tm_L]
  | 14, _, hne => simp [tr_ce, tm_L]
  | 15, _, hne => simp [tr_ce, tm_L]
  | 16, _, hne => simp [tr_ce, tm_L]
  | 17, _, hne => simp [tr_ce, tm_L]
  | 18, _, hne => simp [tr_ce, tm_L]
  | n + 19, hj, _ => exact absurd hj (by omega)
theorem tr_s_policy {j : Nat} {v : Int64} : (tr_w ad cc u).set 8 (ad 8, .inl (cc 0, 4, .inr (.inl (vp_updL (u.1 3) j v)))) = tr_w ad cc (tm_L u 3 j v) :=
  tm_set (by omega) (by
    simp only [tr_ce]
    congr; funext i; simp [tm_L, vp_updL]) tr_u_policy_o
theorem tr_u_secret_o {j : Nat} {v : Int64} : ∀ q, q < 19 → q ≠ 9 → tr_ce ad cc (tm_L u 4 j v) q = tr_ce ad cc u q := by
  intro q hj hne
  match q, hj, hne with
  | 0, _, hne => simp [tr_ce, tm_L]
  | 1, _, hne => simp [tr_ce, tm_L]
  | 2, _, hne => simp [tr_ce, tm_L]
  | 3, _, hne => simp [tr_ce, tm_L]
  | 4, _, hne => simp [tr_ce, tm_L]
  | 5, _, hne => simp [tr_ce, tm_L]
  | 6, _, hne => simp [tr_ce, tm_L]
  | 7, _, hne => simp [tr_ce, tm_L]
  | 8, _, hne => simp [tr_ce, tm_L]
  | 9, _, hne => exact absurd rfl hne
  | 10, _, hne => simp [tr_ce, tm_L]
  | 11, _, hne => simp [tr_ce, tm_L]
  | 12, _, hne => simp [tr_ce, tm_L]
  | 13, _, hne => simp [tr_ce, tm_L]
  | 14, _, hne => simp [tr_ce, tm_L]
  | 15, _, hne => simp [tr_ce, tm_L]
  | 16, _, hne => simp [tr_ce, tm_L]
  | 17, _, hne => simp [tr_ce, tm_L]
  | 18, _, hne => simp [tr_ce, tm_L]
  | n + 19, hj, _ => exact absurd hj (by omega)
theorem tr_s_secret {j : Nat} {v : Int64} : (tr_w ad cc u).set 9 (ad 9, .inl (cc 0, 4, .inr (.inl (vp_updL (u.1 4) j v)))) = tr_w ad cc (tm_L u 4 j v) :=
  tm_set (by omega) (by
    simp only [tr_ce]
    congr; funext i; simp [tm_L, vp_updL]) tr_u_secret_o
theorem tr_u_word_o {j : Nat} {v : Int32} : ∀ q, q < 19 → q ≠ 10 → tr_ce ad cc (tm_I u 1 j v) q = tr_ce ad cc u q := by
  intro q hj hne
  match q, hj, hne with
  | 0, _, hne => simp [tr_ce, tm_I]
  | 1, _, hne => simp [tr_ce, tm_I]
  | 2, _, hne => simp [tr_ce, tm_I]
  | 3, _, hne => simp [tr_ce, tm_I]
  | 4, _, hne => simp [tr_ce, tm_I]
  | 5, _, hne => simp [tr_ce, tm_I]
  | 6, _, hne => simp [tr_ce, tm_I]
  | 7, _, hne => simp [tr_ce, tm_I]
  | 8, _, hne => simp [tr_ce, tm_I]
  | 9, _, hne => simp [tr_ce, tm_I]
  | 10, _, hne => exact absurd rfl hne
  | 11, _, hne => simp [tr_ce, tm_I]
  | 12, _, hne => simp [tr_ce, tm_I]
  | 13, _, hne => simp [tr_ce, tm_I]
  | 14, _, hne => simp [tr_ce, tm_I]
  | 15, _, hne => simp [tr_ce, tm_I]
  | 16, _, hne => simp [tr_ce, tm_I]
  | 17, _, hne => simp [tr_ce, tm_I]
  | 18, _, hne => simp [tr_ce, tm_I]
  | n + 19, hj, _ => exact absurd hj (by omega)
theorem tr_s_word {j : Nat} {v : Int32} : (tr_w ad cc u).set 10 (ad 10, .inl (cc 1, 4, .inl (upd (u.2.1 1) j v))) = tr_w ad cc (tm_I u 1 j v) :=
  tm_set (by omega) (by
    simp only [tr_ce]
    congr; funext i; simp [tm_I, upd]) tr_u_word_o
theorem tr_u_seen_o {j : Nat} {v : Int32} : ∀ q, q < 19 → q ≠ 11 → tr_ce ad cc (tm_I u 5 j v) q = tr_ce ad cc u q := by
  intro q hj hne
  match q, hj, hne with
  | 0, _, hne => simp [tr_ce, tm_I]
  | 1, _, hne => simp [tr_ce, tm_I]
  | 2, _, hne => simp [tr_ce, tm_I]
  | 3, _, hne => simp [tr_ce, tm_I]
  | 4, _, hne => simp [tr_ce, tm_I]
  | 5, _, hne => simp [tr_ce, tm_I]
  | 6, _, hne => simp [tr_ce, tm_I]
  | 7, _, hne => simp [tr_ce, tm_I]
  | 8, _, hne => simp [tr_ce, tm_I]
  | 9, _, hne => simp [tr_ce, tm_I]
  | 10, _, hne => simp [tr_ce, tm_I]
  | 11, _, hne => exact absurd rfl hne
  | 12, _, hne => simp [tr_ce, tm_I]
  | 13, _, hne => simp [tr_ce, tm_I]
  | 14, _, hne => simp [tr_ce, tm_I]
  | 15, _, hne => simp [tr_ce, tm_I]
  | 16, _, hne => simp [tr_ce, tm_I]
  | 17, _, hne => simp [tr_ce, tm_I]
  | 18, _, hne => simp [tr_ce, tm_I]
  | n + 19, hj, _ => exact absurd hj (by omega)
theorem tr_s_seen {j : Nat} {v : Int32} : (tr_w ad cc u).set 11 (ad 11, .inl (cc 1, 3, .inl (upd (u.2.1 5) j v))) = tr_w ad cc (tm_I u 5 j v) :=
  tm_set (by omega) (by
    simp only [tr_ce]
    congr; funext i; simp [tm_I, upd]) tr_u_seen_o
theorem tr_u_used_o {j : Nat} {v : Int32} : ∀ q, q < 19 → q ≠ 12 → tr_ce ad cc (tm_I u 0 j v) q = tr_ce ad cc u q := by
  intro q hj hne
  match q, hj, hne with
  | 0, _, hne => simp [tr_ce, tm_I]
  | 1, _, hne => simp [tr_ce, tm_I]
  | 2, _, hne => simp [tr_ce, tm_I]
  | 3, _, hne => simp [tr_ce, tm_I]
  | 4, _, hne => simp [tr_ce, tm_I]
  | 5, _, hne => simp [tr_ce, tm_I]
  | 6, _, hne => simp [tr_ce, tm_I]
  | 7, _, hne => simp [tr_ce, tm_I]
  | 8, _, hne => simp [tr_ce, tm_I]
  | 9, _, hne => simp [tr_ce, tm_I]
  | 10, _, hne => simp [tr_ce, tm_I]
  | 11, _, hne => simp [tr_ce, tm_I]
  | 12, _, hne => exact absurd rfl hne
  | 13, _, hne => simp [tr_ce, tm_I]
  | 14, _, hne => simp [tr_ce, tm_I]
  | 15, _, hne => simp [tr_ce, tm_I]
  | 16, _, hne => simp [tr_ce, tm_I]
  | 17, _, hne => simp [tr_ce, tm_I]
  | 18, _, hne => simp [tr_ce, tm_I]
  | n + 19, hj, _ => exact absurd hj (by omega)
theorem tr_s_used {j : Nat} {v : Int32} : (tr_w ad cc u).set 12 (ad 12, .inl (cc 2, 4, .inl (upd (u.2.1 0) j v))) = tr_w ad cc (tm_I u 0 j v) :=
  tm_set (by omega) (by
    simp only [tr_ce]
    congr; funext i; simp [tm_I, upd]) tr_u_used_o
theorem tr_u_isParent_o {j : Nat} {v : Int32} : ∀ q, q < 19 → q ≠ 13 → tr_ce ad cc (tm_I u 2 j v) q = tr_ce ad cc u q := by
  intro q hj hne
  match q, hj, hne with
  | 0, _, hne => simp [tr_ce, tm_I]
  | 1, _, hne => simp [tr_ce, tm_I]
  | 2, _, hne => simp [tr_ce, tm_I]
  | 3, _, hne => simp [tr_ce, tm_I]
  | 4, _, hne => simp [tr_ce, tm_I]
  | 5, _, hne => simp [tr_ce, tm_I]
  | 6, _, hne => simp [tr_ce, tm_I]
  | 7, _, hne => simp [tr_ce, tm_I]
  | 8, _, hne => simp [tr_ce, tm_I]
  | 9, _, hne => simp [tr_ce, tm_I]
  | 10, _, hne => simp [tr_ce, tm_I]
  | 11, _, hne => simp [tr_ce, tm_I]
  | 12, _, hne => simp [tr_ce, tm_I]
  | 13, _, hne => exact absurd rfl hne
  | 14, _, hne => simp [tr_ce, tm_I]
  | 15, _, hne => simp [tr_ce, tm_I]
  | 16, _, hne => simp [tr_ce, tm_I]
  | 17, _, hne => simp [tr_ce, tm_I]
  | 18, _, hne => simp [tr_ce, tm_I]
  | n + 19, hj, _ => exact absurd hj (by omega)
theorem tr_s_isParent {j : Nat} {v : Int32} : (tr_w ad cc u).set 13 (ad 13, .inl (cc 2, 4, .inl (upd (u.2.1 2) j v))) = tr_w ad cc (tm_I u 2 j v) :=
  tm_set (by omega) (by
    simp only [tr_ce]
    congr; funext i; simp [tm_I, upd]) tr_u_isParent_o
theorem tr_u_there_o {j : Nat} {v : Int32} : ∀ q, q < 19 → q ≠ 14 → tr_ce ad cc (tm_I u 3 j v) q = tr_ce ad cc u q := by
  intro q hj hne
  match q, hj, hne with
  | 0, _, hne => simp [tr_ce, tm_I]
  | 1, _, hne => simp [tr_ce, tm_I]
  | 2, _, hne => simp [tr_ce, tm_I]
  | 3, _, hne => simp [tr_ce, tm_I]
  | 4, _, hne => simp [tr_ce, tm_I]
  | 5, _, hne => simp [tr_ce, tm_I]
  | 6, _, hne => simp [tr_ce, tm_I]
  | 7, _, hne => simp [tr_ce, tm_I]
  | 8, _, hne => simp [tr_ce, tm_I]
  | 9, _, hne => simp [tr_ce, tm_I]
  | 10, _, hne => simp [tr_ce, tm_I]
  | 11, _, hne => simp [tr_ce, tm_I]
  | 12, _, hne => simp [tr_ce, tm_I]
  | 13, _, hne => simp [tr_ce, tm_I]
  | 14, _, hne => exact absurd rfl hne
  | 15, _, hne => simp [tr_ce, tm_I]
  | 16, _, hne => simp [tr_ce, tm_I]
  | 17, _, hne => simp [tr_ce, tm_I]
  | 18, _, hne => simp [tr_ce, tm_I]
  | n + 19, hj, _ => exact absurd hj (by omega)
theorem tr_s_there {j : Nat} {v : Int32} : (tr_w ad cc u).set 14 (ad 14, .inl (cc 2, 8, .inl (upd (u.2.1 3) j v))) = tr_w ad cc (tm_I u 3 j v) :=
  tm_set (by omega) (by
    simp only [tr_ce]
    congr; funext i; simp [tm_I, upd]) tr_u_there_o
theorem tr_u_looked_o {j : Nat} {v : Int32} : ∀ q, q < 19 → q ≠ 15 → tr_ce ad cc (tm_I u 4 j v) q = tr_ce ad cc u q := by
  intro q hj hne
  match q, hj, hne with
  | 0, _, hne => simp [tr_ce, tm_I]
  | 1, _, hne => simp [tr_ce, tm_I]
  | 2, _, hne => simp [tr_ce, tm_I]
  | 3, _, hne => simp [tr_ce, tm_I]
  | 4, _, hne => simp [tr_ce, tm_I]
  | 5, _, hne => simp [tr_ce, tm_I]
  | 6, _, hne => simp [tr_ce, tm_I]
  | 7, _, hne => simp [tr_ce, tm_I]
  | 8, _, hne => simp [tr_ce, tm_I]
  | 9, _, hne => simp [tr_ce, tm_I]
  | 10, _, hne => simp [tr_ce, tm_I]
  | 11, _, hne => simp [tr_ce, tm_I]
  | 12, _, hne => simp [tr_ce, tm_I]
  | 13, _, hne => simp [tr_ce, tm_I]
  | 14, _, hne => simp [tr_ce, tm_I]
  | 15, _, hne => exact absurd rfl hne
  | 16, _, hne => simp [tr_ce, tm_I]
  | 17, _, hne => simp [tr_ce, tm_I]
  | 18, _, hne => simp [tr_ce, tm_I]
  | n + 19, hj, _ => exact absurd hj (by omega)
theorem tr_s_looked {j : Nat} {v : Int32} : (tr_w ad cc u).set 15 (ad 15, .inl (cc 2, 3, .inl (upd (u.2.1 4) j v))) = tr_w ad cc (tm_I u 4 j v) :=
  tm_set (by omega) (by
    simp only [tr_ce]
    congr; funext i; simp [tm_I, upd]) tr_u_looked_o
theorem tr_u_defined_o {j : Nat} {v : Int32} : ∀ q, q < 19 → q ≠ 16 → tr_ce ad cc (tm_I u 6 j v) q = tr_ce ad cc u q := by
  intro q hj hne
  match q, hj, hne with
  | 0, _, hne => simp [tr_ce, tm_I]
  | 1, _, hne => simp [tr_ce, tm_I]
  | 2, _, hne => simp [tr_ce, tm_I]
  | 3, _, hne => simp [tr_ce, tm_I]
  | 4, _, hne => simp [tr_ce, tm_I]
  | 5, _, hne => simp [tr_ce, tm_I]
  | 6, _, hne => simp [tr_ce, tm_I]
  | 7, _, hne => simp [tr_ce, tm_I]
  | 8, _, hne => simp [tr_ce, tm_I]
  | 9, _, hne => simp [tr_ce, tm_I]
  | 10, _, hne => simp [tr_ce, tm_I]
  | 11, _, hne => simp [tr_ce, tm_I]
  | 12, _, hne => simp [tr_ce, tm_I]
  | 13, _, hne => simp [tr_ce, tm_I]
  | 14, _, hne => simp [tr_ce, tm_I]
  | 15, _, hne => simp [tr_ce, tm_I]
  | 16, _, hne => exact absurd rfl hne
  | 17, _, hne => simp [tr_ce, tm_I]
  | 18, _, hne => simp [tr_ce, tm_I]
  | n + 19, hj, _ => exact absurd hj (by omega)
theorem tr_s_defined {j : Nat} {v : Int32} : (tr_w ad cc u).set 16 (ad 16, .inl (cc 2, 4, .inl (upd (u.2.1 6) j v))) = tr_w ad cc (tm_I u 6 j v) :=
  tm_set (by omega) (by
    simp only [tr_ce]
    congr; funext i; simp [tm_I, upd]) tr_u_defined_o
theorem tr_u_counting_o {j : Nat} {v : Int32} : ∀ q, q < 19 → q ≠ 17 → tr_ce ad cc (tm_I u 7 j v) q = tr_ce ad cc u q := by
  intro q hj hne
  match q, hj, hne with
  | 0, _, hne => simp [tr_ce, tm_I]
  | 1, _, hne => simp [tr_ce, tm_I]
  | 2, _, hne => simp [tr_ce, tm_I]
  | 3, _, hne => simp [tr_ce, tm_I]
  | 4, _, hne => simp [tr_ce, tm_I]
  | 5, _, hne => simp [tr_ce, tm_I]
  | 6, _, hne => simp [tr_ce, tm_I]
  | 7, _, hne => simp [tr_ce, tm_I]
  | 8, _, hne => simp [tr_ce, tm_I]
  | 9, _, hne => simp [tr_ce, tm_I]
  | 10, _, hne => simp [tr_ce, tm_I]
  | 11, _, hne => simp [tr_ce, tm_I]
  | 12, _, hne => simp [tr_ce, tm_I]
  | 13, _, hne => simp [tr_ce, tm_I]
  | 14, _, hne => simp [tr_ce, tm_I]
  | 15, _, hne => simp [tr_ce, tm_I]
  | 16, _, hne => simp [tr_ce, tm_I]
  | 17, _, hne => exact absurd rfl hne
  | 18, _, hne => simp [tr_ce, tm_I]
  | n + 19, hj, _ => exact absurd hj (by omega)
theorem tr_s_counting {j : Nat} {v : Int32} : (tr_w ad cc u).set 17 (ad 17, .inl (cc 2, 4, .inl (upd (u.2.1 7) j v))) = tr_w ad cc (tm_I u 7 j v) :=
  tm_set (by omega) (by
    simp only [tr_ce]
    congr; funext i; simp [tm_I, upd]) tr_u_counting_o
theorem tr_u_filled_o {j : Nat} {v : Int32} : ∀ q, q < 19 → q ≠ 18 → tr_ce ad cc (tm_I u 8 j v) q = tr_ce ad cc u q := by
  intro q hj hne
  match q, hj, hne with
  | 0, _, hne => simp [tr_ce, tm_I]
  | 1, _, hne => simp [tr_ce, tm_I]
  | 2, _, hne => simp [tr_ce, tm_I]
  | 3, _, hne => simp [tr_ce, tm_I]
  | 4, _, hne => simp [tr_ce, tm_I]
  | 5, _, hne => simp [tr_ce, tm_I]
  | 6, _, hne => simp [tr_ce, tm_I]
  | 7, _, hne => simp [tr_ce, tm_I]
  | 8, _, hne => simp [tr_ce, tm_I]
  | 9, _, hne => simp [tr_ce, tm_I]
  | 10, _, hne => simp [tr_ce, tm_I]
  | 11, _, hne => simp [tr_ce, tm_I]
  | 12, _, hne => simp [tr_ce, tm_I]
  | 13, _, hne => simp [tr_ce, tm_I]
  | 14, _, hne => simp [tr_ce, tm_I]
  | 15, _, hne => simp [tr_ce, tm_I]
  | 16, _, hne => simp [tr_ce, tm_I]
  | 17, _, hne => simp [tr_ce, tm_I]
  | 18, _, hne => exact absurd rfl hne
  | n + 19, hj, _ => exact absurd hj (by omega)
theorem tr_s_filled {j : Nat} {v : Int32} : (tr_w ad cc u).set 18 (ad 18, .inl (cc 2, 4, .inl (upd (u.2.1 8) j v))) = tr_w ad cc (tm_I u 8 j v) :=
  tm_set (by omega) (by
    simp only [tr_ce]
    congr; funext i; simp [tm_I, upd]) tr_u_filled_o
end TRA
end
section
section TRR
variable {p : Program} {l : Launch} {e : Env} {R : Room} {s : State} {m : MethodId} {args : Array Value} {below : List Frame} {meth : Method} {c : Code} {H : Heap} {locs : List Loc} {cells slots : Nat} {Q : State → Prop}
variable {cb : ByteArray} {pc : Nat} {ls : Array Slot} {rest : List Value} {dC : Nat → ClassId} {dI : Nat → Nat → Nat} {A : Nat → Prop} {ad : Nat → Nat} {cc : Nat → ClassId} {u : tm_S} {own : String} {index : Nat} {Ts : List Cond}
theorem tr_g_seed (hx : p.tables.exec = Jvm.exec) (hb : c.code = cb) (hts : ∀ w ∈ Ts, w.before args s = true) (hin : ∀ w ∈ wsX50, w ∈ Ts) (hown : s.vm.findClass own = some m.cls) (hK : va_K (dC, dI) vwCl (tr_ty cc) s) (hP : va_P (dC, dI) vwCl (tr_w ad cc u) H) (hlink : (Cond.fieldLink own index "TrustModuleModel" "seed" "[J").before args s = true) (hdg : decode cb pc = .ok (.getfield index, 3))
    (kk : W p l e R s m args below meth c H locs cells slots Q (F0 m (pc + 3) ls (.ref (ad 1) :: rest))) : W p l e R s m args below meth c H locs cells slots Q (F0 m pc ls (.ref (ad 0) :: rest)) :=
  va_get (D := (dC, dI)) (ci := 5) (C := RX5) (T := TX5) (N := 28) hx hb hts hin hown hK hP 0 (tm_at (i := 0) (by omega) rfl) rfl 0 (by decide) hlink (fun _ h9 => h9) rfl hdg kk
theorem tr_g_pcr (hx : p.tables.exec = Jvm.exec) (hb : c.code = cb) (hts : ∀ w ∈ Ts, w.before args s = true) (hin : ∀ w ∈ wsX50, w ∈ Ts) (hown : s.vm.findClass own = some m.cls) (hK : va_K (dC, dI) vwCl (tr_ty cc) s) (hP : va_P (dC, dI) vwCl (tr_w ad cc u) H) (hlink : (Cond.fieldLink own index "TrustModuleModel" "pcr" "[J").before args s = true) (hdg : decode cb pc = .ok (.getfield index, 3))
    (kk : W p l e R s m args below meth c H locs cells slots Q (F0 m (pc + 3) ls (.ref (ad 2) :: rest))) : W p l e R s m args below meth c H locs cells slots Q (F0 m pc ls (.ref (ad 0) :: rest)) :=
  va_get (D := (dC, dI)) (ci := 5) (C := RX5) (T := TX5) (N := 28) hx hb hts hin hown hK hP 0 (tm_at (i := 0) (by omega) rfl) rfl 1 (by decide) hlink (fun _ h9 => h9) rfl hdg kk
theorem tr_g_digest (hx : p.tables.exec = Jvm.exec) (hb : c.code = cb) (hts : ∀ w ∈ Ts, w.before args s = true) (hin : ∀ w ∈ wsX50, w ∈ Ts) (hown : s.vm.findClass own = some m.cls) (hK : va_K (dC, dI) vwCl (tr_ty cc) s) (hP : va_P (dC, dI) vwCl (tr_w ad cc u) H) (hlink : (Cond.fieldLink own index "TrustModuleModel" "digest" "[J").before args s = true) (hdg : decode cb pc = .ok (.getfield index, 3))
    (kk : W p l e R s m args below meth c H locs cells slots Q (F0 m (pc + 3) ls (.ref (ad 3) :: rest))) : W p l e R s m args below meth c H locs cells slots Q (F0 m pc ls (.ref (ad 0) :: rest)) :=
  va_get (D := (dC, dI)) (ci := 5) (C := RX5) (T := TX5) (N := 28) hx hb hts hin hown hK hP 0 (tm_at (i := 0) (by omega) rfl) rfl 2 (by decide) hlink (fun _ h9 => h9) rfl hdg kk
theorem tr_g_blob (hx : p.tables.exec = Jvm.exec) (hb : c.code = cb) (hts : ∀ w ∈ Ts, w.before args s = true) (hin : ∀ w ∈ wsX50, w ∈ Ts) (hown : s.vm.findClass own = some m.cls) (hK : va_K (dC, dI) vwCl (tr_ty cc) s) (hP : va_P (dC, dI) vwCl (tr_w ad cc u) H) (hlink : (Cond.fieldLink own index "TrustModuleModel" "blob" "[J").before args s = true) (hdg : decode cb pc = .ok (.getfield index, 3))
    (kk : W p l e R s m args below meth c H locs cells slots Q (F0 m (pc + 3) ls (.ref (ad 4) :: rest))) : W p l e R s m args below meth c H locs cells slots Q (F0 m pc ls (.ref (ad 0) :: rest)) :=
  va_get (D := (dC, dI)) (ci := 5) (C := RX5) (T := TX5) (N := 28) hx hb hts hin hown hK hP 0 (tm_at (i := 0) (by omega) rfl) rfl 3 (by decide) hlink (fun _ h9 => h9) rfl hdg kk
theorem tr_g_cell (hx : p.tables.exec = Jvm.exec) (hb : c.code = cb) (hts : ∀ w ∈ Ts, w.before args s = true) (hin : ∀ w ∈ wsX50, w ∈ Ts) (hown : s.vm.findClass own = some m.cls) (hK : va_K (dC, dI) vwCl (tr_ty cc) s) (hP : va_P (dC, dI) vwCl (tr_w ad cc u) H) (hlink : (Cond.fieldLink own index "TrustModuleModel" "cell" "[J").before args s = true) (hdg : decode cb pc = .ok (.getfield index, 3))
    (kk : W p l e R s m args below meth c H locs cells slots Q (F0 m (pc + 3) ls (.ref (ad 5) :: rest))) : W p l e R s m args below meth c H locs cells slots Q (F0 m pc ls (.ref (ad 0) :: rest)) :=
  va_get (D := (dC, dI)) (ci := 5) (C := RX5) (T := TX5) (N := 28) hx hb hts hin hown hK hP 0 (tm_at (i := 0) (by omega) rfl) rfl 4 (by decide) hlink (fun _ h9 => h9) rfl hdg kk
theorem tr_g_cellPolicy (hx : p.tables.exec = Jvm.exec) (hb : c.code = cb) (hts : ∀ w ∈ Ts, w.before args s = true) (hin : ∀ w ∈ wsX50, w ∈ Ts) (hown : s.vm.findClass own = some m.cls) (hK : va_K (dC, dI) vwCl (tr_ty cc) s) (hP : va_P (dC, dI) vwCl (tr_w ad cc u) H) (hlink : (Cond.fieldLink own index "TrustModuleModel" "cellPolicy" "[J").before args s = true) (hdg : decode cb pc = .ok (.getfield index, 3))
    (kk : W p l e R s m args below meth c H locs cells slots Q (F0 m (pc + 3) ls (.ref (ad 6) :: rest))) : W p l e R s m args below meth c H locs cells slots Q (F0 m pc ls (.ref (ad 0) :: rest)) :=
  va_get (D := (dC, dI)) (ci := 5) (C := RX5) (T := TX5) (N := 28) hx hb hts hin hown hK hP 0 (tm_at (i := 0) (by omega) rfl) rfl 5 (by decide) hlink (fun _ h9 => h9) rfl hdg kk
theorem tr_g_keyValue (hx : p.tables.exec = Jvm.exec) (hb : c.code = cb) (hts : ∀ w ∈ Ts, w.before args s = true) (hin : ∀ w ∈ wsX50, w ∈ Ts) (hown : s.vm.findClass own = some m.cls) (hK : va_K (dC, dI) vwCl (tr_ty cc) s) (hP : va_P (dC, dI) vwCl (tr_w ad cc u) H) (hlink : (Cond.fieldLink own index "TrustModuleModel" "keyValue" "[J").before args s = true) (hdg : decode cb pc = .ok (.getfield index, 3))
    (kk : W p l e R s m args below meth c H locs cells slots Q (F0 m (pc + 3) ls (.ref (ad 7) :: rest))) : W p l e R s m args below meth c H locs cells slots Q (F0 m pc ls (.ref (ad 0) :: rest)) :=
  va_get (D := (dC, dI)) (ci := 5) (C := RX5) (T := TX5) (N := 28) hx hb hts hin hown hK hP 0 (tm_at (i := 0) (by omega) rfl) rfl 6 (by decide) hlink (fun _ h9 => h9) rfl hdg kk
theorem tr_g_policy (hx : p.tables.exec = Jvm.exec) (hb : c.code = cb) (hts : ∀ w ∈ Ts, w.before args s = true) (hin : ∀ w ∈ wsX50, w ∈ Ts) (hown : s.vm.findClass own = some m.cls) (hK : va_K (dC, dI) vwCl (tr_ty cc) s) (hP : va_P (dC, dI) vwCl (tr_w ad cc u) H) (hlink : (Cond.fieldLink own index "TrustModuleModel" "policy" "[J").before args s = true) (hdg : decode cb pc = .ok (.getfield index, 3))
    (kk : W p l e R s m args below meth c H locs cells slots Q (F0 m (pc + 3) ls (.ref (ad 8) :: rest))) : W p l e R s m args below meth c H locs cells slots Q (F0 m pc ls (.ref (ad 0) :: rest)) :=
  va_get (D := (dC, dI)) (ci := 5) (C := RX5) (T := TX5) (N := 28) hx hb hts hin hown hK hP 0 (tm_at (i := 0) (by omega) rfl) rfl 7 (by decide) hlink (fun _ h9 => h9) rfl hdg kk
theorem tr_g_secret (hx : p.tables.exec = Jvm.exec) (hb : c.code = cb) (hts : ∀ w ∈ Ts, w.before args s = true) (hin : ∀ w ∈ wsX50, w ∈ Ts) (hown : s.vm.findClass own = some m.cls) (hK : va_K (dC, dI) vwCl (tr_ty cc) s) (hP : va_P (dC, dI) vwCl (tr_w ad cc u) H) (hlink : (Cond.fieldLink own index "TrustModuleModel" "secret" "[J").before args s = true) (hdg : decode cb pc = .ok (.getfield index, 3))
    (kk : W p l e R s m args below meth c H locs cells slots Q (F0 m (pc + 3) ls (.ref (ad 9) :: rest))) : W p l e R s m args below meth c H locs cells slots Q (F0 m pc ls (.ref (ad 0) :: rest)) :=
  va_get (D := (dC, dI)) (ci := 5) (C := RX5) (T := TX5) (N := 28) hx hb hts hin hown hK hP 0 (tm_at (i := 0) (by omega) rfl) rfl 8 (by decide) hlink (fun _ h9 => h9) rfl hdg kk
theorem tr_g_word (hx : p.tables.exec = Jvm.exec) (hb : c.code = cb) (hts : ∀ w ∈ Ts, w.before args s = true) (hin : ∀ w ∈ wsX50, w ∈ Ts) (hown : s.vm.findClass own = some m.cls) (hK : va_K (dC, dI) vwCl (tr_ty cc) s) (hP : va_P (dC, dI) vwCl (tr_w ad cc u) H) (hlink : (Cond.fieldLink own index "TrustModuleModel" "word" "[I").before args s = true) (hdg : decode cb pc = .ok (.getfield index, 3))
    (kk : W p l e R s m args below meth c H locs cells slots Q (F0 m (pc + 3) ls (.ref (ad 10) :: rest))) : W p l e R s m args below meth c H locs cells slots Q (F0 m pc ls (.ref (ad 0) :: rest)) :=
  va_get (D := (dC, dI)) (ci := 5) (C := RX5) (T := TX5) (N := 28) hx hb hts hin hown hK hP 0 (tm_at (i := 0) (by omega) rfl) rfl 9 (by decide) hlink (fun _ h9 => h9) rfl hdg kk
theorem tr_g_seen (hx : p.tables.exec = Jvm.exec) (hb : c.code = cb) (hts : ∀ w ∈ Ts, w.before args s = true) (hin : ∀ w ∈ wsX50, w ∈ Ts) (hown : s.vm.findClass own = some m.cls) (hK : va_K (dC, dI) vwCl (tr_ty cc) s) (hP : va_P (dC, dI) vwCl (tr_w ad cc u) H) (hlink : (Cond.fieldLink own index "TrustModuleModel" "seen" "[I").before args s = true) (hdg : decode cb pc = .ok (.getfield index, 3))
    (kk : W p l e R s m args below meth c H locs cells slots Q (F0 m (pc + 3) ls (.ref (ad 11) :: rest))) : W p l e R s m args below meth c H locs cells slots Q (F0 m pc ls (.ref (ad 0) :: rest)) :=
  va_get (D := (dC, dI)) (ci := 5) (C := RX5) (T := TX5) (N := 28) hx hb hts hin hown hK hP 0 (tm_at (i := 0) (by omega) rfl) rfl 10 (by decide) hlink (fun _ h9 => h9) rfl hdg kk
theorem tr_g_used (hx : p.tables.exec = Jvm.exec) (hb : c.code = cb) (hts : ∀ w ∈ Ts, w.before args s = true) (hin : ∀ w ∈ wsX50, w ∈ Ts) (hown : s.vm.findClass own = some m.cls) (hK : va_K (dC, dI) vwCl (tr_ty cc) s) (hP : va_P (dC, dI) vwCl (tr_w ad cc u) H) (hlink : (Cond.fieldLink own index "TrustModuleModel" "used" "[Z").before args s = true) (hdg : decode cb pc = .ok (.getfield index, 3))
    (kk : W p l e R s m args below meth c H locs cells slots Q (F0 m (pc + 3) ls (.ref (ad 12) :: rest))) : W p l e R s m args below meth c H locs cells slots Q (F0 m pc ls (.ref (ad 0) :: rest)) :=
  va_get (D := (dC, dI)) (ci := 5) (C := RX5) (T := TX5) (N := 28) hx hb hts hin hown hK hP 0 (tm_at (i := 0) (by omega) rfl) rfl 11 (by decide) hlink (fun _ h9 => h9) rfl hdg kk
theorem tr_g_isParent (hx : p.tables.exec = Jvm.exec) (hb : c.code = cb) (hts : ∀ w ∈ Ts, w.before args s = true) (hin : ∀ w ∈ wsX50, w ∈ Ts) (hown : s.vm.findClass own = some m.cls) (hK : va_K (dC, dI) vwCl (tr_ty cc) s) (hP : va_P (dC, dI) vwCl (tr_w ad cc u) H) (hlink : (Cond.fieldLink own index "TrustModuleModel" "isParent" "[Z").before args s = true) (hdg : decode cb pc = .ok (.getfield index, 3))
    (kk : W p l e R s m args below meth c H locs cells slots Q (F0 m (pc + 3) ls (.ref (ad 13) :: rest))) : W p l e R s m args below meth c H locs cells slots Q (F0 m pc ls (.ref (ad 0) :: rest)) :=
  va_get (D := (dC, dI)) (ci := 5) (C := RX5) (T := TX5) (N := 28) hx hb hts hin hown hK hP 0 (tm_at (i := 0) (by omega) rfl) rfl 12 (by decide) hlink (fun _ h9 => h9) rfl hdg kk
theorem tr_g_there (hx : p.tables.exec = Jvm.exec) (hb : c.code = cb) (hts : ∀ w ∈ Ts, w.before args s = true) (hin : ∀ w ∈ wsX50, w ∈ Ts) (hown : s.vm.findClass own = some m.cls) (hK : va_K (dC, dI) vwCl (tr_ty cc) s) (hP : va_P (dC, dI) vwCl (tr_w ad cc u) H) (hlink : (Cond.fieldLink own index "TrustModuleModel" "there" "[Z").before args s = true) (hdg : decode cb pc = .ok (.getfield index, 3))
    (kk : W p l e R s m args below meth c H locs cells slots Q (F0 m (pc + 3) ls (.ref (ad 14) :: rest))) : W p l e R s m args below meth c H locs cells slots Q (F0 m pc ls (.ref (ad 0) :: rest)) :=
  va_get (D := (dC, dI)) (ci := 5) (C := RX5) (T := TX5) (N := 28) hx hb hts hin hown hK hP 0 (tm_at (i := 0) (by omega) rfl) rfl 13 (by decide) hlink (fun _ h9 => h9) rfl hdg kk
theorem tr_g_looked (hx : p.tables.exec = Jvm.exec) (hb : c.code = cb) (hts : ∀ w ∈ Ts, w.before args s = true) (hin : ∀ w ∈ wsX50, w ∈ Ts) (hown : s.vm.findClass own = some m.cls) (hK : va_K (dC, dI) vwCl (tr_ty cc) s) (hP : va_P (dC, dI) vwCl (tr_w ad cc u) H) (hlink : (Cond.fieldLink own index "TrustModuleModel" "looked" "[Z").before args s = true) (hdg : decode cb pc = .ok (.getfield index, 3))
    (kk : W p l e R s m args below meth c H locs cells slots Q (F0 m (pc + 3) ls (.ref (ad 15) :: rest))) : W p l e R s m args below meth c H locs cells slots Q (F0 m pc ls (.ref (ad 0) :: rest)) :=
  va_get (D := (dC, dI)) (ci := 5) (C := RX5) (T := TX5) (N := 28) hx hb hts hin hown hK hP 0 (tm_at (i := 0) (by omega) rfl) rfl 14 (by decide) hlink (fun _ h9 => h9) rfl hdg kk
theorem tr_g_defined (hx : p.tables.exec = Jvm.exec) (hb : c.code = cb) (hts : ∀ w ∈ Ts, w.before args s = true) (hin : ∀ w ∈ wsX50, w ∈ Ts) (hown : s.vm.findClass own = some m.cls) (hK : va_K (dC, dI) vwCl (tr_ty cc) s) (hP : va_P (dC, dI) vwCl (tr_w ad cc u) H) (hlink : (Cond.fieldLink own index "TrustModuleModel" "defined" "[Z").before args s = true) (hdg : decode cb pc = .ok (.getfield index, 3))
    (kk : W p l e R s m args below meth c H locs cells slots Q (F0 m (pc + 3) ls (.ref (ad 16) :: rest))) : W p l e R s m args below meth c H locs cells slots Q (F0 m pc ls (.ref (ad 0) :: rest)) :=
  va_get (D := (dC, dI)) (ci := 5) (C := RX5) (T := TX5) (N := 28) hx hb hts hin hown hK hP 0 (tm_at (i := 0) (by omega) rfl) rfl 15 (by decide) hlink (fun _ h9 => h9) rfl hdg kk
theorem tr_g_counting (hx : p.tables.exec = Jvm.exec) (hb : c.code = cb) (hts : ∀ w ∈ Ts, w.before args s = true) (hin : ∀ w ∈ wsX50, w ∈ Ts) (hown : s.vm.findClass own = some m.cls) (hK : va_K (dC, dI) vwCl (tr_ty cc) s) (hP : va_P (dC, dI) vwCl (tr_w ad cc u) H) (hlink : (Cond.fieldLink own index "TrustModuleModel" "counting" "[Z").before args s = true) (hdg : decode cb pc = .ok (.getfield index, 3))
    (kk : W p l e R s m args below meth c H locs cells slots Q (F0 m (pc + 3) ls (.ref (ad 17) :: rest))) : W p l e R s m args below meth c H locs cells slots Q (F0 m pc ls (.ref (ad 0) :: rest)) :=
  va_get (D := (dC, dI)) (ci := 5) (C := RX5) (T := TX5) (N := 28) hx hb hts hin hown hK hP 0 (tm_at (i := 0) (by omega) rfl) rfl 16 (by decide) hlink (fun _ h9 => h9) rfl hdg kk
theorem tr_g_filled (hx : p.tables.exec = Jvm.exec) (hb : c.code = cb) (hts : ∀ w ∈ Ts, w.before args s = true) (hin : ∀ w ∈ wsX50, w ∈ Ts) (hown : s.vm.findClass own = some m.cls) (hK : va_K (dC, dI) vwCl (tr_ty cc) s) (hP : va_P (dC, dI) vwCl (tr_w ad cc u) H) (hlink : (Cond.fieldLink own index "TrustModuleModel" "filled" "[Z").before args s = true) (hdg : decode cb pc = .ok (.getfield index, 3))
    (kk : W p l e R s m args below meth c H locs cells slots Q (F0 m (pc + 3) ls (.ref (ad 18) :: rest))) : W p l e R s m args below meth c H locs cells slots Q (F0 m pc ls (.ref (ad 0) :: rest)) :=
  va_get (D := (dC, dI)) (ci := 5) (C := RX5) (T := TX5) (N := 28) hx hb hts hin hown hK hP 0 (tm_at (i := 0) (by omega) rfl) rfl 17 (by decide) hlink (fun _ h9 => h9) rfl hdg kk
theorem tr_g_pcrCount (hx : p.tables.exec = Jvm.exec) (hb : c.code = cb) (hts : ∀ w ∈ Ts, w.before args s = true) (hin : ∀ w ∈ wsX50, w ∈ Ts) (hown : s.vm.findClass own = some m.cls) (hK : va_K (dC, dI) vwCl (tr_ty cc) s) (hP : va_P (dC, dI) vwCl (tr_w ad cc u) H) (hlink : (Cond.fieldLink own index "TrustModuleModel" "pcrCount" "I").before args s = true) (hdg : decode cb pc = .ok (.getfield index, 3))
    (kk : W p l e R s m args below meth c H locs cells slots Q (F0 m (pc + 3) ls (.int (u.2.1 9 0) :: rest))) : W p l e R s m args below meth c H locs cells slots Q (F0 m pc ls (.ref (ad 0) :: rest)) :=
  va_get (D := (dC, dI)) (ci := 5) (C := RX5) (T := TX5) (N := 28) hx hb hts hin hown hK hP 0 (tm_at (i := 0) (by omega) rfl) rfl 18 (by decide) hlink (fun _ h9 => h9) rfl hdg kk
theorem tr_p_pcrCount {v : Int32} (hx : p.tables.exec = Jvm.exec) (hb : c.code = cb) (hts : ∀ w ∈ Ts, w.before args s = true) (hin : ∀ w ∈ wsX50, w ∈ Ts) (hown : s.vm.findClass own = some m.cls) (hK : va_K (dC, dI) vwCl (tr_ty cc) s) (hP : va_P (dC, dI) vwCl (tr_w ad cc u) H) (hD : va_D A (tr_w ad cc u)) (hS : va_S A s.heap H locs) (hlink : (Cond.fieldLink own index "TrustModuleModel" "pcrCount" "I").before args s = true) (hdg : decode cb pc = .ok (.putfield index, 3))
    (kk : ∀ (H1 : Heap) (locs1 : List Loc), va_P (dC, dI) vwCl (tr_w ad cc (tm_I u 9 0 v)) H1 → va_D A (tr_w ad cc (tm_I u 9 0 v)) → va_S A s.heap H1 locs1 → W p l e R s m args below meth c H1 locs1 cells slots Q (F0 m (pc + 3) ls rest)) : W p l e R s m args below meth c H locs cells slots Q (F0 m pc ls (.int v :: .ref (ad 0) :: rest)) := by
  refine va_put (D := (dC, dI)) (ci := 5) (ty := .int) (C := RX5) (T := TX5) (N := 28) hx hb hts hin tyX5 tyX5_ok nmX5 hown hK hP hD hS 0 (tm_at (i := 0) (by omega) rfl) rfl 18 (by decide) hlink (fun _ h9 => h9) rfl (by decide +kernel) rfl rfl (Nat.le_of_ble_eq_true rfl) hdg (fun H1 locs1 h1 h2 h3 => ?_)
  have e1 := tr_s_pcrCount (ad := ad) (cc := cc) (u := u) (v := v)
  exact kk H1 locs1 (e1 ▸ h1) (e1 ▸ h2) h3
theorem tr_g_guesses (hx : p.tables.exec = Jvm.exec) (hb : c.code = cb) (hts : ∀ w ∈ Ts, w.before args s = true) (hin : ∀ w ∈ wsX50, w ∈ Ts) (hown : s.vm.findClass own = some m.cls) (hK : va_K (dC, dI) vwCl (tr_ty cc) s) (hP : va_P (dC, dI) vwCl (tr_w ad cc u) H) (hlink : (Cond.fieldLink own index "TrustModuleModel" "guesses" "I").before args s = true) (hdg : decode cb pc = .ok (.getfield index, 3))
    (kk : W p l e R s m args below meth c H locs cells slots Q (F0 m (pc + 3) ls (.int (u.2.1 13 0) :: rest))) : W p l e R s m args below meth c H locs cells slots Q (F0 m pc ls (.ref (ad 0) :: rest)) :=
  va_get (D := (dC, dI)) (ci := 5) (C := RX5) (T := TX5) (N := 28) hx hb hts hin hown hK hP 0 (tm_at (i := 0) (by omega) rfl) rfl 19 (by decide) hlink (fun _ h9 => h9) rfl hdg kk
theorem tr_p_guesses {v : Int32} (hx : p.tables.exec = Jvm.exec) (hb : c.code = cb) (hts : ∀ w ∈ Ts, w.before args s = true) (hin : ∀ w ∈ wsX50, w ∈ Ts) (hown : s.vm.findClass own = some m.cls) (hK : va_K (dC, dI) vwCl (tr_ty cc) s) (hP : va_P (dC, dI) vwCl (tr_w ad cc u) H) (hD : va_D A (tr_w ad cc u)) (hS : va_S A s.heap H locs) (hlink : (Cond.fieldLink own index "TrustModuleModel" "guesses" "I").before args s = true) (hdg : decode cb pc = .ok (.putfield index, 3))
    (kk : ∀ (H1 : Heap) (locs1 : List Loc), va_P (dC, dI) vwCl (tr_w ad cc (tm_I u 13 0 v)) H1 → va_D A (tr_w ad cc (tm_I u 13 0 v)) → va_S A s.heap H1 locs1 → W p l e R s m args below meth c H1 locs1 cells slots Q (F0 m (pc + 3) ls rest)) : W p l e R s m args below meth c H locs cells slots Q (F0 m pc ls (.int v :: .ref (ad 0) :: rest)) := by
  refine va_put (D := (dC, dI)) (ci := 5) (ty := .int) (C := RX5) (T := TX5) (N := 28) hx hb hts hin tyX5 tyX5_ok nmX5 hown hK hP hD hS 0 (tm_at (i := 0) (by omega) rfl) rfl 19 (by decide) hlink (fun _ h9 => h9) rfl (by decide +kernel) rfl rfl (Nat.le_of_ble_eq_true rfl) hdg (fun H1 locs1 h1 h2 h3 => ?_)
  have e1 := tr_s_guesses (ad := ad) (cc := cc) (u := u) (v := v)
  exact kk H1 locs1 (e1 ▸ h1) (e1 ▸ h2) h3
theorem tr_g_power (hx : p.tables.exec = Jvm.exec) (hb : c.code = cb) (hts : ∀ w ∈ Ts, w.before args s = true) (hin : ∀ w ∈ wsX50, w ∈ Ts) (hown : s.vm.findClass own = some m.cls) (hK : va_K (dC, dI) vwCl (tr_ty cc) s) (hP : va_P (dC, dI) vwCl (tr_w ad cc u) H) (hlink : (Cond.fieldLink own index "TrustModuleModel" "power" "I").before args s = true) (hdg : decode cb pc = .ok (.getfield index, 3))
    (kk : W p l e R s m args below meth c H locs cells slots Q (F0 m (pc + 3) ls (.int (u.2.1 10 0) :: rest))) : W p l e R s m args below meth c H locs cells slots Q (F0 m pc ls (.ref (ad 0) :: rest)) :=
  va_get (D := (dC, dI)) (ci := 5) (C := RX5) (T := TX5) (N := 28) hx hb hts hin hown hK hP 0 (tm_at (i := 0) (by omega) rfl) rfl 20 (by decide) hlink (fun _ h9 => h9) rfl hdg kk
theorem tr_p_power {v : Int32} (hx : p.tables.exec = Jvm.exec) (hb : c.code = cb) (hts : ∀ w ∈ Ts, w.before args s = true) (hin : ∀ w ∈ wsX50, w ∈ Ts) (hown : s.vm.findClass own = some m.cls) (hK : va_K (dC, dI) vwCl (tr_ty cc) s) (hP : va_P (dC, dI) vwCl (tr_w ad cc u) H) (hD : va_D A (tr_w ad cc u)) (hS : va_S A s.heap H locs) (hlink : (Cond.fieldLink own index "TrustModuleModel" "power" "I").before args s = true) (hdg : decode cb pc = .ok (.putfield index, 3))
    (kk : ∀ (H1 : Heap) (locs1 : List Loc), va_P (dC, dI) vwCl (tr_w ad cc (tm_I u 10 0 v)) H1 → va_D A (tr_w ad cc (tm_I u 10 0 v)) → va_S A s.heap H1 locs1 → W p l e R s m args below meth c H1 locs1 cells slots Q (F0 m (pc + 3) ls rest)) : W p l e R s m args below meth c H locs cells slots Q (F0 m pc ls (.int v :: .ref (ad 0) :: rest)) := by
  refine va_put (D := (dC, dI)) (ci := 5) (ty := .int) (C := RX5) (T := TX5) (N := 28) hx hb hts hin tyX5 tyX5_ok nmX5 hown hK hP hD hS 0 (tm_at (i := 0) (by omega) rfl) rfl 20 (by decide) hlink (fun _ h9 => h9) rfl (by decide +kernel) rfl rfl (Nat.le_of_ble_eq_true rfl) hdg (fun H1 locs1 h1 h2 h3 => ?_)
  have e1 := tr_s_power (ad := ad) (cc := cc) (u := u) (v := v)
  exact kk H1 locs1 (e1 ▸ h1) (e1 ▸ h2) h3
theorem tr_g_losses (hx : p.tables.exec = Jvm.exec) (hb : c.code = cb) (hts : ∀ w ∈ Ts, w.before args s = true) (hin : ∀ w ∈ wsX50, w ∈ Ts) (hown : s.vm.findClass own = some m.cls) (hK : va_K (dC, dI) vwCl (tr_ty cc) s) (hP : va_P (dC, dI) vwCl (tr_w ad cc u) H) (hlink : (Cond.fieldLink own index "TrustModuleModel" "losses" "I").before args s = true) (hdg : decode cb pc = .ok (.getfield index, 3))
    (kk : W p l e R s m args below meth c H locs cells slots Q (F0 m (pc + 3) ls (.int (u.2.1 12 0) :: rest))) : W p l e R s m args below meth c H locs cells slots Q (F0 m pc ls (.ref (ad 0) :: rest)) :=
  va_get (D := (dC, dI)) (ci := 5) (C := RX5) (T := TX5) (N := 28) hx hb hts hin hown hK hP 0 (tm_at (i := 0) (by omega) rfl) rfl 21 (by decide) hlink (fun _ h9 => h9) rfl hdg kk
theorem tr_p_losses {v : Int32} (hx : p.tables.exec = Jvm.exec) (hb : c.code = cb) (hts : ∀ w ∈ Ts, w.before args s = true) (hin : ∀ w ∈ wsX50, w ∈ Ts) (hown : s.vm.findClass own = some m.cls) (hK : va_K (dC, dI) vwCl (tr_ty cc) s) (hP : va_P (dC, dI) vwCl (tr_w ad cc u) H) (hD : va_D A (tr_w ad cc u)) (hS : va_S A s.heap H locs) (hlink : (Cond.fieldLink own index "TrustModuleModel" "losses" "I").before args s = true) (hdg : decode cb pc = .ok (.putfield index, 3))
    (kk : ∀ (H1 : Heap) (locs1 : List Loc), va_P (dC, dI) vwCl (tr_w ad cc (tm_I u 12 0 v)) H1 → va_D A (tr_w ad cc (tm_I u 12 0 v)) → va_S A s.heap H1 locs1 → W p l e R s m args below meth c H1 locs1 cells slots Q (F0 m (pc + 3) ls rest)) : W p l e R s m args below meth c H locs cells slots Q (F0 m pc ls (.int v :: .ref (ad 0) :: rest)) := by
  refine va_put (D := (dC, dI)) (ci := 5) (ty := .int) (C := RX5) (T := TX5) (N := 28) hx hb hts hin tyX5 tyX5_ok nmX5 hown hK hP hD hS 0 (tm_at (i := 0) (by omega) rfl) rfl 21 (by decide) hlink (fun _ h9 => h9) rfl (by decide +kernel) rfl rfl (Nat.le_of_ble_eq_true rfl) hdg (fun H1 locs1 h1 h2 h3 => ?_)
  have e1 := tr_s_losses (ad := ad) (cc := cc) (u := u) (v := v)
  exact kk H1 locs1 (e1 ▸ h1) (e1 ▸ h2) h3
theorem tr_g_thrown (hx : p.tables.exec = Jvm.exec) (hb : c.code = cb) (hts : ∀ w ∈ Ts, w.before args s = true) (hin : ∀ w ∈ wsX50, w ∈ Ts) (hown : s.vm.findClass own = some m.cls) (hK : va_K (dC, dI) vwCl (tr_ty cc) s) (hP : va_P (dC, dI) vwCl (tr_w ad cc u) H) (hlink : (Cond.fieldLink own index "TrustModuleModel" "thrown" "I").before args s = true) (hdg : decode cb pc = .ok (.getfield index, 3))
    (kk : W p l e R s m args below meth c H locs cells slots Q (F0 m (pc + 3) ls (.int (u.2.1 14 0) :: rest))) : W p l e R s m args below meth c H locs cells slots Q (F0 m pc ls (.ref (ad 0) :: rest)) :=
  va_get (D := (dC, dI)) (ci := 5) (C := RX5) (T := TX5) (N := 28) hx hb hts hin hown hK hP 0 (tm_at (i := 0) (by omega) rfl) rfl 22 (by decide) hlink (fun _ h9 => h9) rfl hdg kk
theorem tr_p_thrown {v : Int32} (hx : p.tables.exec = Jvm.exec) (hb : c.code = cb) (hts : ∀ w ∈ Ts, w.before args s = true) (hin : ∀ w ∈ wsX50, w ∈ Ts) (hown : s.vm.findClass own = some m.cls) (hK : va_K (dC, dI) vwCl (tr_ty cc) s) (hP : va_P (dC, dI) vwCl (tr_w ad cc u) H) (hD : va_D A (tr_w ad cc u)) (hS : va_S A s.heap H locs) (hlink : (Cond.fieldLink own index "TrustModuleModel" "thrown" "I").before args s = true) (hdg : decode cb pc = .ok (.putfield index, 3))
    (kk : ∀ (H1 : Heap) (locs1 : List Loc), va_P (dC, dI) vwCl (tr_w ad cc (tm_I u 14 0 v)) H1 → va_D A (tr_w ad cc (tm_I u 14 0 v)) → va_S A s.heap H1 locs1 → W p l e R s m args below meth c H1 locs1 cells slots Q (F0 m (pc + 3) ls rest)) : W p l e R s m args below meth c H locs cells slots Q (F0 m pc ls (.int v :: .ref (ad 0) :: rest)) := by
  refine va_put (D := (dC, dI)) (ci := 5) (ty := .int) (C := RX5) (T := TX5) (N := 28) hx hb hts hin tyX5 tyX5_ok nmX5 hown hK hP hD hS 0 (tm_at (i := 0) (by omega) rfl) rfl 22 (by decide) hlink (fun _ h9 => h9) rfl (by decide +kernel) rfl rfl (Nat.le_of_ble_eq_true rfl) hdg (fun H1 locs1 h1 h2 h3 => ?_)
  have e1 := tr_s_thrown (ad := ad) (cc := cc) (u := u) (v := v)
  exact kk H1 locs1 (e1 ▸ h1) (e1 ▸ h2) h3
theorem tr_g_lost (hx : p.tables.exec = Jvm.exec) (hb : c.code = cb) (hts : ∀ w ∈ Ts, w.before args s = true) (hin : ∀ w ∈ wsX50, w ∈ Ts) (hown : s.vm.findClass own = some m.cls) (hK : va_K (dC, dI) vwCl (tr_ty cc) s) (hP : va_P (dC, dI) vwCl (tr_w ad cc u) H) (hlink : (Cond.fieldLink own index "TrustModuleModel" "lost" "Z").before args s = true) (hdg : decode cb pc = .ok (.getfield index, 3))
    (kk : W p l e R s m args below meth c H locs cells slots Q (F0 m (pc + 3) ls (.int (u.2.1 11 0) :: rest))) : W p l e R s m args below meth c H locs cells slots Q (F0 m pc ls (.ref (ad 0) :: rest)) :=
  va_get (D := (dC, dI)) (ci := 5) (C := RX5) (T := TX5) (N := 28) hx hb hts hin hown hK hP 0 (tm_at (i := 0) (by omega) rfl) rfl 23 (by decide) hlink (fun _ h9 => h9) rfl hdg kk
theorem tr_p_lost {v : Int32} (hx : p.tables.exec = Jvm.exec) (hb : c.code = cb) (hts : ∀ w ∈ Ts, w.before args s = true) (hin : ∀ w ∈ wsX50, w ∈ Ts) (hown : s.vm.findClass own = some m.cls) (hK : va_K (dC, dI) vwCl (tr_ty cc) s) (hP : va_P (dC, dI) vwCl (tr_w ad cc u) H) (hD : va_D A (tr_w ad cc u)) (hS : va_S A s.heap H locs) (hn : narrow .boolean (.int v) = .int v) (hfit : fits .boolean (.int v) = true) (hlink : (Cond.fieldLink own index "TrustModuleModel" "lost" "Z").before args s = true) (hdg : decode cb pc = .ok (.putfield index, 3))
    (kk : ∀ (H1 : Heap) (locs1 : List Loc), va_P (dC, dI) vwCl (tr_w ad cc (tm_I u 11 0 v)) H1 → va_D A (tr_w ad cc (tm_I u 11 0 v)) → va_S A s.heap H1 locs1 → W p l e R s m args below meth c H1 locs1 cells slots Q (F0 m (pc + 3) ls rest)) : W p l e R s m args below meth c H locs cells slots Q (F0 m pc ls (.int v :: .ref (ad 0) :: rest)) := by
  refine va_put (D := (dC, dI)) (ci := 5) (ty := .boolean) (C := RX5) (T := TX5) (N := 28) hx hb hts hin tyX5 tyX5_ok nmX5 hown hK hP hD hS 0 (tm_at (i := 0) (by omega) rfl) rfl 23 (by decide) hlink (fun _ h9 => h9) rfl (by decide +kernel) hn hfit (Nat.le_of_ble_eq_true rfl) hdg (fun H1 locs1 h1 h2 h3 => ?_)
  have e1 := tr_s_lost (ad := ad) (cc := cc) (u := u) (v := v)
  exact kk H1 locs1 (e1 ▸ h1) (e1 ▸ h2) h3
theorem tr_g_highest (hx : p.tables.exec = Jvm.exec) (hb : c.code = cb) (hts : ∀ w ∈ Ts, w.before args s = true) (hin : ∀ w ∈ wsX50, w ∈ Ts) (hown : s.vm.findClass own = some m.cls) (hK : va_K (dC, dI) vwCl (tr_ty cc) s) (hP : va_P (dC, dI) vwCl (tr_w ad cc u) H) (hlink : (Cond.fieldLink own index "TrustModuleModel" "highest" "J").before args s = true) (hdg : decode cb pc = .ok (.getfield index, 3))
    (kk : W p l e R s m args below meth c H locs cells slots Q (F0 m (pc + 3) ls (.long (u.1 9 0) :: rest))) : W p l e R s m args below meth c H locs cells slots Q (F0 m pc ls (.ref (ad 0) :: rest)) :=
  va_get (D := (dC, dI)) (ci := 5) (C := RX5) (T := TX5) (N := 28) hx hb hts hin hown hK hP 0 (tm_at (i := 0) (by omega) rfl) rfl 24 (by decide) hlink (fun _ h9 => h9) rfl hdg kk
theorem tr_p_highest {v : Int64} (hx : p.tables.exec = Jvm.exec) (hb : c.code = cb) (hts : ∀ w ∈ Ts, w.before args s = true) (hin : ∀ w ∈ wsX50, w ∈ Ts) (hown : s.vm.findClass own = some m.cls) (hK : va_K (dC, dI) vwCl (tr_ty cc) s) (hP : va_P (dC, dI) vwCl (tr_w ad cc u) H) (hD : va_D A (tr_w ad cc u)) (hS : va_S A s.heap H locs) (hlink : (Cond.fieldLink own index "TrustModuleModel" "highest" "J").before args s = true) (hdg : decode cb pc = .ok (.putfield index, 3))
    (kk : ∀ (H1 : Heap) (locs1 : List Loc), va_P (dC, dI) vwCl (tr_w ad cc (tm_L u 9 0 v)) H1 → va_D A (tr_w ad cc (tm_L u 9 0 v)) → va_S A s.heap H1 locs1 → W p l e R s m args below meth c H1 locs1 cells slots Q (F0 m (pc + 3) ls rest)) : W p l e R s m args below meth c H locs cells slots Q (F0 m pc ls (.long v :: .ref (ad 0) :: rest)) := by
  refine va_put (D := (dC, dI)) (ci := 5) (ty := .long) (C := RX5) (T := TX5) (N := 28) hx hb hts hin tyX5 tyX5_ok nmX5 hown hK hP hD hS 0 (tm_at (i := 0) (by omega) rfl) rfl 24 (by decide) hlink (fun _ h9 => h9) rfl (by decide +kernel) rfl rfl (Nat.le_of_ble_eq_true rfl) hdg (fun H1 locs1 h1 h2 h3 => ?_)
  have e1 := tr_s_highest (ad := ad) (cc := cc) (u := u) (v := v)
  exact kk H1 locs1 (e1 ▸ h1) (e1 ▸ h2) h3
theorem tr_g_clock (hx : p.tables.exec = Jvm.exec) (hb : c.code = cb) (hts : ∀ w ∈ Ts, w.before args s = true) (hin : ∀ w ∈ wsX50, w ∈ Ts) (hown : s.vm.findClass own = some m.cls) (hK : va_K (dC, dI) vwCl (tr_ty cc) s) (hP : va_P (dC, dI) vwCl (tr_w ad cc u) H) (hlink : (Cond.fieldLink own index "TrustModuleModel" "clock" "D").before args s = true) (hdg : decode cb pc = .ok (.getfield index, 3))
    (kk : W p l e R s m args below meth c H locs cells slots Q (F0 m (pc + 3) ls (.double (u.2.2 1) :: rest))) : W p l e R s m args below meth c H locs cells slots Q (F0 m pc ls (.ref (ad 0) :: rest)) :=
  va_get (D := (dC, dI)) (ci := 5) (C := RX5) (T := TX5) (N := 28) hx hb hts hin hown hK hP 0 (tm_at (i := 0) (by omega) rfl) rfl 25 (by decide) hlink (fun _ h9 => h9) rfl hdg kk
theorem tr_p_clock {v : UInt64} (hx : p.tables.exec = Jvm.exec) (hb : c.code = cb) (hts : ∀ w ∈ Ts, w.before args s = true) (hin : ∀ w ∈ wsX50, w ∈ Ts) (hown : s.vm.findClass own = some m.cls) (hK : va_K (dC, dI) vwCl (tr_ty cc) s) (hP : va_P (dC, dI) vwCl (tr_w ad cc u) H) (hD : va_D A (tr_w ad cc u)) (hS : va_S A s.heap H locs) (hlink : (Cond.fieldLink own index "TrustModuleModel" "clock" "D").before args s = true) (hdg : decode cb pc = .ok (.putfield index, 3))
    (kk : ∀ (H1 : Heap) (locs1 : List Loc), va_P (dC, dI) vwCl (tr_w ad cc (tm_D u 1 v)) H1 → va_D A (tr_w ad cc (tm_D u 1 v)) → va_S A s.heap H1 locs1 → W p l e R s m args below meth c H1 locs1 cells slots Q (F0 m (pc + 3) ls rest)) : W p l e R s m args below meth c H locs cells slots Q (F0 m pc ls (.double v :: .ref (ad 0) :: rest)) := by
  refine va_put (D := (dC, dI)) (ci := 5) (ty := .double) (C := RX5) (T := TX5) (N := 28) hx hb hts hin tyX5 tyX5_ok nmX5 hown hK hP hD hS 0 (tm_at (i := 0) (by omega) rfl) rfl 25 (by decide) hlink (fun _ h9 => h9) rfl (by decide +kernel) rfl rfl (Nat.le_of_ble_eq_true rfl) hdg (fun H1 locs1 h1 h2 h3 => ?_)
  have e1 := tr_s_clock (ad := ad) (cc := cc) (u := u) (v := v)
  exact kk H1 locs1 (e1 ▸ h1) (e1 ▸ h2) h3
theorem tr_g_mark (hx : p.tables.exec = Jvm.exec) (hb : c.code = cb) (hts : ∀ w ∈ Ts, w.before args s = true) (hin : ∀ w ∈ wsX50, w ∈ Ts) (hown : s.vm.findClass own = some m.cls) (hK : va_K (dC, dI) vwCl (tr_ty cc) s) (hP : va_P (dC, dI) vwCl (tr_w ad cc u) H) (hlink : (Cond.fieldLink own index "TrustModuleModel" "mark" "D").before args s = true) (hdg : decode cb pc = .ok (.getfield index, 3))
    (kk : W p l e R s m args below meth c H locs cells slots Q (F0 m (pc + 3) ls (.double (u.2.2 0) :: rest))) : W p l e R s m args below meth c H locs cells slots Q (F0 m pc ls (.ref (ad 0) :: rest)) :=
  va_get (D := (dC, dI)) (ci := 5) (C := RX5) (T := TX5) (N := 28) hx hb hts hin hown hK hP 0 (tm_at (i := 0) (by omega) rfl) rfl 26 (by decide) hlink (fun _ h9 => h9) rfl hdg kk
theorem tr_p_mark {v : UInt64} (hx : p.tables.exec = Jvm.exec) (hb : c.code = cb) (hts : ∀ w ∈ Ts, w.before args s = true) (hin : ∀ w ∈ wsX50, w ∈ Ts) (hown : s.vm.findClass own = some m.cls) (hK : va_K (dC, dI) vwCl (tr_ty cc) s) (hP : va_P (dC, dI) vwCl (tr_w ad cc u) H) (hD : va_D A (tr_w ad cc u)) (hS : va_S A s.heap H locs) (hlink : (Cond.fieldLink own index "TrustModuleModel" "mark" "D").before args s = true) (hdg : decode cb pc = .ok (.putfield index, 3))
    (kk : ∀ (H1 : Heap) (locs1 : List Loc), va_P (dC, dI) vwCl (tr_w ad cc (tm_D u 0 v)) H1 → va_D A (tr_w ad cc (tm_D u 0 v)) → va_S A s.heap H1 locs1 → W p l e R s m args below meth c H1 locs1 cells slots Q (F0 m (pc + 3) ls rest)) : W p l e R s m args below meth c H locs cells slots Q (F0 m pc ls (.double v :: .ref (ad 0) :: rest)) := by
  refine va_put (D := (dC, dI)) (ci := 5) (ty := .double) (C := RX5) (T := TX5) (N := 28) hx hb hts hin tyX5 tyX5_ok nmX5 hown hK hP hD hS 0 (tm_at (i := 0) (by omega) rfl) rfl 26 (by decide) hlink (fun _ h9 => h9) rfl (by decide +kernel) rfl rfl (Nat.le_of_ble_eq_true rfl) hdg (fun H1 locs1 h1 h2 h3 => ?_)
  have e1 := tr_s_mark (ad := ad) (cc := cc) (u := u) (v := v)
  exact kk H1 locs1 (e1 ▸ h1) (e1 ▸ h2) h3
theorem tr_g_rate (hx : p.tables.exec = Jvm.exec) (hb : c.code = cb) (hts : ∀ w ∈ Ts, w.before args s = true) (hin : ∀ w ∈ wsX50, w ∈ Ts) (hown : s.vm.findClass own = some m.cls) (hK : va_K (dC, dI) vwCl (tr_ty cc) s) (hP : va_P (dC, dI) vwCl (tr_w ad cc u) H) (hlink : (Cond.fieldLink own index "TrustModuleModel" "rate" "D").before args s = true) (hdg : decode cb pc = .ok (.getfield index, 3))
    (kk : W p l e R s m args below meth c H locs cells slots Q (F0 m (pc + 3) ls (.double (u.2.2 2) :: rest))) : W p l e R s m args below meth c H locs cells slots Q (F0 m pc ls (.ref (ad 0) :: rest)) :=
  va_get (D := (dC, dI)) (ci := 5) (C := RX5) (T := TX5) (N := 28) hx hb hts hin hown hK hP 0 (tm_at (i := 0) (by omega) rfl) rfl 27 (by decide) hlink (fun _ h9 => h9) rfl hdg kk
theorem tr_p_rate {v : UInt64} (hx : p.tables.exec = Jvm.exec) (hb : c.code = cb) (hts : ∀ w ∈ Ts, w.before args s = true) (hin : ∀ w ∈ wsX50, w ∈ Ts) (hown : s.vm.findClass own = some m.cls) (hK : va_K (dC, dI) vwCl (tr_ty cc) s) (hP : va_P (dC, dI) vwCl (tr_w ad cc u) H) (hD : va_D A (tr_w ad cc u)) (hS : va_S A s.heap H locs) (hlink : (Cond.fieldLink own index "TrustModuleModel" "rate" "D").before args s = true) (hdg : decode cb pc = .ok (.putfield index, 3))
    (kk : ∀ (H1 : Heap) (locs1 : List Loc), va_P (dC, dI) vwCl (tr_w ad cc (tm_D u 2 v)) H1 → va_D A (tr_w ad cc (tm_D u 2 v)) → va_S A s.heap H1 locs1 → W p l e R s m args below meth c H1 locs1 cells slots Q (F0 m (pc + 3) ls rest)) : W p l e R s m args below meth c H locs cells slots Q (F0 m pc ls (.double v :: .ref (ad 0) :: rest)) := by
  refine va_put (D := (dC, dI)) (ci := 5) (ty := .double) (C := RX5) (T := TX5) (N := 28) hx hb hts hin tyX5 tyX5_ok nmX5 hown hK hP hD hS 0 (tm_at (i := 0) (by omega) rfl) rfl 27 (by decide) hlink (fun _ h9 => h9) rfl (by decide +kernel) rfl rfl (Nat.le_of_ble_eq_true rfl) hdg (fun H1 locs1 h1 h2 h3 => ?_)
  have e1 := tr_s_rate (ad := ad) (cc := cc) (u := u) (v := v)
  exact kk H1 locs1 (e1 ▸ h1) (e1 ▸ h2) h3
theorem tr_l_seed {j : Nat} (hx : p.tables.exec = Jvm.exec) (hb : c.code = cb) (hK : va_K (dC, dI) vwCl (tr_ty cc) s) (hP : va_P (dC, dI) vwCl (tr_w ad cc u) H) (hj : j < 3) (hdg : decode cb pc = .ok (.laload, 1))
    (kk : W p l e R s m args below meth c H locs cells slots Q (F0 m (pc + 1) ls (.long (u.1 0 j) :: rest))) : W p l e R s m args below meth c H locs cells slots Q (F0 m pc ls (.int (nI j) :: .ref (ad 1) :: rest)) :=
  kq_lald hx hb hK hP 1 0 (tm_at (i := 1) (by omega) rfl) rfl hj (by omega) hdg kk
theorem tr_t_seed {j : Nat} {v : Int64} (hx : p.tables.exec = Jvm.exec) (hb : c.code = cb) (hK : va_K (dC, dI) vwCl (tr_ty cc) s) (hP : va_P (dC, dI) vwCl (tr_w ad cc u) H) (hD : va_D A (tr_w ad cc u)) (hS : va_S A s.heap H locs) (hj : j < 3) (hdg : decode cb pc = .ok (.lastore, 1))
    (kk : ∀ (H1 : Heap) (locs1 : List Loc), va_P (dC, dI) vwCl (tr_w ad cc (tm_L u 0 j v)) H1 → va_D A (tr_w ad cc (tm_L u 0 j v)) → va_S A s.heap H1 locs1 → W p l e R s m args below meth c H1 locs1 cells slots Q (F0 m (pc + 1) ls rest)) : W p l e R s m args below meth c H locs cells slots Q (F0 m pc ls (.long v :: .int (nI j) :: .ref (ad 1) :: rest)) :=
  kq_last hx hb hK hP hD hS 1 0 (tm_at (i := 1) (by omega) rfl) rfl hj (by omega) hdg tr_s_seed kk
theorem tr_l_pcr {j : Nat} (hx : p.tables.exec = Jvm.exec) (hb : c.code = cb) (hK : va_K (dC, dI) vwCl (tr_ty cc) s) (hP : va_P (dC, dI) vwCl (tr_w ad cc u) H) (hj : j < 16) (hdg : decode cb pc = .ok (.laload, 1))
    (kk : W p l e R s m args below meth c H locs cells slots Q (F0 m (pc + 1) ls (.long (u.1 1 j) :: rest))) : W p l e R s m args below meth c H locs cells slots Q (F0 m pc ls (.int (nI j) :: .ref (ad 2) :: rest)) :=
  kq_lald hx hb hK hP 2 0 (tm_at (i := 2) (by omega) rfl) rfl hj (by omega) hdg kk
theorem tr_t_pcr {j : Nat} {v : Int64} (hx : p.tables.exec = Jvm.exec) (hb : c.code = cb) (hK : va_K (dC, dI) vwCl (tr_ty cc) s) (hP : va_P (dC, dI) vwCl (tr_w ad cc u) H) (hD : va_D A (tr_w ad cc u)) (hS : va_S A s.heap H locs) (hj : j < 16) (hdg : decode cb pc = .ok (.lastore, 1))
    (kk : ∀ (H1 : Heap) (locs1 : List Loc), va_P (dC, dI) vwCl (tr_w ad cc (tm_L u 1 j v)) H1 → va_D A (tr_w ad cc (tm_L u 1 j v)) → va_S A s.heap H1 locs1 → W p l e R s m args below meth c H1 locs1 cells slots Q (F0 m (pc + 1) ls rest)) : W p l e R s m args below meth c H locs cells slots Q (F0 m pc ls (.long v :: .int (nI j) :: .ref (ad 2) :: rest)) :=
  kq_last hx hb hK hP hD hS 2 0 (tm_at (i := 2) (by omega) rfl) rfl hj (by omega) hdg tr_s_pcr kk
theorem tr_l_digest {j : Nat} (hx : p.tables.exec = Jvm.exec) (hb : c.code = cb) (hK : va_K (dC, dI) vwCl (tr_ty cc) s) (hP : va_P (dC, dI) vwCl (tr_w ad cc u) H) (hj : j < 3) (hdg : decode cb pc = .ok (.laload, 1))
    (kk : W p l e R s m args below meth c H locs cells slots Q (F0 m (pc + 1) ls (.long (u.1 6 j) :: rest))) : W p l e R s m args below meth c H locs cells slots Q (F0 m pc ls (.int (nI j) :: .ref (ad 3) :: rest)) :=
  kq_lald hx hb hK hP 3 0 (tm_at (i := 3) (by omega) rfl) rfl hj (by omega) hdg kk
theorem tr_t_digest {j : Nat} {v : Int64} (hx : p.tables.exec = Jvm.exec) (hb : c.code = cb) (hK : va_K (dC, dI) vwCl (tr_ty cc) s) (hP : va_P (dC, dI) vwCl (tr_w ad cc u) H) (hD : va_D A (tr_w ad cc u)) (hS : va_S A s.heap H locs) (hj : j < 3) (hdg : decode cb pc = .ok (.lastore, 1))
    (kk : ∀ (H1 : Heap) (locs1 : List Loc), va_P (dC, dI) vwCl (tr_w ad cc (tm_L u 6 j v)) H1 → va_D A (tr_w ad cc (tm_L u 6 j v)) → va_S A s.heap H1 locs1 → W p l e R s m args below meth c H1 locs1 cells slots Q (F0 m (pc + 1) ls rest)) : W p l e R s m args below meth c H locs cells slots Q (F0 m pc ls (.long v :: .int (nI j) :: .ref (ad 3) :: rest)) :=
  kq_last hx hb hK hP hD hS 3 0 (tm_at (i := 3) (by omega) rfl) rfl hj (by omega) hdg tr_s_digest kk
theorem tr_l_blob {j : Nat} (hx : p.tables.exec = Jvm.exec) (hb : c.code = cb) (hK : va_K (dC, dI) vwCl (tr_ty cc) s) (hP : va_P (dC, dI) vwCl (tr_w ad cc u) H) (hj : j < 32) (hdg : decode cb pc = .ok (.laload, 1))
    (kk : W p l e R s m args below meth c H locs cells slots Q (F0 m (pc + 1) ls (.long (u.1 5 j) :: rest))) : W p l e R s m args below meth c H locs cells slots Q (F0 m pc ls (.int (nI j) :: .ref (ad 4) :: rest)) :=
  kq_lald hx hb hK hP 4 0 (tm_at (i := 4) (by omega) rfl) rfl hj (by omega) hdg kk
theorem tr_t_blob {j : Nat} {v : Int64} (hx : p.tables.exec = Jvm.exec) (hb : c.code = cb) (hK : va_K (dC, dI) vwCl (tr_ty cc) s) (hP : va_P (dC, dI) vwCl (tr_w ad cc u) H) (hD : va_D A (tr_w ad cc u)) (hS : va_S A s.heap H locs) (hj : j < 32) (hdg : decode cb pc = .ok (.lastore, 1))
    (kk : ∀ (H1 : Heap) (locs1 : List Loc), va_P (dC, dI) vwCl (tr_w ad cc (tm_L u 5 j v)) H1 → va_D A (tr_w ad cc (tm_L u 5 j v)) → va_S A s.heap H1 locs1 → W p l e R s m args below meth c H1 locs1 cells slots Q (F0 m (pc + 1) ls rest)) : W p l e R s m args below meth c H locs cells slots Q (F0 m pc ls (.long v :: .int (nI j) :: .ref (ad 4) :: rest)) :=
  kq_last hx hb hK hP hD hS 4 0 (tm_at (i := 4) (by omega) rfl) rfl hj (by omega) hdg tr_s_blob kk
theorem tr_l_cell {j : Nat} (hx : p.tables.exec = Jvm.exec) (hb : c.code = cb) (hK : va_K (dC, dI) vwCl (tr_ty cc) s) (hP : va_P (dC, dI) vwCl (tr_w ad cc u) H) (hj : j < 4) (hdg : decode cb pc = .ok (.laload, 1))
    (kk : W p l e R s m args below meth c H locs cells slots Q (F0 m (pc + 1) ls (.long (u.1 8 j) :: rest))) : W p l e R s m args below meth c H locs cells slots Q (F0 m pc ls (.int (nI j) :: .ref (ad 5) :: rest)) :=
  kq_lald hx hb hK hP 5 0 (tm_at (i := 5) (by omega) rfl) rfl hj (by omega) hdg kk
theorem tr_t_cell {j : Nat} {v : Int64} (hx : p.tables.exec = Jvm.exec) (hb : c.code = cb) (hK : va_K (dC, dI) vwCl (tr_ty cc) s) (hP : va_P (dC, dI) vwCl (tr_w ad cc u) H) (hD : va_D A (tr_w ad cc u)) (hS : va_S A s.heap H locs) (hj : j < 4) (hdg : decode cb pc = .ok (.lastore, 1))
    (kk : ∀ (H1 : Heap) (locs1 : List Loc), va_P (dC, dI) vwCl (tr_w ad cc (tm_L u 8 j v)) H1 → va_D A (tr_w ad cc (tm_L u 8 j v)) → va_S A s.heap H1 locs1 → W p l e R s m args below meth c H1 locs1 cells slots Q (F0 m (pc + 1) ls rest)) : W p l e R s m args below meth c H locs cells slots Q (F0 m pc ls (.long v :: .int (nI j) :: .ref (ad 5) :: rest)) :=
  kq_last hx hb hK hP hD hS 5 0 (tm_at (i := 5) (by omega) rfl) rfl hj (by omega) hdg tr_s_cell kk
theorem tr_l_cellPolicy {j : Nat} (hx : p.tables.exec = Jvm.exec) (hb : c.code = cb) (hK : va_K (dC, dI) vwCl (tr_ty cc) s) (hP : va_P (dC, dI) vwCl (tr_w ad cc u) H) (hj : j < 4) (hdg : decode cb pc = .ok (.laload, 1))
    (kk : W p l e R s m args below meth c H locs cells slots Q (F0 m (pc + 1) ls (.long (u.1 7 j) :: rest))) : W p l e R s m args below meth c H locs cells slots Q (F0 m pc ls (.int (nI j) :: .ref (ad 6) :: rest)) :=
  kq_lald hx hb hK hP 6 0 (tm_at (i := 6) (by omega) rfl) rfl hj (by omega) hdg kk
theorem tr_t_cellPolicy {j : Nat} {v : Int64} (hx : p.tables.exec = Jvm.exec) (hb : c.code = cb) (hK : va_K (dC, dI) vwCl (tr_ty cc) s) (hP : va_P (dC, dI) vwCl (tr_w ad cc u) H) (hD : va_D A (tr_w ad cc u)) (hS : va_S A s.heap H locs) (hj : j < 4) (hdg : decode cb pc = .ok (.lastore, 1))
    (kk : ∀ (H1 : Heap) (locs1 : List Loc), va_P (dC, dI) vwCl (tr_w ad cc (tm_L u 7 j v)) H1 → va_D A (tr_w ad cc (tm_L u 7 j v)) → va_S A s.heap H1 locs1 → W p l e R s m args below meth c H1 locs1 cells slots Q (F0 m (pc + 1) ls rest)) : W p l e R s m args below meth c H locs cells slots Q (F0 m pc ls (.long v :: .int (nI j) :: .ref (ad 6) :: rest)) :=
  kq_last hx hb hK hP hD hS 6 0 (tm_at (i := 6) (by omega) rfl) rfl hj (by omega) hdg tr_s_cellPolicy kk
theorem tr_l_keyValue {j : Nat} (hx : p.tables.exec = Jvm.exec) (hb : c.code = cb) (hK : va_K (dC, dI) vwCl (tr_ty cc) s) (hP : va_P (dC, dI) vwCl (tr_w ad cc u) H) (hj : j < 4) (hdg : decode cb pc = .ok (.laload, 1))
    (kk : W p l e R s m args below meth c H locs cells slots Q (F0 m (pc + 1) ls (.long (u.1 2 j) :: rest))) : W p l e R s m args below meth c H locs cells slots Q (F0 m pc ls (.int (nI j) :: .ref (ad 7) :: rest)) :=
  kq_lald hx hb hK hP 7 0 (tm_at (i := 7) (by omega) rfl) rfl hj (by omega) hdg kk
theorem tr_t_keyValue {j : Nat} {v : Int64} (hx : p.tables.exec = Jvm.exec) (hb : c.code = cb) (hK : va_K (dC, dI) vwCl (tr_ty cc) s) (hP : va_P (dC, dI) vwCl (tr_w ad cc u) H) (hD : va_D A (tr_w ad cc u)) (hS : va_S A s.heap H locs) (hj : j < 4) (hdg : decode cb pc = .ok (.lastore, 1))
    (kk : ∀ (H1 : Heap) (locs1 : List Loc), va_P (dC, dI) vwCl (tr_w ad cc (tm_L u 2 j v)) H1 → va_D A (tr_w ad cc (tm_L u 2 j v)) → va_S A s.heap H1 locs1 → W p l e R s m args below meth c H1 locs1 cells slots Q (F0 m (pc + 1) ls rest)) : W p l e R s m args below meth c H locs cells slots Q (F0 m pc ls (.long v :: .int (nI j) :: .ref (ad 7) :: rest)) :=
  kq_last hx hb hK hP hD hS 7 0 (tm_at (i := 7) (by omega) rfl) rfl hj (by omega) hdg tr_s_keyValue kk
theorem tr_l_policy {j : Nat} (hx : p.tables.exec = Jvm.exec) (hb : c.code = cb) (hK : va_K (dC, dI) vwCl (tr_ty cc) s) (hP : va_P (dC, dI) vwCl (tr_w ad cc u) H) (hj : j < 4) (hdg : decode cb pc = .ok (.laload, 1))
    (kk : W p l e R s m args below meth c H locs cells slots Q (F0 m (pc + 1) ls (.long (u.1 3 j) :: rest))) : W p l e R s m args below meth c H locs cells slots Q (F0 m pc ls (.int (nI j) :: .ref (ad 8) :: rest)) :=
  kq_lald hx hb hK hP 8 0 (tm_at (i := 8) (by omega) rfl) rfl hj (by omega) hdg kk
theorem tr_t_policy {j : Nat} {v : Int64} (hx : p.tables.exec = Jvm.exec) (hb : c.code = cb) (hK : va_K (dC, dI) vwCl (tr_ty cc) s) (hP : va_P (dC, dI) vwCl (tr_w ad cc u) H) (hD : va_D A (tr_w ad cc u)) (hS : va_S A s.heap H locs) (hj : j < 4) (hdg : decode cb pc = .ok (.lastore, 1))
    (kk : ∀ (H1 : Heap) (locs1 : List Loc), va_P (dC, dI) vwCl (tr_w ad cc (tm_L u 3 j v)) H1 → va_D A (tr_w ad cc (tm_L u 3 j v)) → va_S A s.heap H1 locs1 → W p l e R s m args below meth c H1 locs1 cells slots Q (F0 m (pc + 1) ls rest)) : W p l e R s m args below meth c H locs cells slots Q (F0 m pc ls (.long v :: .int (nI j) :: .ref (ad 8) :: rest)) :=
  kq_last hx hb hK hP hD hS 8 0 (tm_at (i := 8) (by omega) rfl) rfl hj (by omega) hdg tr_s_policy kk
theorem tr_l_secret {j : Nat} (hx : p.tables.exec = Jvm.exec) (hb : c.code = cb) (hK : va_K (dC, dI) vwCl (tr_ty cc) s) (hP : va_P (dC, dI) vwCl (tr_w ad cc u) H) (hj : j < 4) (hdg : decode cb pc = .ok (.laload, 1))
    (kk : W p l e R s m args below meth c H locs cells slots Q (F0 m (pc + 1) ls (.long (u.1 4 j) :: rest))) : W p l e R s m args below meth c H locs cells slots Q (F0 m pc ls (.int (nI j) :: .ref (ad 9) :: rest)) :=
  kq_lald hx hb hK hP 9 0 (tm_at (i := 9) (by omega) rfl) rfl hj (by omega) hdg kk
theorem tr_t_secret {j : Nat} {v : Int64} (hx : p.tables.exec = Jvm.exec) (hb : c.code = cb) (hK : va_K (dC, dI) vwCl (tr_ty cc) s) (hP : va_P (dC, dI) vwCl (tr_w ad cc u) H) (hD : va_D A (tr_w ad cc u)) (hS : va_S A s.heap H locs) (hj : j < 4) (hdg : decode cb pc = .ok (.lastore, 1))
    (kk : ∀ (H1 : Heap) (locs1 : List Loc), va_P (dC, dI) vwCl (tr_w ad cc (tm_L u 4 j v)) H1 → va_D A (tr_w ad cc (tm_L u 4 j v)) → va_S A s.heap H1 locs1 → W p l e R s m args below meth c H1 locs1 cells slots Q (F0 m (pc + 1) ls rest)) : W p l e R s m args below meth c H locs cells slots Q (F0 m pc ls (.long v :: .int (nI j) :: .ref (ad 9) :: rest)) :=
  kq_last hx hb hK hP hD hS 9 0 (tm_at (i := 9) (by omega) rfl) rfl hj (by omega) hdg tr_s_secret kk
theorem tr_l_word {j : Nat} (hx : p.tables.exec = Jvm.exec) (hb : c.code = cb) (hK : va_K (dC, dI) vwCl (tr_ty cc) s) (hP : va_P (dC, dI) vwCl (tr_w ad cc u) H) (hj : j < 4) (hdg : decode cb pc = .ok (.iaload, 1))
    (kk : W p l e R s m args below meth c H locs cells slots Q (F0 m (pc + 1) ls (.int (u.2.1 1 j) :: rest))) : W p l e R s m args below meth c H locs cells slots Q (F0 m pc ls (.int (nI j) :: .ref (ad 10) :: rest)) :=
  kq_iald hx hb hK hP 10 1 (tm_at (i := 10) (by omega) rfl) rfl hj (by omega) hdg kk
theorem tr_t_word {j : Nat} {v : Int32} (hx : p.tables.exec = Jvm.exec) (hb : c.code = cb) (hK : va_K (dC, dI) vwCl (tr_ty cc) s) (hP : va_P (dC, dI) vwCl (tr_w ad cc u) H) (hD : va_D A (tr_w ad cc u)) (hS : va_S A s.heap H locs) (hj : j < 4) (hdg : decode cb pc = .ok (.iastore, 1))
    (kk : ∀ (H1 : Heap) (locs1 : List Loc), va_P (dC, dI) vwCl (tr_w ad cc (tm_I u 1 j v)) H1 → va_D A (tr_w ad cc (tm_I u 1 j v)) → va_S A s.heap H1 locs1 → W p l e R s m args below meth c H1 locs1 cells slots Q (F0 m (pc + 1) ls rest)) : W p l e R s m args below meth c H locs cells slots Q (F0 m pc ls (.int v :: .int (nI j) :: .ref (ad 10) :: rest)) :=
  kq_iast hx hb hK hP hD hS 10 1 (tm_at (i := 10) (by omega) rfl) rfl hj (by omega) hdg tr_s_word kk
theorem tr_l_seen {j : Nat} (hx : p.tables.exec = Jvm.exec) (hb : c.code = cb) (hK : va_K (dC, dI) vwCl (tr_ty cc) s) (hP : va_P (dC, dI) vwCl (tr_w ad cc u) H) (hj : j < 3) (hdg : decode cb pc = .ok (.iaload, 1))
    (kk : W p l e R s m args below meth c H locs cells slots Q (F0 m (pc + 1) ls (.int (u.2.1 5 j) :: rest))) : W p l e R s m args below meth c H locs cells slots Q (F0 m pc ls (.int (nI j) :: .ref (ad 11) :: rest)) :=
  kq_iald hx hb hK hP 11 1 (tm_at (i := 11) (by omega) rfl) rfl hj (by omega) hdg kk
theorem tr_t_seen {j : Nat} {v : Int32} (hx : p.tables.exec = Jvm.exec) (hb : c.code = cb) (hK : va_K (dC, dI) vwCl (tr_ty cc) s) (hP : va_P (dC, dI) vwCl (tr_w ad cc u) H) (hD : va_D A (tr_w ad cc u)) (hS : va_S A s.heap H locs) (hj : j < 3) (hdg : decode cb pc = .ok (.iastore, 1))
    (kk : ∀ (H1 : Heap) (locs1 : List Loc), va_P (dC, dI) vwCl (tr_w ad cc (tm_I u 5 j v)) H1 → va_D A (tr_w ad cc (tm_I u 5 j v)) → va_S A s.heap H1 locs1 → W p l e R s m args below meth c H1 locs1 cells slots Q (F0 m (pc + 1) ls rest)) : W p l e R s m args below meth c H locs cells slots Q (F0 m pc ls (.int v :: .int (nI j) :: .ref (ad 11) :: rest)) :=
  kq_iast hx hb hK hP hD hS 11 1 (tm_at (i := 11) (by omega) rfl) rfl hj (by omega) hdg tr_s_seen kk
theorem tr_l_used {j : Nat} (hx : p.tables.exec = Jvm.exec) (hb : c.code = cb) (hK : va_K (dC, dI) vwCl (tr_ty cc) s) (hP : va_P (dC, dI) vwCl (tr_w ad cc u) H) (hj : j < 4) (hdg : decode cb pc = .ok (.baload, 1))
    (kk : W p l e R s m args below meth c H locs cells slots Q (F0 m (pc + 1) ls (.int (u.2.1 0 j) :: rest))) : W p l e R s m args below meth c H locs cells slots Q (F0 m pc ls (.int (nI j) :: .ref (ad 12) :: rest)) :=
  kq_zald hx hb hK hP 12 2 (tm_at (i := 12) (by omega) rfl) rfl hj (by omega) hdg kk
theorem tr_t_used {j : Nat} {v : Int32} (hx : p.tables.exec = Jvm.exec) (hb : c.code = cb) (hK : va_K (dC, dI) vwCl (tr_ty cc) s) (hP : va_P (dC, dI) vwCl (tr_w ad cc u) H) (hD : va_D A (tr_w ad cc u)) (hS : va_S A s.heap H locs) (hj : j < 4) (hn : vp_nar .boolean v = v) (hdg : decode cb pc = .ok (.bastore, 1))
    (kk : ∀ (H1 : Heap) (locs1 : List Loc), va_P (dC, dI) vwCl (tr_w ad cc (tm_I u 0 j v)) H1 → va_D A (tr_w ad cc (tm_I u 0 j v)) → va_S A s.heap H1 locs1 → W p l e R s m args below meth c H1 locs1 cells slots Q (F0 m (pc + 1) ls rest)) : W p l e R s m args below meth c H locs cells slots Q (F0 m pc ls (.int v :: .int (nI j) :: .ref (ad 12) :: rest)) :=
  kq_zast hx hb hK hP hD hS 12 2 (tm_at (i := 12) (by omega) rfl) rfl hj (by omega) hn hdg tr_s_used kk
theorem tr_l_isParent {j : Nat} (hx : p.tables.exec = Jvm.exec) (hb : c.code = cb) (hK : va_K (dC, dI) vwCl (tr_ty cc) s) (hP : va_P (dC, dI) vwCl (tr_w ad cc u) H) (hj : j < 4) (hdg : decode cb pc = .ok (.baload, 1))
    (kk : W p l e R s m args below meth c H locs cells slots Q (F0 m (pc + 1) ls (.int (u.2.1 2 j) :: rest))) : W p l e R s m args below meth c H locs cells slots Q (F0 m pc ls (.int (nI j) :: .ref (ad 13) :: rest)) :=
  kq_zald hx hb hK hP 13 2 (tm_at (i := 13) (by omega) rfl) rfl hj (by omega) hdg kk
theorem tr_t_isParent {j : Nat} {v : Int32} (hx : p.tables.exec = Jvm.exec) (hb : c.code = cb) (hK : va_K (dC, dI) vwCl (tr_ty cc) s) (hP : va_P (dC, dI) vwCl (tr_w ad cc u) H) (hD : va_D A (tr_w ad cc u)) (hS : va_S A s.heap H locs) (hj : j < 4) (hn : vp_nar .boolean v = v) (hdg : decode cb pc = .ok (.bastore, 1))
    (kk : ∀ (H1 : Heap) (locs1 : List Loc), va_P (dC, dI) vwCl (tr_w ad cc (tm_I u 2 j v)) H1 → va_D A (tr_w ad cc (tm_I u 2 j v)) → va_S A s.heap H1 locs1 → W p l e R s m args below meth c H1 locs1 cells slots Q (F0 m (pc + 1) ls rest)) : W p l e R s m args below meth c H locs cells slots Q (F0 m pc ls (.int v :: .int (nI j) :: .ref (ad 13) :: rest)) :=
  kq_zast hx hb hK hP hD hS 13 2 (tm_at (i := 13) (by omega) rfl) rfl hj (by omega) hn hdg tr_s_isParent kk
theorem tr_l_there {j : Nat} (hx : p.tables.exec = Jvm.exec) (hb : c.code = cb) (hK : va_K (dC, dI) vwCl (tr_ty cc) s) (hP : va_P (dC, dI) vwCl (tr_w ad cc u) H) (hj : j < 8) (hdg : decode cb pc = .ok (.baload, 1))
    (kk : W p l e R s m args below meth c H locs cells slots Q (F0 m (pc + 1) ls (.int (u.2.1 3 j) :: rest))) : W p l e R s m args below meth c H locs cells slots Q (F0 m pc ls (.int (nI j) :: .ref (ad 14) :: rest)) :=
  kq_zald hx hb hK hP 14 2 (tm_at (i := 14) (by omega) rfl) rfl hj (by omega) hdg kk
theorem tr_t_there {j : Nat} {v : Int32} (hx : p.tables.exec = Jvm.exec) (hb : c.code = cb) (hK : va_K (dC, dI) vwCl (tr_ty cc) s) (hP : va_P (dC, dI) vwCl (tr_w ad cc u) H) (hD : va_D A (tr_w ad cc u)) (hS : va_S A s.heap H locs) (hj : j < 8) (hn : vp_nar .boolean v = v) (hdg : decode cb pc = .ok (.bastore, 1))
    (kk : ∀ (H1 : Heap) (locs1 : List Loc), va_P (dC, dI) vwCl (tr_w ad cc (tm_I u 3 j v)) H1 → va_D A (tr_w ad cc (tm_I u 3 j v)) → va_S A s.heap H1 locs1 → W p l e R s m args below meth c H1 locs1 cells slots Q (F0 m (pc + 1) ls rest)) : W p l e R s m args below meth c H locs cells slots Q (F0 m pc ls (.int v :: .int (nI j) :: .ref (ad 14) :: rest)) :=
  kq_zast hx hb hK hP hD hS 14 2 (tm_at (i := 14) (by omega) rfl) rfl hj (by omega) hn hdg tr_s_there kk
theorem tr_l_looked {j : Nat} (hx : p.tables.exec = Jvm.exec) (hb : c.code = cb) (hK : va_K (dC, dI) vwCl (tr_ty cc) s) (hP : va_P (dC, dI) vwCl (tr_w ad cc u) H) (hj : j < 3) (hdg : decode cb pc = .ok (.baload, 1))
    (kk : W p l e R s m args below meth c H locs cells slots Q (F0 m (pc + 1) ls (.int (u.2.1 4 j) :: rest))) : W p l e R s m args below meth c H locs cells slots Q (F0 m pc ls (.int (nI j) :: .ref (ad 15) :: rest)) :=
  kq_zald hx hb hK hP 15 2 (tm_at (i := 15) (by omega) rfl) rfl hj (by omega) hdg kk
theorem tr_t_looked {j : Nat} {v : Int32} (hx : p.tables.exec = Jvm.exec) (hb : c.code = cb) (hK : va_K (dC, dI) vwCl (tr_ty cc) s) (hP : va_P (dC, dI) vwCl (tr_w ad cc u) H) (hD : va_D A (tr_w ad cc u)) (hS : va_S A s.heap H locs) (hj : j < 3) (hn : vp_nar .boolean v = v) (hdg : decode cb pc = .ok (.bastore, 1))
    (kk : ∀ (H1 : Heap) (locs1 : List Loc), va_P (dC, dI) vwCl (tr_w ad cc (tm_I u 4 j v)) H1 → va_D A (tr_w ad cc (tm_I u 4 j v)) → va_S A s.heap H1 locs1 → W p l e R s m args below meth c H1 locs1 cells slots Q (F0 m (pc + 1) ls rest)) : W p l e R s m args below meth c H locs cells slots Q (F0 m pc ls (.int v :: .int (nI j) :: .ref (ad 15) :: rest)) :=
  kq_zast hx hb hK hP hD hS 15 2 (tm_at (i := 15) (by omega) rfl) rfl hj (by omega) hn hdg tr_s_looked kk
theorem tr_l_defined {j : Nat} (hx : p.tables.exec = Jvm.exec) (hb : c.code = cb) (hK : va_K (dC, dI) vwCl (tr_ty cc) s) (hP : va_P (dC, dI) vwCl (tr_w ad cc u) H) (hj : j < 4) (hdg : decode cb pc = .ok (.baload, 1))
    (kk : W p l e R s m args below meth c H locs cells slots Q (F0 m (pc + 1) ls (.int (u.2.1 6 j) :: rest))) : W p l e R s m args below meth c H locs cells slots Q (F0 m pc ls (.int (nI j) :: .ref (ad 16) :: rest)) :=
  kq_zald hx hb hK hP 16 2 (tm_at (i := 16) (by omega) rfl) rfl hj (by omega) hdg kk
theorem tr_t_defined {j : Nat} {v : Int32} (hx : p.tables.exec = Jvm.exec) (hb : c.code = cb) (hK : va_K (dC, dI) vwCl (tr_ty cc) s) (hP : va_P (dC, dI) vwCl (tr_w ad cc u) H) (hD : va_D A (tr_w ad cc u)) (hS : va_S A s.heap H locs) (hj : j < 4) (hn : vp_nar .boolean v = v) (hdg : decode cb pc = .ok (.bastore, 1))
    (kk : ∀ (H1 : Heap) (locs1 : List Loc), va_P (dC, dI) vwCl (tr_w ad cc (tm_I u 6 j v)) H1 → va_D A (tr_w ad cc (tm_I u 6 j v)) → va_S A s.heap H1 locs1 → W p l e R s m args below meth c H1 locs1 cells slots Q (F0 m (pc + 1) ls rest)) : W p l e R s m args below meth c H locs cells slots Q (F0 m pc ls (.int v :: .int (nI j) :: .ref (ad 16) :: rest)) :=
  kq_zast hx hb hK hP hD hS 16 2 (tm_at (i := 16) (by omega) rfl) rfl hj (by omega) hn hdg tr_s_defined kk
theorem tr_l_counting {j : Nat} (hx : p.tables.exec = Jvm.exec) (hb : c.code = cb) (hK : va_K (dC, dI) vwCl (tr_ty cc) s) (hP : va_P (dC, dI) vwCl (tr_w ad cc u) H) (hj : j < 4) (hdg : decode cb pc = .ok (.baload, 1))
    (kk : W p l e R s m args below meth c H locs cells slots Q (F0 m (pc + 1) ls (.int (u.2.1 7 j) :: rest))) : W p l e R s m args below meth c H locs cells slots Q (F0 m pc ls (.int (nI j) :: .ref (ad 17) :: rest)) :=
  kq_zald hx hb hK hP 17 2 (tm_at (i := 17) (by omega) rfl) rfl hj (by omega) hdg kk
theorem tr_t_counting {j : Nat} {v : Int32} (hx : p.tables.exec = Jvm.exec) (hb : c.code = cb) (hK : va_K (dC, dI) vwCl (tr_ty cc) s) (hP : va_P (dC, dI) vwCl (tr_w ad cc u) H) (hD : va_D A (tr_w ad cc u)) (hS : va_S A s.heap H locs) (hj : j < 4) (hn : vp_nar .boolean v = v) (hdg : decode cb pc = .ok (.bastore, 1))
    (kk : ∀ (H1 : Heap) (locs1 : List Loc), va_P (dC, dI) vwCl (tr_w ad cc (tm_I u 7 j v)) H1 → va_D A (tr_w ad cc (tm_I u 7 j v)) → va_S A s.heap H1 locs1 → W p l e R s m args below meth c H1 locs1 cells slots Q (F0 m (pc + 1) ls rest)) : W p l e R s m args below meth c H locs cells slots Q (F0 m pc ls (.int v :: .int (nI j) :: .ref (ad 17) :: rest)) :=
  kq_zast hx hb hK hP hD hS 17 2 (tm_at (i := 17) (by omega) rfl) rfl hj (by omega) hn hdg tr_s_counting kk
theorem tr_l_filled {j : Nat} (hx : p.tables.exec = Jvm.exec) (hb : c.code = cb) (hK : va_K (dC, dI) vwCl (tr_ty cc) s) (hP : va_P (dC, dI) vwCl (tr_w ad cc u) H) (hj : j < 4) (hdg : decode cb pc = .ok (.baload, 1))
    (kk : W p l e R s m args below meth c H locs cells slots Q (F0 m (pc + 1) ls (.int (u.2.1 8 j) :: rest))) : W p l e R s m args below meth c H locs cells slots Q (F0 m pc ls (.int (nI j) :: .ref (ad 18) :: rest)) :=
  kq_zald hx hb hK hP 18 2 (tm_at (i := 18) (by omega) rfl) rfl hj (by omega) hdg kk
theorem tr_t_filled {j : Nat} {v : Int32} (hx : p.tables.exec = Jvm.exec) (hb : c.code = cb) (hK : va_K (dC, dI) vwCl (tr_ty cc) s) (hP : va_P (dC, dI) vwCl (tr_w ad cc u) H) (hD : va_D A (tr_w ad cc u)) (hS : va_S A s.heap H locs) (hj : j < 4) (hn : vp_nar .boolean v = v) (hdg : decode cb pc = .ok (.bastore, 1))
    (kk : ∀ (H1 : Heap) (locs1 : List Loc), va_P (dC, dI) vwCl (tr_w ad cc (tm_I u 8 j v)) H1 → va_D A (tr_w ad cc (tm_I u 8 j v)) → va_S A s.heap H1 locs1 → W p l e R s m args below meth c H1 locs1 cells slots Q (F0 m (pc + 1) ls rest)) : W p l e R s m args below meth c H locs cells slots Q (F0 m pc ls (.int v :: .int (nI j) :: .ref (ad 18) :: rest)) :=
  kq_zast hx hb hK hP hD hS 18 2 (tm_at (i := 18) (by omega) rfl) rfl hj (by omega) hn hdg tr_s_filled kk
end TRR
end
