section
-- ===== PART A: goes FIRST, ahead of the names: the tables' words, and 'selects' of the private methods out of them =====
/-- a private method of a class that the tables say can be made, by its rows of tables_1 -/
def lw_okq (q : MethodName × Nat) : Prop := (q.1.cls ≠ "java/lang/invoke/MethodHandle" ∧ q.1.cls ≠ "java/lang/invoke/VarHandle") ∧ Cond.instantiable q.1.cls q.2 ∈ tables_1 ∧ Cond.privateMethod q.1 ∈ tables_1 ∧ Cond.instanceMethod q.1 ∈ tables_1
theorem lw_p0 : lw_okq (⟨"PipeMoulds$Works", "stemsThatBreakInAll", "(I)I"⟩, 17) := ⟨⟨by decide +kernel, by decide +kernel⟩, List.mem_of_getElem? (i := 23) (by decide +kernel), List.mem_of_getElem? (i := 133) (by decide +kernel), List.mem_of_getElem? (i := 134) (by decide +kernel)⟩
theorem lw_p1 : lw_okq (⟨"PipeMoulds$Works", "wholeInAll", "()I"⟩, 17) := ⟨⟨by decide +kernel, by decide +kernel⟩, List.mem_of_getElem? (i := 23) (by decide +kernel), List.mem_of_getElem? (i := 174) (by decide +kernel), List.mem_of_getElem? (i := 175) (by decide +kernel)⟩
theorem lw_p2 : lw_okq (⟨"PipeMoulds$Works", "withMoulds", "(J)J"⟩, 17) := ⟨⟨by decide +kernel, by decide +kernel⟩, List.mem_of_getElem? (i := 23) (by decide +kernel), List.mem_of_getElem? (i := 186) (by decide +kernel), List.mem_of_getElem? (i := 187) (by decide +kernel)⟩
theorem lw_p3 : lw_okq (⟨"PipeMoulds$Works", "flawOf", "(I)I"⟩, 17) := ⟨⟨by decide +kernel, by decide +kernel⟩, List.mem_of_getElem? (i := 23) (by decide +kernel), List.mem_of_getElem? (i := 194) (by decide +kernel), List.mem_of_getElem? (i := 195) (by decide +kernel)⟩
theorem lw_p4 : lw_okq (⟨"PipeMoulds$Works", "clayOf", "(I)I"⟩, 17) := ⟨⟨by decide +kernel, by decide +kernel⟩, List.mem_of_getElem? (i := 23) (by decide +kernel), List.mem_of_getElem? (i := 198) (by decide +kernel), List.mem_of_getElem? (i := 199) (by decide +kernel)⟩
theorem lw_p5 : lw_okq (⟨"PipeMoulds$Works", "makerAt", "(I)I"⟩, 17) := ⟨⟨by decide +kernel, by decide +kernel⟩, List.mem_of_getElem? (i := 23) (by decide +kernel), List.mem_of_getElem? (i := 202) (by decide +kernel), List.mem_of_getElem? (i := 203) (by decide +kernel)⟩
theorem lw_p6 : lw_okq (⟨"java/lang/Throwable", "fillInStackTrace", "(I)Ljava/lang/Throwable;"⟩, 6) := ⟨⟨by decide +kernel, by decide +kernel⟩, List.mem_of_getElem? (i := 269) (by decide +kernel), List.mem_of_getElem? (i := 267) (by decide +kernel), List.mem_of_getElem? (i := 268) (by decide +kernel)⟩
theorem lw_p7 : lw_okq (⟨"PipeMoulds$Works", "unloadFired", "(II)I"⟩, 17) := ⟨⟨by decide +kernel, by decide +kernel⟩, List.mem_of_getElem? (i := 23) (by decide +kernel), List.mem_of_getElem? (i := 448) (by decide +kernel), List.mem_of_getElem? (i := 449) (by decide +kernel)⟩
theorem lw_p8 : lw_okq (⟨"PipeMoulds$Works", "addWhole", "(II)V"⟩, 17) := ⟨⟨by decide +kernel, by decide +kernel⟩, List.mem_of_getElem? (i := 23) (by decide +kernel), List.mem_of_getElem? (i := 452) (by decide +kernel), List.mem_of_getElem? (i := 453) (by decide +kernel)⟩
theorem lw_p9 : lw_okq (⟨"PipeMoulds$Works", "passDay", "()V"⟩, 17) := ⟨⟨by decide +kernel, by decide +kernel⟩, List.mem_of_getElem? (i := 23) (by decide +kernel), List.mem_of_getElem? (i := 537) (by decide +kernel), List.mem_of_getElem? (i := 538) (by decide +kernel)⟩
theorem lw_p10 : lw_okq (⟨"PipeMoulds$Works", "letWork", "(I)V"⟩, 17) := ⟨⟨by decide +kernel, by decide +kernel⟩, List.mem_of_getElem? (i := 23) (by decide +kernel), List.mem_of_getElem? (i := 541) (by decide +kernel), List.mem_of_getElem? (i := 542) (by decide +kernel)⟩
theorem lw_p11 : lw_okq (⟨"PipeMoulds$Works", "layOnBoards", "(II)V"⟩, 17) := ⟨⟨by decide +kernel, by decide +kernel⟩, List.mem_of_getElem? (i := 23) (by decide +kernel), List.mem_of_getElem? (i := 550) (by decide +kernel), List.mem_of_getElem? (i := 551) (by decide +kernel)⟩
theorem lw_p12 : lw_okq (⟨"PipeMoulds$Works", "wearMould", "(II)V"⟩, 17) := ⟨⟨by decide +kernel, by decide +kernel⟩, List.mem_of_getElem? (i := 23) (by decide +kernel), List.mem_of_getElem? (i := 554) (by decide +kernel), List.mem_of_getElem? (i := 555) (by decide +kernel)⟩
theorem lw_p13 : lw_okq (⟨"PipeMoulds$Works", "lookAtOrders", "()V"⟩, 17) := ⟨⟨by decide +kernel, by decide +kernel⟩, List.mem_of_getElem? (i := 23) (by decide +kernel), List.mem_of_getElem? (i := 564) (by decide +kernel), List.mem_of_getElem? (i := 565) (by decide +kernel)⟩
theorem lw_p14 : lw_okq (⟨"PipeMoulds$Works", "lookAtOrder", "(I)Z"⟩, 17) := ⟨⟨by decide +kernel, by decide +kernel⟩, List.mem_of_getElem? (i := 23) (by decide +kernel), List.mem_of_getElem? (i := 568) (by decide +kernel), List.mem_of_getElem? (i := 569) (by decide +kernel)⟩
theorem lw_p15 : lw_okq (⟨"PipeMoulds$Works", "dismiss", "(IZ)V"⟩, 17) := ⟨⟨by decide +kernel, by decide +kernel⟩, List.mem_of_getElem? (i := 23) (by decide +kernel), List.mem_of_getElem? (i := 572) (by decide +kernel), List.mem_of_getElem? (i := 573) (by decide +kernel)⟩
def lw_privs_1 : List (MethodName × Nat) := [(⟨"PipeMoulds$Works", "stemsThatBreakInAll", "(I)I"⟩, 17), (⟨"PipeMoulds$Works", "wholeInAll", "()I"⟩, 17), (⟨"PipeMoulds$Works", "withMoulds", "(J)J"⟩, 17), (⟨"PipeMoulds$Works", "flawOf", "(I)I"⟩, 17), (⟨"PipeMoulds$Works", "clayOf", "(I)I"⟩, 17), (⟨"PipeMoulds$Works", "makerAt", "(I)I"⟩, 17), (⟨"java/lang/Throwable", "fillInStackTrace", "(I)Ljava/lang/Throwable;"⟩, 6), (⟨"PipeMoulds$Works", "unloadFired", "(II)I"⟩, 17), (⟨"PipeMoulds$Works", "addWhole", "(II)V"⟩, 17), (⟨"PipeMoulds$Works", "passDay", "()V"⟩, 17), (⟨"PipeMoulds$Works", "letWork", "(I)V"⟩, 17), (⟨"PipeMoulds$Works", "layOnBoards", "(II)V"⟩, 17), (⟨"PipeMoulds$Works", "wearMould", "(II)V"⟩, 17), (⟨"PipeMoulds$Works", "lookAtOrders", "()V"⟩, 17), (⟨"PipeMoulds$Works", "lookAtOrder", "(I)Z"⟩, 17), (⟨"PipeMoulds$Works", "dismiss", "(IZ)V"⟩, 17)]
theorem lw_r1 : ∀ q ∈ lw_privs_1, lw_okq q := List.forall_mem_cons.mpr ⟨lw_p0, List.forall_mem_cons.mpr ⟨lw_p1, List.forall_mem_cons.mpr ⟨lw_p2, List.forall_mem_cons.mpr ⟨lw_p3, List.forall_mem_cons.mpr ⟨lw_p4, List.forall_mem_cons.mpr ⟨lw_p5, List.forall_mem_cons.mpr ⟨lw_p6, List.forall_mem_cons.mpr ⟨lw_p7, List.forall_mem_cons.mpr ⟨lw_p8, List.forall_mem_cons.mpr ⟨lw_p9, List.forall_mem_cons.mpr ⟨lw_p10, List.forall_mem_cons.mpr ⟨lw_p11, List.forall_mem_cons.mpr ⟨lw_p12, List.forall_mem_cons.mpr ⟨lw_p13, List.forall_mem_cons.mpr ⟨lw_p14, List.forall_mem_cons.mpr ⟨lw_p15, fun _ h => absurd h List.not_mem_nil⟩⟩⟩⟩⟩⟩⟩⟩⟩⟩⟩⟩⟩⟩⟩⟩
theorem lw_p16 : lw_okq (⟨"PipeMouldsModel", "no", "(I)I"⟩, 9) := ⟨⟨by decide +kernel, by decide +kernel⟩, List.mem_of_getElem? (i := 614) (by decide +kernel), List.mem_of_getElem? (i := 744) (by decide +kernel), List.mem_of_getElem? (i := 745) (by decide +kernel)⟩
theorem lw_p17 : lw_okq (⟨"PipeMouldsModel", "isMould", "(I)Z"⟩, 9) := ⟨⟨by decide +kernel, by decide +kernel⟩, List.mem_of_getElem? (i := 614) (by decide +kernel), List.mem_of_getElem? (i := 752) (by decide +kernel), List.mem_of_getElem? (i := 753) (by decide +kernel)⟩
theorem lw_p18 : lw_okq (⟨"PipeMouldsModel", "isMaker", "(I)Z"⟩, 9) := ⟨⟨by decide +kernel, by decide +kernel⟩, List.mem_of_getElem? (i := 614) (by decide +kernel), List.mem_of_getElem? (i := 764) (by decide +kernel), List.mem_of_getElem? (i := 765) (by decide +kernel)⟩
theorem lw_p19 : lw_okq (⟨"PipeMouldsModel", "makerAt", "(I)I"⟩, 9) := ⟨⟨by decide +kernel, by decide +kernel⟩, List.mem_of_getElem? (i := 614) (by decide +kernel), List.mem_of_getElem? (i := 768) (by decide +kernel), List.mem_of_getElem? (i := 769) (by decide +kernel)⟩
theorem lw_p20 : lw_okq (⟨"PipeMouldsModel", "isBatch", "(I)Z"⟩, 9) := ⟨⟨by decide +kernel, by decide +kernel⟩, List.mem_of_getElem? (i := 614) (by decide +kernel), List.mem_of_getElem? (i := 784) (by decide +kernel), List.mem_of_getElem? (i := 785) (by decide +kernel)⟩
theorem lw_p21 : lw_okq (⟨"PipeMouldsModel$State", "put", "([IIIII)V"⟩, 18) := ⟨⟨by decide +kernel, by decide +kernel⟩, List.mem_of_getElem? (i := 620) (by decide +kernel), List.mem_of_getElem? (i := 795) (by decide +kernel), List.mem_of_getElem? (i := 796) (by decide +kernel)⟩
theorem lw_p22 : lw_okq (⟨"PipeMouldsModel$State", "pipes", "(II)I"⟩, 18) := ⟨⟨by decide +kernel, by decide +kernel⟩, List.mem_of_getElem? (i := 620) (by decide +kernel), List.mem_of_getElem? (i := 812) (by decide +kernel), List.mem_of_getElem? (i := 813) (by decide +kernel)⟩
theorem lw_p23 : lw_okq (⟨"PipeMouldsModel", "mouldTold", "(II)I"⟩, 9) := ⟨⟨by decide +kernel, by decide +kernel⟩, List.mem_of_getElem? (i := 614) (by decide +kernel), List.mem_of_getElem? (i := 832) (by decide +kernel), List.mem_of_getElem? (i := 833) (by decide +kernel)⟩
theorem lw_p24 : lw_okq (⟨"PipeMouldsModel", "clayOf", "(I)I"⟩, 9) := ⟨⟨by decide +kernel, by decide +kernel⟩, List.mem_of_getElem? (i := 614) (by decide +kernel), List.mem_of_getElem? (i := 840) (by decide +kernel), List.mem_of_getElem? (i := 841) (by decide +kernel)⟩
theorem lw_p25 : lw_okq (⟨"PipeMouldsModel", "makerTold", "(II)I"⟩, 9) := ⟨⟨by decide +kernel, by decide +kernel⟩, List.mem_of_getElem? (i := 614) (by decide +kernel), List.mem_of_getElem? (i := 848) (by decide +kernel), List.mem_of_getElem? (i := 849) (by decide +kernel)⟩
theorem lw_p26 : lw_okq (⟨"PipeMouldsModel", "isWaiting", "(I)Z"⟩, 9) := ⟨⟨by decide +kernel, by decide +kernel⟩, List.mem_of_getElem? (i := 614) (by decide +kernel), List.mem_of_getElem? (i := 868) (by decide +kernel), List.mem_of_getElem? (i := 869) (by decide +kernel)⟩
theorem lw_p27 : lw_okq (⟨"PipeMouldsModel$State", "stored", "()I"⟩, 18) := ⟨⟨by decide +kernel, by decide +kernel⟩, List.mem_of_getElem? (i := 620) (by decide +kernel), List.mem_of_getElem? (i := 881) (by decide +kernel), List.mem_of_getElem? (i := 882) (by decide +kernel)⟩
theorem lw_p28 : lw_okq (⟨"PipeMouldsModel$State", "make", "(I)V"⟩, 18) := ⟨⟨by decide +kernel, by decide +kernel⟩, List.mem_of_getElem? (i := 620) (by decide +kernel), List.mem_of_getElem? (i := 897) (by decide +kernel), List.mem_of_getElem? (i := 898) (by decide +kernel)⟩
theorem lw_p29 : lw_okq (⟨"PipeMouldsModel$State", "serve", "()V"⟩, 18) := ⟨⟨by decide +kernel, by decide +kernel⟩, List.mem_of_getElem? (i := 620) (by decide +kernel), List.mem_of_getElem? (i := 904) (by decide +kernel), List.mem_of_getElem? (i := 905) (by decide +kernel)⟩
def lw_privs_2 : List (MethodName × Nat) := [(⟨"PipeMouldsModel", "no", "(I)I"⟩, 9), (⟨"PipeMouldsModel", "isMould", "(I)Z"⟩, 9), (⟨"PipeMouldsModel", "isMaker", "(I)Z"⟩, 9), (⟨"PipeMouldsModel", "makerAt", "(I)I"⟩, 9), (⟨"PipeMouldsModel", "isBatch", "(I)Z"⟩, 9), (⟨"PipeMouldsModel$State", "put", "([IIIII)V"⟩, 18), (⟨"PipeMouldsModel$State", "pipes", "(II)I"⟩, 18), (⟨"PipeMouldsModel", "mouldTold", "(II)I"⟩, 9), (⟨"PipeMouldsModel", "clayOf", "(I)I"⟩, 9), (⟨"PipeMouldsModel", "makerTold", "(II)I"⟩, 9), (⟨"PipeMouldsModel", "isWaiting", "(I)Z"⟩, 9), (⟨"PipeMouldsModel$State", "stored", "()I"⟩, 18), (⟨"PipeMouldsModel$State", "make", "(I)V"⟩, 18), (⟨"PipeMouldsModel$State", "serve", "()V"⟩, 18)]
theorem lw_r2 : ∀ q ∈ lw_privs_2, lw_okq q := List.forall_mem_cons.mpr ⟨lw_p16, List.forall_mem_cons.mpr ⟨lw_p17, List.forall_mem_cons.mpr ⟨lw_p18, List.forall_mem_cons.mpr ⟨lw_p19, List.forall_mem_cons.mpr ⟨lw_p20, List.forall_mem_cons.mpr ⟨lw_p21, List.forall_mem_cons.mpr ⟨lw_p22, List.forall_mem_cons.mpr ⟨lw_p23, List.forall_mem_cons.mpr ⟨lw_p24, List.forall_mem_cons.mpr ⟨lw_p25, List.forall_mem_cons.mpr ⟨lw_p26, List.forall_mem_cons.mpr ⟨lw_p27, List.forall_mem_cons.mpr ⟨lw_p28, List.forall_mem_cons.mpr ⟨lw_p29, fun _ h => absurd h List.not_mem_nil⟩⟩⟩⟩⟩⟩⟩⟩⟩⟩⟩⟩⟩⟩
def lw_privs : List (MethodName × Nat) := lw_privs_1 ++ (lw_privs_2)
def lw_tbl : List Cond := k2_sels lw_privs ++ tables_1
theorem lw_privs_ok : ∀ q ∈ lw_privs, lw_okq q := by
  show ∀ q ∈ lw_privs_1 ++ (lw_privs_2), lw_okq q
  exact List.forall_mem_append.mpr ⟨lw_r1, lw_r2⟩
/-- the streams that the claim lets the run draw from -/
abbrev lw_cs : List Choice := [Jvm.Choice.named "NaN.bits"]
theorem lw_bits : nanBits ∈ lw_cs := by first | decide | exact List.mem_cons_self | simp [lw_cs, nanBits]
end
section
/-! ===== BEGIN words of one list among another's, by their places ===== -/
theorem goodIn_r {big : List Cond} (ws : List Cond) (ps : List Nat) (hp : ws = ps.filterMap (fun i => big[i]?)) (h : ws.all goodWord = true) : GoodIn big ws := by
  intro w hw
  have h1 := List.all_eq_true.mp h w hw
  rw [hp] at hw
  obtain ⟨i, -, hi⟩ := List.mem_filterMap.mp hw
  have hm : w ∈ big := by first | exact List.mem_of_getElem? hi | exact List.getElem?_mem hi
  exact ⟨hm, good_of_word h1⟩
theorem goodIn_app {big a b : List Cond} (ha : GoodIn big a) (hb : GoodIn big b) : GoodIn big (a ++ b) := fun w h => (List.mem_append.mp h).elim (ha w) (hb w)
theorem goodIn_ca {big a b : List Cond} {c : Cond} (ha : GoodIn big (c :: a)) (hb : GoodIn big b) : GoodIn big (c :: (a ++ b)) := fun w h => (List.mem_cons.mp h).elim (fun e => ha w (List.mem_cons.mpr (Or.inl e))) (fun h => (List.mem_append.mp h).elim (fun h => ha w (List.mem_cons.mpr (Or.inr h))) (hb w))
theorem goodIn_sub {big ws : List Cond} (hm : ∀ w ∈ ws, w ∈ big) (h : ws.all goodWord = true) : GoodIn big ws := fun w hw => ⟨hm w hw, good_of_word (List.all_eq_true.mp h w hw)⟩
/-! ===== END ===== -/

/-! ===== BEGIN new T[n][m]: the outer array a place, the inner ones among the pooled ===== -/
/-- f, but v at every address of l -/
def vr_up {α : Type} (f : Nat → α) (l : List Nat) (v : α) : Nat → α := fun a => if a ∈ l then v else f a
theorem vr_up_in {α : Type} {f : Nat → α} {l : List Nat} {v : α} {a : Nat} (h : a ∈ l) : vr_up f l v a = v := if_pos h
theorem vr_up_ne {α : Type} {f : Nat → α} {l : List Nat} {v : α} {a : Nat} (h : a ∉ l) : vr_up f l v a = f a := if_neg h
theorem vr_rows {L l : List Nat} {f : Nat → va_E} {e : va_E} (h : ∀ a, a ∈ l → a ∉ L) : va_pl L f ++ l.map (fun a => (a, e)) = va_pl (L ++ l) (vr_up f l e) := by
  unfold va_pl
  rw [List.map_append]
  congr 1
  · apply List.map_congr_left
    intro a ha
    rw [vr_up_ne (fun q => h a q ha)]
  · apply List.map_congr_left
    intro a ha
    rw [vr_up_in ha]
theorem vr_lay {X rows : va_W} {x : Nat × va_E} {pl : va_W} {D : va_G} {cl : List vw_C} {H : Heap} (hP : va_P D cl (((X ++ pl) ++ [x]) ++ rows) H) : va_P D cl ((X ++ [x]) ++ (pl ++ rows)) H := by
  rw [List.append_assoc (X ++ pl)] at hP
  have h := va_P.swap hP
  rw [← List.append_assoc X] at h
  have h2 := va_P.swap h
  rw [List.append_assoc (X ++ [x])] at h2
  exact h2
theorem vr_layD {X rows : va_W} {x : Nat × va_E} {pl : va_W} {A : Nat → Prop} (hD : va_D A (((X ++ pl) ++ [x]) ++ rows)) : va_D A ((X ++ [x]) ++ (pl ++ rows)) := by
  rw [List.append_assoc (X ++ pl)] at hD
  have h := va_D.swap hD
  rw [← List.append_assoc X] at h
  have h2 := va_D.swap h
  rw [List.append_assoc (X ++ [x])] at h2
  exact h2
theorem vr_outer (c : ClassId) (N h0 : Nat) : ∀ i : Nat, Jvm.Free.Multi.outerC c N h0 i = arrV c N (fun j => va_rf (if j < i then some (h0 + 1 + j) else none))
  | 0 => by
    show ({ cls := c, slots := Array.replicate N .null, vm := .none } : Cell) = _
    rw [arrV_new]
    refine congrArg (arrV c N) (funext fun j => ?_)
    simp [va_rf]
  | i + 1 => by
    show (Jvm.Free.Multi.outerC c N h0 i).setSlot i (.ref (h0 + 1 + i)) = _
    rw [vr_outer c N h0 i, arrV_store]
    refine congrArg (arrV c N) (funext fun j => ?_)
    by_cases e : j = i
    · subst e
      simp [updV, va_rf]
    · by_cases h : j < i
      · simp [updV, e, h, Nat.lt_succ_of_lt h]
      · simp [updV, e, h, show ¬ j < i + 1 by omega]
/-- the row of tables_1 that an array class over an array class can be made (the printed text names it; the kit has it for objects alone) -/
def va_AOA (ty : FieldType) (U : State) : Prop := (Cond.arrayOver (.array ty)).before #[] U = true
theorem va_AOA.of {ty : FieldType} {A : Array Value} {U : State} (h : (Cond.arrayOver (.array ty)).before A U = true) : va_AOA ty U := h
theorem va_AOA.use {ty : FieldType} {A : Array Value} {U : State} (h : va_AOA ty U) : (Cond.arrayOver (.array ty)).before A U = true := h
section VGM
variable {p : Program} {l : Launch} {e : Env} {R : Room} {s : State} {m : MethodId} {args : Array Value} {below : List Frame} {meth : Method} {c : Code} {H : Heap} {locs : List Loc} {cells slots : Nat} {Q : State → Prop}
variable {cc : ByteArray} {pc : Nat} {ls : Array Slot} {rest : List Value} {D : va_G} {cl : List vw_C} {A : Nat → Prop} {a : Nat} {tys : List (ClassId × FieldType)} {ws : va_W} {H0 : Heap}
theorem va_mna {X : va_W} {L : List Nat} {f : Nat → va_E} {cc : ByteArray} (hexec : p.tables.exec = Jvm.exec) (hb : c.code = cc) {own : String} {index : Nat} {ty : FieldType} {cy : ClassId} (hown : s.vm.findClass own = some m.cls) (hclink : (Cond.classLink own index ("[" ++ (FieldType.array ty).toString)).before args s = true) (hover : va_AOA ty s) (harr : (Cond.arrayClass ty).before args s = true) (hcy : s.vm.findClass (FieldType.array ty).toString = some cy)
    (hK : va_K D cl tys s) (hP : va_P D cl (X ++ va_pl L f) H) (hD : va_D A (X ++ va_pl L f)) (hS : va_S A H0 H locs) (hA : ∀ q, H0.size ≤ q → A q) {n k : Int32} {N' K' : Nat} {z : vp_A} (hn : ¬ n < 0) (hk : ¬ k < 0) (hN : n.toNatClampNeg = N') (hM : k.toNatClampNeg = K')
    (hb1 : N' * 4 ≤ 536870912) (hb2 : K' * componentBytes ty ≤ 536870912) (hb3 : K' ≤ 536870912) (hdf : fits ty (defaultValue ty) = true) (hdd : (defaultValue ty).isDefault = true) (hcells : cells + (1 + N') ≤ R.cells) (hslots : slots + (N' + N' * K') ≤ R.slots) (hz : ∀ c : ClassId, Jvm.Free.Multi.innerC c K' (defaultValue ty) = vp_cell c z) (hdg : decode cc pc = .ok (.multianewarray index 2, 4))
    (kk : ∀ (q : Nat) (r : Nat → Nat) (cA : ClassId) (H1 : Heap), (∀ i j : Nat, i < N' → j < N' → r i = r j → i = j) → (∀ i : Nat, i < N' → r i ∉ L) → va_K D cl (tys ++ [(cA, .array ty)]) s →
      va_P D cl ((X ++ [(q, .inl (cA, N', .inr (.inr (.inr (.inr (fun i => if i < N' then some (r i) else none))))))]) ++ va_pl (L ++ (List.range N').map r) (vr_up f ((List.range N').map r) (.inl (cy, z)))) H1 → va_D A ((X ++ [(q, .inl (cA, N', .inr (.inr (.inr (.inr (fun i => if i < N' then some (r i) else none))))))]) ++ va_pl (L ++ (List.range N').map r) (vr_up f ((List.range N').map r) (.inl (cy, z)))) → va_S A H0 H1 locs →
      W p l e R s m args below meth c H1 locs (cells + 1 + N') (slots + N' + N' * K') Q (F0 m (pc + 4) ls (.ref q :: rest))) : W p l e R s m args below meth c H locs cells slots Q (F0 m pc ls (.int k :: .int n :: rest)) := by
  subst hN
  subst hM
  intro T hT Xs
  obtain ⟨vm₁, cA, comp, -, fA, fC, hO, -, X', step⟩ := Xs.multianewarray2F hexec hown hclink (va_AOA.use hover) harr (g := F0 m pc ls (.int k :: .int n :: rest)) rfl (by rw [hb]; exact hdg) rfl hn hk hb1 hb2 hb3 hdf hdd hcells hslots
  have ec : some cy = some comp := hcy.symm.trans fC
  cases ec
  generalize hF : Jvm.Free.Multi.fill (T.setVm vm₁) cA cy n.toNatClampNeg k.toNatClampNeg (defaultValue ty) n.toNatClampNeg = F at X' step
  have hTh : (T.setVm vm₁).heap = H := hT
  obtain ⟨f1, f2, -, -⟩ := Jvm.Free.Multi.fill_facts (T.setVm vm₁) cA cy n.toNatClampNeg k.toNatClampNeg (defaultValue ty) n.toNatClampNeg
  rw [hF, hTh] at f1 f2
  have hold : ∀ x : Nat, x < H.size → F.heap[x]? = H[x]? := fun x hx => by
    have := Jvm.Free.Multi.fill_old (T.setVm vm₁) cA cy n.toNatClampNeg k.toNatClampNeg (defaultValue ty) (a := x) (by rw [hTh]; exact hx) n.toNatClampNeg
    rw [hF, hTh] at this
    exact this
  have hrow : ∀ j : Nat, j < n.toNatClampNeg → F.heap[H.size + 1 + j]? = some (vp_cell cy z) := fun j hj => by
    have := Jvm.Free.Multi.fill_inner (T.setVm vm₁) cA cy n.toNatClampNeg k.toNatClampNeg (defaultValue ty) n.toNatClampNeg j hj
    rw [hF, hTh, hz] at this
    exact this
  have hout : Jvm.Free.Multi.outerC cA n.toNatClampNeg H.size n.toNatClampNeg = vp_cell cA (n.toNatClampNeg, .inr (.inr (.inr (.inr (fun i => if i < n.toNatClampNeg then some (H.size + 1 + i) else none))))) := by
    rw [vp_cell_q]
    exact vr_outer cA n.toNatClampNeg H.size n.toNatClampNeg
  rw [hout] at f2
  have hlt : ∀ a, a ∈ L → a < H.size := fun a ha => by
    obtain ⟨k9, hk9⟩ := va_pl_get (X := X) (f := f) ha
    exact (hP k9 _ hk9).lt
  have hnl : ∀ i : Nat, i < n.toNatClampNeg → H.size + 1 + i ∉ L := fun i _ h => by
    have := hlt _ h
    omega
  have hnm : ∀ a, a ∈ (List.range n.toNatClampNeg).map (fun i => H.size + 1 + i) → a ∉ L := fun a ha h => by
    obtain ⟨i, -, rfl⟩ := List.mem_map.mp ha
    have := hlt _ h
    omega
  have hP0 : va_P D cl (X ++ va_pl L f) F.heap := hP.kept (fun k9 x hx => hold x.1 ((hP k9 x hx).lt))
  have hP1 : va_P D cl ((X ++ va_pl L f) ++ [(H.size, .inl (cA, n.toNatClampNeg, .inr (.inr (.inr (.inr (fun i => if i < n.toNatClampNeg then some (H.size + 1 + i) else none))))))]) F.heap := hP0.app (fun k9 x hx => by
    have h0 : k9 < 1 := (List.getElem?_eq_some_iff.mp hx).1
    rw [show k9 = 0 by omega] at hx
    cases hx
    exact f2)
  have hP2 : va_P D cl (((X ++ va_pl L f) ++ [(H.size, .inl (cA, n.toNatClampNeg, .inr (.inr (.inr (.inr (fun i => if i < n.toNatClampNeg then some (H.size + 1 + i) else none))))))]) ++ ((List.range n.toNatClampNeg).map (fun i => H.size + 1 + i)).map (fun a => (a, .inl (cy, z)))) F.heap := hP1.app (fun k9 x hx => by
    obtain ⟨a, ha, rfl⟩ := List.mem_map.mp (List.mem_of_getElem? hx)
    obtain ⟨i, hi, rfl⟩ := List.mem_map.mp ha
    exact hrow i (List.mem_range.mp hi))
  have hD2 : va_D A (((X ++ va_pl L f) ++ [(H.size, .inl (cA, n.toNatClampNeg, .inr (.inr (.inr (.inr (fun i => if i < n.toNatClampNeg then some (H.size + 1 + i) else none))))))]) ++ ((List.range n.toNatClampNeg).map (fun i => H.size + 1 + i)).map (fun a => (a, .inl (cy, z)))) := by
    have hD1 := hD.push (e := .inl (cA, n.toNatClampNeg, .inr (.inr (.inr (.inr (fun i => if i < n.toNatClampNeg then some (H.size + 1 + i) else none)))))) hP rfl (hA _ hS.1)
    generalize hW1 : (X ++ va_pl L f) ++ [(H.size, .inl (cA, n.toNatClampNeg, .inr (.inr (.inr (.inr (fun i => if i < n.toNatClampNeg then some (H.size + 1 + i) else none))))))] = W1 at hD1 hP1 ⊢
    have hle : ∀ (k9 : Nat) (x : Nat × va_E), W1[k9]? = some x → x.1 ≤ H.size := fun k9 x hx => by
      rw [← hW1] at hx
      by_cases hl : k9 < (X ++ va_pl L f).length
      · rw [List.getElem?_append_left hl] at hx
        exact Nat.le_of_lt ((hP k9 x hx).lt)
      · rw [List.getElem?_append_right (by omega)] at hx
        have h0 : k9 - (X ++ va_pl L f).length < 1 := (List.getElem?_eq_some_iff.mp hx).1
        rw [show k9 - (X ++ va_pl L f).length = 0 by omega] at hx
        cases hx
        exact Nat.le_refl _
    have hr : ∀ (k9 : Nat) (x : Nat × va_E), (((List.range n.toNatClampNeg).map (fun i => H.size + 1 + i)).map (fun a => ((a, .inl (cy, z)) : Nat × va_E)))[k9]? = some x → x.1 = H.size + 1 + k9 := fun k9 x hx => by
      rw [List.getElem?_map, List.getElem?_map] at hx
      by_cases h9 : k9 < n.toNatClampNeg
      · rw [List.getElem?_range h9] at hx
        cases hx
        rfl
      · have hn0 : (List.range n.toNatClampNeg)[k9]? = none := List.getElem?_eq_none (by rw [List.length_range]; omega)
        rw [hn0] at hx
        cases hx
    refine ⟨fun i j x y hi hj hxy => ?_, fun k9 x hx => ?_⟩
    · by_cases h1 : i < W1.length <;> by_cases h2 : j < W1.length
      · rw [List.getElem?_append_left h1] at hi
        rw [List.getElem?_append_left h2] at hj
        exact hD1.1 i j x y hi hj hxy
      · rw [List.getElem?_append_left h1] at hi
        rw [List.getElem?_append_right (by omega)] at hj
        have := hle _ _ hi
        have := hr _ _ hj
        omega
      · rw [List.getElem?_append_right (by omega)] at hi
        rw [List.getElem?_append_left h2] at hj
        have := hle _ _ hj
        have := hr _ _ hi
        omega
      · rw [List.getElem?_append_right (by omega)] at hi hj
        have := hr _ _ hi
        have := hr _ _ hj
        omega
    · by_cases h1 : k9 < W1.length
      · rw [List.getElem?_append_left h1] at hx
        exact hD1.2 k9 x hx
      · rw [List.getElem?_append_right (by omega)] at hx
        have := hr _ _ hx
        exact hA _ (by have := hS.1; omega)
  have hAr : ArrOfT s cA (.array ty) := fun N9 z9 => by
    obtain ⟨-, k9, hk9, cm9, hkk9⟩ := (hO 0 0 0).1
    exact ⟨(fun q hq => by cases hq), k9, hk9, cm9, hkk9⟩
  have hK2 : va_K D cl (tys ++ [(cA, .array ty)]) s := ⟨hK.1, fun k9 x hx => by
    by_cases hl : k9 < tys.length
    · rw [List.getElem?_append_left hl] at hx
      exact hK.2 k9 x hx
    · rw [List.getElem?_append_right (by omega)] at hx
      have h0 : k9 - tys.length < 1 := (List.getElem?_eq_some_iff.mp hx).1
      rw [show k9 - tys.length = 0 by omega] at hx
      cases hx
      exact ⟨hAr, fA⟩⟩
  obtain ⟨t, a1, b1⟩ := kk H.size (fun i => H.size + 1 + i) cA F.heap (fun i j _ _ h => by have h9 : H.size + 1 + i = H.size + 1 + j := h; omega) hnl hK2 (by rw [← vr_rows hnm]; exact vr_lay hP2) (by rw [← vr_rows hnm]; exact vr_layD hD2) ⟨by rw [f1]; have := hS.1; omega, fun x h1 h2 => (hold x (Nat.lt_of_lt_of_le h1 hS.1)).trans (hS.2.1 x h1 h2), hS.2.2⟩ F rfl X'
  refine ⟨t, step t ?_, b1⟩
  have e : T.heap.size = H.size := by rw [hT]
  rw [e]
  exact a1
end VGM
/-! ===== END ===== -/

/-! ===== BEGIN exceptions that leave a method, and their catching by the caller (launches without stack traces) ===== -/
section VXA
/-! The laws vx_back, vx_callV, vx_callS, vx_callSW, vx_throw0, vx_throwS follow proofs of the library, with one case more: JvmDerived/Free/Laws.lean (Back.of_free), Shelf42/LK1.lean (callV, callS), Shelf/KitTraced.lean (throwNew0V, throwNewS). -/
/-- where a method has thrown q: the class by its name, the cell, what was written, the world -/
def vx_T (XC : String → State → State → Prop) (st : State) (q : Addr) (t : State) (mc ms : Nat) (free : Addr → Prop) : Prop :=
  ∃ (E : String) (ce : Cell) (L : List Loc), XC E st t ∧ t.heap[q]? = some ce ∧ ce.vm = .none ∧ st.vm.findClass E = some ce.cls ∧ st.WarmedH t.vm ∧ st.sameButNew ({ t with vm := st.vm } : State) L mc ms ∧ ∀ z ∈ L, free z.base
def vx_Q (Qc : Array Value → State → Outcome → State → Prop) (XC : String → State → State → Prop) (mc ms : Nat) (free : Addr → Prop) : Array Value → State → Outcome → State → Prop := fun a st o t =>
  (Qc a st o t ∧ ∃ L, FrameEnd st o t L mc ms ∧ ∀ q ∈ L, free q.base) ∨ ∃ q, o = .threw q ∧ vx_T XC st q t mc ms free
/-- a callee that returns or throws -/
def vx_Met (l : Launch) (y : MethodName) (ws : List Cond) (rm : Room) (Pc : Array Value → State → Prop) (Qc : Array Value → State → Outcome → State → Prop) (XC : String → State → State → Prop) (mc ms : Nat) (free : Addr → Prop) : Prop :=
  MetFree l y (headSpec ws rm) Pc (fun _ _ _ _ _ => True) (vx_Q Qc XC mc ms free)
def vx_Post (XC : String → State → State → Prop) (mc ms : Nat) (free : Addr → Prop) : Pt → Array Value → Addr → Pt → Prop := fun A a q B =>
  ∃ (g : JFrame) (mk : MethodId) (t : State) (L : List Loc) (E : String) (ce : Cell), B.U.heap = t.heap ∧ B.U.vm = t.vm ∧ XC E (A.U.calling g mk a) t ∧ t.heap[q]? = some ce ∧ ce.vm = .none ∧ A.U.vm.findClass E = some ce.cls ∧ B.locs = A.locs ++ L ∧ (∀ z ∈ L, free z.base) ∧ B.cells = A.cells + mc ∧ B.slots = A.slots + ms
def vx_Back (l : Launch) (R : Room) (p : Program) (e : Env) (below : List Frame) (s : State) (sargs : Array Value) (y : MethodName) (len W9 : Nat)
    (Pre : Pt → Array Value → Prop) (Post : Pt → Array Value → Option Value → Pt → Prop) (PostX : Pt → Array Value → Addr → Pt → Prop) : Prop :=
  ∀ (m : MethodId) (meth : Method) (c : Code) (A : Pt) (g : JFrame) (ig : Instr) (mk : MethodId) (a : Array Value),
    Stand p l e R s m sargs below meth c A.U A.locs A.cells A.slots → g.method = m → g.locals.size = c.maxLocals → decode c.code g.pc = .ok (ig, len) →
    2 * g.monitorRoom + (g.stack.map fun v => v.category).sum ≤ W9 → A.U.methodNamed? y = some mk → Pre A a →
    (∃ (v : Option Value) (B : Pt), Stand p l e R s m sargs below meth c B.U B.locs B.cells B.slots ∧ Post A a v B ∧
      Steps p.tables e below (doInvoke e (A.U.setTop g) [] mk a).1 (B.U.setTop { g with pc := g.pc + len, stack := v.toList ++ g.stack })) ∨
    (∃ (q : Addr) (B : Pt), Stand p l e R s m sargs below meth c B.U B.locs B.cells B.slots ∧ PostX A a q B ∧
      Steps p.tables e below (doInvoke e (A.U.setTop g) [] mk a).1 ((B.U.setTop g).pushFrame (.throwing q)))
section Payer
variable {l : Launch} {R : Room} {p : Program} {e : Env} {below : List Frame} {s : State} {sargs : Array Value} {y : MethodName} {len W9 : Nat}
theorem vx_back {ws : List Cond} {rm : Room} {Pc : Array Value → State → Prop} {Qc : Array Value → State → Outcome → State → Prop} {XC : String → State → State → Prop} {mc ms : Nat} {free : Addr → Prop} {bytes : ByteArray} {maxL : Nat} {ret : Option FieldType}
    (hM : vx_Met l y ws rm Pc Qc XC mc ms free) (hblind : FrameBlind Pc) (hrc : rm.cells = mc) (hrs : rm.slots = ms)
    (hframes : rm.frames + 1 ≤ R.frames) (hlocals : W9 + (maxL + 11) + rm.locals ≤ R.locals)
    (hws : ∀ w ∈ ws, ∀ a' U, s.WarmedH U.vm → w.before a' U = true) (hcode : Cond.code y bytes maxL ret ∈ ws) (hinit : ∀ a' U, s.WarmedH U.vm → (Cond.initialized y.cls).before a' U = true) :
    vx_Back l R p e below s sargs y len W9 (PreOf R mc ms Pc) (PostOf Qc mc ms free) (vx_Post XC mc ms free) := by
  intro m meth c A g ig mk a X hg hsize hdg hW hn hp
  have h1 : (headSpec ws rm).pre.before a A.U = true := atoms_intro fun w hw => hws w hw _ _ X.warmed
  have h2 : (Cond.code y bytes maxL ret).before a A.U = true := hws _ hcode _ _ X.warmed
  have h3 : (Cond.initialized y.cls).before a A.U = true := hinit _ _ X.warmed
  have h4 : A.cells + (headSpec ws rm).room.cells ≤ R.cells := by rw [show (headSpec ws rm).room.cells = mc from hrc]; exact hp.1
  have h5 : A.slots + (headSpec ws rm).room.slots ≤ R.slots := by rw [show (headSpec ws rm).room.slots = ms from hrs]; exact hp.2.1
  have hPc : Pc a (A.U.calling g mk a) := hblind _ _ _ _ hp.2.2
  obtain ⟨U, Ls, c0, s0⟩ := A
  dsimp only [Pt.U, Pt.locs, Pt.cells, Pt.slots] at h1 h2 h3 h4 h5 X hn hPc ⊢
  obtain ⟨methY, cY, hmY, hcY, -, hlY, -, -, -, -⟩ := Cond.code_spec hn h2
  obtain ⟨kY, hkY, -⟩ := className_of_methodNamed hn
  have hinitY : kY.init = .initialized := Cond.initialized_spec (findClass_of_methodNamed hn) hkY h3
  have h : At U g.method c below := by rw [hg]; exact X.here
  have hlocals9 : W9 + (maxL + 11) + (headSpec ws rm).room.locals ≤ R.locals := hlocals
  have happ : (headSpec ws rm).appliesLoose y e.platform (U.calling g mk a) = true :=
    Spec.appliesLoose_calling (g := g) h hdg hn hkY hinitY
      (X.room_calling (g := g) (R' := (headSpec ws rm).room) hsize hmY hcY hframes (by rw [hlY]; omega) h4 h5) h1
  obtain ⟨mid, hmid⟩ := h.above
  have hfr : (U.setTop g).frames = (.java g :: mid) ++ below := by rw [State.frames_setTop' g h.top, hmid]; rfl
  obtain ⟨o, s₂, hsteps, -, hend, hq⟩ := Steps.callFree hM p X.admits X.cas X.clock (acts := []) hfr happ hPc trivial
  have hq' : vx_Q Qc XC mc ms free a (U.calling g mk a) o s₂ := hq
  rw [State.frames_setTop' g h.top] at hend
  obtain ⟨g₀, hg0⟩ := Option.isSome_iff_exists.mp h.top
  obtain ⟨r, hr⟩ := State.topJava?_eq_some.mp hg0
  have hr' : (({ U with heap := s₂.heap, slotsUsed := s₂.slotsUsed } : State).setVm s₂.vm).frames = .java g₀ :: r := hr
  rcases hq' with ⟨hqc, L, hfe, hL⟩ | ⟨q, rfl, E, ce, L, hx, hce, hcv, hcl, hW₂, hsm, hL⟩
  · obtain ⟨⟨v, rfl⟩, hW₂, e2, q2, q3, q4, q5, q6⟩ := id hfe
    have e3 : s₂ = ({ (U.calling g mk a).setFrames s₂.frames with heap := s₂.heap, slotsUsed := s₂.slotsUsed } : State).setVm s₂.vm := by
      have : s₂ = ({ s₂ with vm := (U.calling g mk a).vm } : State).setVm s₂.vm := rfl
      rw [e2] at this
      exact this
    obtain ⟨c₂, i₂, len₂, hc₂, hd₂, hf₂⟩ := hend
    have hW' : U.WarmedH s₂.vm := hW₂
    have hcc : c₂ = c := by
      have h1 : s₂.code? g.method = U.code? g.method := by
        rw [State.code?_eq, State.code?_eq, hW'.alike.method?]
      exact Option.some.inj (hc₂.symm.trans (h1.trans h.code))
    subst hcc
    have hlen : len₂ = len := by rw [hdg] at hd₂; cases hd₂; rfl
    subst hlen
    have hs₂ : s₂ = (({ U with heap := s₂.heap, slotsUsed := s₂.slotsUsed } : State).setVm s₂.vm).setTop { g with pc := g.pc + len₂, stack := v.toList ++ g.stack } := by
      refine e3.trans ?_
      rw [hf₂, State.calling_eq h.top, State.setFrames_setFrames, State.setTop_of_frames _ hr', hr]
      rfl
    have hsame : U.sameButNew ({ U with heap := s₂.heap, slotsUsed := s₂.slotsUsed } : State) L mc ms := by
      refine ⟨?_, q2, q3, q4, q5, q6⟩
      obtain ⟨t, ht, -⟩ := State.frames_cons hr
      show ({ U with heap := s₂.heap, slotsUsed := s₂.slotsUsed } : State) = { U.setFrames U.frames with heap := s₂.heap, slotsUsed := s₂.slotsUsed }
      rw [State.setFrames_self ht]
    subst hg
    refine Or.inl ⟨v, ⟨(({ U with heap := s₂.heap, slotsUsed := s₂.slotsUsed } : State).setVm s₂.vm), Ls ++ L, c0 + mc, s0 + ms⟩,
      ⟨X.admits, X.cas, X.clock, X.frames, X.room, X.hears, X.method, X.code, (X.here.setHeapUsed s₂.heap s₂.slotsUsed).setVm hW'.alike, X.tail, State.WarmedH.trans X.warmed hW', X.limits, X.bytes, X.same.trans (hsame.setVm s.vm)⟩,
      ⟨g, mk, s₂, L, rfl, rfl, hqc, rfl, hL, rfl, rfl⟩, ?_⟩
    show Steps p.tables e below _ ((({ U with heap := s₂.heap, slotsUsed := s₂.slotsUsed } : State).setVm s₂.vm).setTop { g with pc := g.pc + len₂, stack := v.toList ++ g.stack })
    rw [← hs₂]
    exact hsteps
  · obtain ⟨e2, q2, q3, q4, q5, q6⟩ := id hsm
    have e3 : s₂ = ({ (U.calling g mk a).setFrames s₂.frames with heap := s₂.heap, slotsUsed := s₂.slotsUsed } : State).setVm s₂.vm := by
      have : s₂ = ({ s₂ with vm := (U.calling g mk a).vm } : State).setVm s₂.vm := rfl
      rw [e2] at this
      exact this
    have hf₂ : s₂.frames = .throwing q :: .java g :: U.frames.tail := hend
    have hW' : U.WarmedH s₂.vm := hW₂
    have hs₂ : s₂ = ((({ U with heap := s₂.heap, slotsUsed := s₂.slotsUsed } : State).setVm s₂.vm).setTop g).pushFrame (.throwing q) := by
      refine e3.trans ?_
      rw [hf₂, State.calling_eq h.top, State.setFrames_setFrames, State.pushFrame, State.frames_setTop _ hr', State.setTop_of_frames _ hr', State.setFrames_setFrames, hr]
      rfl
    have hsame : U.sameButNew ({ U with heap := s₂.heap, slotsUsed := s₂.slotsUsed } : State) L mc ms := by
      refine ⟨?_, q2, q3, q4, q5, q6⟩
      obtain ⟨t, ht, -⟩ := State.frames_cons hr
      show ({ U with heap := s₂.heap, slotsUsed := s₂.slotsUsed } : State) = { U.setFrames U.frames with heap := s₂.heap, slotsUsed := s₂.slotsUsed }
      rw [State.setFrames_self ht]
    subst hg
    refine Or.inr ⟨q, ⟨(({ U with heap := s₂.heap, slotsUsed := s₂.slotsUsed } : State).setVm s₂.vm), Ls ++ L, c0 + mc, s0 + ms⟩,
      ⟨X.admits, X.cas, X.clock, X.frames, X.room, X.hears, X.method, X.code, (X.here.setHeapUsed s₂.heap s₂.slotsUsed).setVm hW'.alike, X.tail, State.WarmedH.trans X.warmed hW', X.limits, X.bytes, X.same.trans (hsame.setVm s.vm)⟩,
      ⟨g, mk, s₂, L, E, ce, rfl, rfl, hx, hce, hcv, hcl, rfl, hL, rfl, rfl⟩, ?_⟩
    show Steps p.tables e below _ (((({ U with heap := s₂.heap, slotsUsed := s₂.slotsUsed } : State).setVm s₂.vm).setTop g).pushFrame (.throwing q))
    rw [← hs₂]
    exact hsteps
end Payer
section Calls
variable {p : Program} {l : Launch} {e : Env} {R : Room} {s : State} {m : MethodId} {args : Array Value} {below : List Frame} {meth : Method} {c : Code} {T : State} {locs : List Loc} {cells slots : Nat}
theorem vx_callV (X : Stand p l e R s m args below meth c T locs cells slots) (hexec : p.tables.exec = Jvm.exec) {own C : String} {index : Nat} {y : MethodName} {bytes : ByteArray} {maxL : Nat} {ret : Option FieldType}
    (hown : s.vm.findClass own = some m.cls) (hlink : (Cond.methodLink own index y).before args s = true) (hinst : (Cond.instanceMethod y).before args s = true) (hsel : (Cond.selects C y y).before args s = true)
    (hcode : (Cond.code y bytes maxL ret).before args s = true) (hy : y.cls ≠ "java/lang/invoke/MethodHandle" ∧ y.cls ≠ "java/lang/invoke/VarHandle")
    {W9 : Nat} {Pre : Pt → Array Value → Prop} {Post : Pt → Array Value → Option Value → Pt → Prop} {PostX : Pt → Array Value → Addr → Pt → Prop} (hK : vx_Back l R p e below s args y 3 W9 Pre Post PostX)
    {b : Addr} {cellB : Cell} (hcell : T.heap[b]? = some cellB) (hobj : cellB.vm.isStatics = false) (hcls : s.vm.findClass C = some cellB.cls)
    {g : JFrame} (hg : g.method = m) (hsize : g.locals.size = c.maxLocals) {argsL rest : List Value} (hlen : ∀ sig, parseMethodDescriptor y.desc = some sig → argsL.length = sig.parameters.length)
    (hstack : g.stack = argsL.reverse ++ .ref b :: rest) (hW : 2 * g.monitorRoom + (rest.map fun v => v.category).sum ≤ W9) (hdg : decode c.code g.pc = .ok (.invokevirtual index, 3))
    (hpre : ∀ vm₁, s.WarmedH vm₁ → Pre ⟨T.setVm vm₁, locs, cells, slots⟩ (Value.ref b :: argsL).toArray) :
    (∃ (v : Option Value) (vm₁ : Vm) (B : Pt), s.WarmedH vm₁ ∧ Stand p l e R s m args below meth c B.U B.locs B.cells B.slots ∧ Post ⟨T.setVm vm₁, locs, cells, slots⟩ (Value.ref b :: argsL).toArray v B ∧
      ∀ target, Steps p.tables e below (B.U.setTop { g with pc := g.pc + 3, stack := v.toList ++ rest }) target → Steps p.tables e below (T.setTop g) target) ∨
    (∃ (q : Addr) (vm₁ : Vm) (B : Pt), s.WarmedH vm₁ ∧ Stand p l e R s m args below meth c B.U B.locs B.cells B.slots ∧ PostX ⟨T.setVm vm₁, locs, cells, slots⟩ (Value.ref b :: argsL).toArray q B ∧
      Steps p.tables e below (T.setTop g) ((B.U.setTop { g with stack := rest }).pushFrame (.throwing q))) := by
  obtain ⟨mk, methM, hnamed, hmethM, hstM, habM⟩ := Cond.instanceMethod_spec hinst
  obtain ⟨methM', cM, hmethM', -, -, -, -, -, -, hsigM⟩ := Cond.code_spec hnamed hcode
  cases hmethM.symm.trans hmethM'
  obtain ⟨c2, r2, m2, q1, q2, q3, q4, kP, hkP, hkPi⟩ := Cond.selects_spec hsel
  cases hcls.symm.trans q1
  cases (State.methodFound?_of_named hnamed hy).symm.trans q2
  cases hnamed.symm.trans q3
  have hselP : selectMethod e.platform s.vm cellB.cls mk = .method mk := by rw [Launch.admits_selectMethod X.admits]; exact q4
  obtain ⟨vm₁, X₁, hstep₁⟩ := X.invokevirtual hexec hown hlink hnamed hmethM hstM hkP hkPi hy (a := b) (cell := cellB) hcell
    (fun z h => by rw [h] at hobj; cases hobj) hselP hmethM habM hkP hkPi (g := g) hg (argsL := argsL) (rest := rest) (hlen _ hsigM) hstack hdg
  rcases hK m meth c ⟨T.setVm vm₁, locs, cells, slots⟩ { g with stack := rest } (.invokevirtual index) mk (Value.ref b :: argsL).toArray X₁ hg hsize hdg hW (X₁.named hnamed) (hpre vm₁ X₁.warmed) with ⟨v, B, X', hpost, hsteps⟩ | ⟨q, B, X', hpost, hsteps⟩
  · exact Or.inl ⟨v, vm₁, B, X₁.warmed, X', hpost, fun target h => hstep₁ _ fun acts => by rw [doInvoke_state]; exact hsteps.trans h⟩
  · exact Or.inr ⟨q, vm₁, B, X₁.warmed, X', hpost, hstep₁ _ fun acts => by rw [doInvoke_state]; exact hsteps⟩
theorem vx_callS (X : Stand p l e R s m args below meth c T locs cells slots) (hexec : p.tables.exec = Jvm.exec) {own : String} {index : Nat} {y : MethodName} {bytes : ByteArray} {maxL : Nat} {ret : Option FieldType}
    (hown : s.vm.findClass own = some m.cls) (hlink : (Cond.methodLink own index y).before args s = true) (hstat : (Cond.static y).before args s = true) (hinit : (Cond.initialized y.cls).before args s = true)
    (hcode : (Cond.code y bytes maxL ret).before args s = true) (hy : y.cls ≠ "java/lang/invoke/MethodHandle" ∧ y.cls ≠ "java/lang/invoke/VarHandle")
    {W9 : Nat} {Pre : Pt → Array Value → Prop} {Post : Pt → Array Value → Option Value → Pt → Prop} {PostX : Pt → Array Value → Addr → Pt → Prop} (hK : vx_Back l R p e below s args y 3 W9 Pre Post PostX)
    {g : JFrame} (hg : g.method = m) (hsize : g.locals.size = c.maxLocals) {argsL rest : List Value} (hlen : ∀ sig, parseMethodDescriptor y.desc = some sig → argsL.length = sig.parameters.length)
    (hstack : g.stack = argsL.reverse ++ rest) (hW : 2 * g.monitorRoom + (rest.map fun v => v.category).sum ≤ W9) (hdg : decode c.code g.pc = .ok (.invokestatic index, 3))
    (hpre : ∀ vm₁, s.WarmedH vm₁ → Pre ⟨T.setVm vm₁, locs, cells, slots⟩ argsL.toArray) :
    (∃ (v : Option Value) (vm₁ : Vm) (B : Pt), s.WarmedH vm₁ ∧ Stand p l e R s m args below meth c B.U B.locs B.cells B.slots ∧ Post ⟨T.setVm vm₁, locs, cells, slots⟩ argsL.toArray v B ∧
      ∀ target, Steps p.tables e below (B.U.setTop { g with pc := g.pc + 3, stack := v.toList ++ rest }) target → Steps p.tables e below (T.setTop g) target) ∨
    (∃ (q : Addr) (vm₁ : Vm) (B : Pt), s.WarmedH vm₁ ∧ Stand p l e R s m args below meth c B.U B.locs B.cells B.slots ∧ PostX ⟨T.setVm vm₁, locs, cells, slots⟩ argsL.toArray q B ∧
      Steps p.tables e below (T.setTop g) ((B.U.setTop { g with stack := rest }).pushFrame (.throwing q))) := by
  obtain ⟨mk, hnamed⟩ := Cond.code_named hcode
  obtain ⟨methM, cM, hmethM, -, -, -, -, -, -, hsigM⟩ := Cond.code_spec hnamed hcode
  have hstatic : methM.isStatic = true := Cond.static_spec hnamed hmethM hstat
  obtain ⟨kP, hkP, -⟩ := className_of_methodNamed hnamed
  have hinitP : kP.init = .initialized := Cond.initialized_spec (findClass_of_methodNamed hnamed) hkP hinit
  obtain ⟨vm₁, X₁, hstep₁⟩ := X.invokestatic hexec hown hlink hnamed hmethM hstatic hkP hinitP hy (g := g) hg (argsL := argsL) (rest := rest) (hlen _ hsigM) hstack hdg
  rcases hK m meth c ⟨T.setVm vm₁, locs, cells, slots⟩ { g with stack := rest } (.invokestatic index) mk argsL.toArray X₁ hg hsize hdg hW (X₁.named hnamed) (hpre vm₁ X₁.warmed) with ⟨v, B, X', hpost, hsteps⟩ | ⟨q, B, X', hpost, hsteps⟩
  · exact Or.inl ⟨v, vm₁, B, X₁.warmed, X', hpost, fun target h => hstep₁ _ fun acts => by rw [doInvoke_state]; exact hsteps.trans h⟩
  · exact Or.inr ⟨q, vm₁, B, X₁.warmed, X', hpost, hstep₁ _ fun acts => by rw [doInvoke_state]; exact hsteps⟩
end Calls
theorem vx_cls {s : State} {T : State} {vm₁ : Vm} {E : String} {k : ClassId} (hW : s.WarmedH vm₁) (h : (T.setVm vm₁).vm.findClass E = some k) : s.vm.findClass E = some k := by
  have h1 : vm₁.findClass E = some k := h
  rw [hW.alike.findClass] at h1
  exact h1
/-- the method's frame g, with q thrown over it -/
def vx_W (p : Program) (l : Launch) (e : Env) (R : Room) (s : State) (m : MethodId) (args : Array Value) (below : List Frame) (meth : Method) (c : Code) (H : Heap) (locs : List Loc) (cells slots : Nat) (Q : State → Prop) (g : JFrame) (q : Addr) : Prop :=
  ∀ T : State, T.heap = H → Stand p l e R s m args below meth c T locs cells slots → ∃ t, Steps p.tables e below ((T.setTop g).pushFrame (.throwing q)) t ∧ Q t
def vx_Run (p : Program) (l : Launch) (e : Env) (R : Room) (s : State) (m : MethodId) (args : Array Value) (below : List Frame) (meth : Method) (c : Code) (H : Heap) (locs : List Loc) (cells slots mc ms : Nat) (g : JFrame) (rest : List Value) (Qa : State → Outcome → State → Prop) (XC : String → State → State → Prop) (free : Addr → Prop) : Prop :=
  ∀ T : State, T.heap = H → Stand p l e R s m args below meth c T locs cells slots →
    (∃ (v : Option Value) (st₀ t T' : State) (L : List Loc), st₀.heap = H ∧ Stand p l e R s m args below meth c T' (locs ++ L) (cells + mc) (slots + ms) ∧ (∀ q ∈ L, free q.base) ∧ T'.heap = t.heap ∧ T'.vm = t.vm ∧ Qa st₀ (.returned v) t ∧
      Goes p e below T g T' { g with pc := g.pc + 3, stack := v.toList ++ rest }) ∨
    (∃ (q : Addr) (st₀ t T' : State) (L : List Loc) (E : String) (ce : Cell), st₀.heap = H ∧ Stand p l e R s m args below meth c T' (locs ++ L) (cells + mc) (slots + ms) ∧ (∀ z ∈ L, free z.base) ∧ T'.heap = t.heap ∧ T'.vm = t.vm ∧ XC E st₀ t ∧ t.heap[q]? = some ce ∧ ce.vm = .none ∧ s.vm.findClass E = some ce.cls ∧
      Steps p.tables e below (T.setTop g) ((T'.setTop { g with stack := rest }).pushFrame (.throwing q)))
def vx_X {S : Type} (px : S → Prop) (B : String → S → State → Prop) (A : Nat → Prop) : String → State → State → Prop := fun E st t => ∃ u : S, px u ∧ B E u t ∧ va_F A st t
section Runs
variable {p : Program} {l : Launch} {e : Env} {R : Room} {s : State} {m : MethodId} {args : Array Value} {below : List Frame} {meth : Method} {c : Code} {H : Heap} {locs : List Loc} {cells slots : Nat}
variable {y : MethodName} {bytes cc : ByteArray} {maxL nL mc ms n index : Nat} {ret : Option FieldType} {ws : List Cond} {rm : Room} {Pc : Array Value → State → Prop} {Qc : Array Value → State → Outcome → State → Prop} {XC : String → State → State → Prop} {free : Addr → Prop} {Ts : List Cond} {own C : String} {b : Addr} {As rest : List Value} {g : JFrame}
theorem vx_callBack (cb : CallB R s args own index y bytes maxL ret ws rm mc ms n) (hM : vx_Met l y ws rm Pc Qc XC mc ms free) (hbl : FrameBlind Pc) : vx_Back l R p e below s args y 3 8 (PreOf R mc ms Pc) (PostOf Qc mc ms free) (vx_Post XC mc ms free) := by
  obtain ⟨hrc, hrs, hfr, hlo, hws, hcw, -, hini, -⟩ := cb
  exact vx_back (bytes := bytes) (maxL := maxL) (ret := ret) hM hbl hrc hrs hfr hlo hws hcw (fun a' U hW => word_at hW (Or.inl (by first | rfl | simp [Cond.onTables, Cond.keeps, Cond.steady])) hini)
theorem vx_runV (S : CallFix p m c cc nL s args Ts own) (hM : vx_Met l y ws rm Pc Qc XC mc ms free) (cw : CallW R s args own C index y bytes maxL ret ws rm mc ms n) (hp : PreV s H C b Pc As)
    (hg : g.method = m) (hn : As.length = n) (hsize : g.locals.size = nL) (hstack : g.stack = As.reverse ++ .ref b :: rest) (hW : 2 * g.monitorRoom + (rest.map fun v => v.category).sum ≤ 8) (hdg : decode cc g.pc = .ok (.invokevirtual index, 3)) (hf : cells + mc ≤ R.cells ∧ slots + ms ≤ R.slots) :
    vx_Run p l e R s m args below meth c H locs cells slots mc ms g rest (Qc (Value.ref b :: As).toArray) XC free := by
  have hK : vx_Back l R p e below s args y 3 8 (PreOf R mc ms Pc) (PostOf Qc mc ms free) (vx_Post XC mc ms free) := vx_callBack cw.1 hM hp.1
  obtain ⟨⟨-, -, -, -, -, -, hcode, -, hy, hlen, hl⟩, hin, hse⟩ := cw
  obtain ⟨hx, hb, hml, ho, -⟩ := S
  obtain ⟨-, ⟨cellB, hcB, hoB, hclB⟩, hPc⟩ := hp
  intro T hT X
  rcases vx_callV X hx (C := C) (bytes := bytes) (maxL := maxL) (ret := ret) ho hl hin hse hcode hy hK (by rw [hT]; exact hcB) hoB hclB hg (hsize.trans hml.symm) (argsL := As) (rest := rest) (fun sig h => hn.trans (hlen sig h)) hstack hW (by rw [hb]; exact hdg)
    (fun vm₁ hW₁ => ⟨hf.1, hf.2, hPc (T.setVm vm₁) hT hW₁⟩) with ⟨v, vm₁, ⟨U', l2, c2, s2⟩, hW₁, X', ⟨g', mk, t, L, e1, e2, hq, h1, hL, h2, h3⟩, st⟩ | ⟨q, vm₁, ⟨U', l2, c2, s2⟩, hW₁, X', ⟨g', mk, t, L, E, ce, e1, e2, hq, hce, hcv, hcl, h1, hL, h2, h3⟩, st⟩
  · dsimp only [Pt.U, Pt.locs, Pt.cells, Pt.slots] at X' e1 e2 h1 h2 h3 st
    subst h1; subst h2; subst h3
    exact Or.inl ⟨v, (T.setVm vm₁).calling g' mk (Value.ref b :: As).toArray, t, U', L, hT, X', hL, e1, e2, hq, st⟩
  · dsimp only [Pt.U, Pt.locs, Pt.cells, Pt.slots] at X' e1 e2 h1 h2 h3 st hcl
    subst h1; subst h2; subst h3
    exact Or.inr ⟨q, (T.setVm vm₁).calling g' mk (Value.ref b :: As).toArray, t, U', L, E, ce, hT, X', hL, e1, e2, hq, hce, hcv, vx_cls hW₁ hcl, st⟩
theorem vx_runS (S : CallFix p m c cc nL s args Ts own) (hM : vx_Met l y ws rm Pc Qc XC mc ms free) (cw : CallB R s args own index y bytes maxL ret ws rm mc ms n ∧ (Cond.static y).before args s = true) (hp : PreS s H Pc As)
    (hg : g.method = m) (hn : As.length = n) (hsize : g.locals.size = nL) (hstack : g.stack = As.reverse ++ rest) (hW : 2 * g.monitorRoom + (rest.map fun v => v.category).sum ≤ 8) (hdg : decode cc g.pc = .ok (.invokestatic index, 3)) (hf : cells + mc ≤ R.cells ∧ slots + ms ≤ R.slots) :
    vx_Run p l e R s m args below meth c H locs cells slots mc ms g rest (Qc As.toArray) XC free := by
  have hK : vx_Back l R p e below s args y 3 8 (PreOf R mc ms Pc) (PostOf Qc mc ms free) (vx_Post XC mc ms free) := vx_callBack cw.1 hM hp.1
  obtain ⟨⟨-, -, -, -, -, -, hcode, hini, hy, hlen, hl⟩, hstt⟩ := cw
  obtain ⟨hx, hb, hml, ho, -⟩ := S
  intro T hT X
  rcases vx_callS X hx (bytes := bytes) (maxL := maxL) (ret := ret) ho hl hstt hini hcode hy hK hg (hsize.trans hml.symm) (argsL := As) (rest := rest) (fun sig h => hn.trans (hlen sig h)) hstack hW (by rw [hb]; exact hdg)
    (fun vm₁ hW₁ => ⟨hf.1, hf.2, hp.2 (T.setVm vm₁) hT hW₁⟩) with ⟨v, vm₁, ⟨U', l2, c2, s2⟩, hW₁, X', ⟨g', mk, t, L, e1, e2, hq, h1, hL, h2, h3⟩, st⟩ | ⟨q, vm₁, ⟨U', l2, c2, s2⟩, hW₁, X', ⟨g', mk, t, L, E, ce, e1, e2, hq, hce, hcv, hcl, h1, hL, h2, h3⟩, st⟩
  · dsimp only [Pt.U, Pt.locs, Pt.cells, Pt.slots] at X' e1 e2 h1 h2 h3 st
    subst h1; subst h2; subst h3
    exact Or.inl ⟨v, (T.setVm vm₁).calling g' mk As.toArray, t, U', L, hT, X', hL, e1, e2, hq, st⟩
  · dsimp only [Pt.U, Pt.locs, Pt.cells, Pt.slots] at X' e1 e2 h1 h2 h3 st hcl
    subst h1; subst h2; subst h3
    exact Or.inr ⟨q, (T.setVm vm₁).calling g' mk As.toArray, t, U', L, E, ce, hT, X', hL, e1, e2, hq, hce, hcv, vx_cls hW₁ hcl, st⟩
end Runs
section Rows
variable {p : Program} {l : Launch} {e : Env} {R : Room} {s : State} {m : MethodId} {args : Array Value} {below : List Frame} {meth : Method} {c : Code} {H : Heap} {locs : List Loc} {cells slots : Nat} {Q : State → Prop}
variable {mc ms : Nat} {free : Addr → Prop} {A0 A1 : Nat → Prop} {H0 : Heap} {a : Array Value} {pc : Nat} {ls : Array Slot} {st0 rest : List Value}
theorem vx_keep {st₀ t T' : State} {L : List Loc} (h0 : st₀.heap = H) (e1 : T'.heap = t.heap) (hS : va_S A0 H0 H locs) (hA : ∀ q, q < H.size → A1 q → A0 q) (hf : ∀ q, free q → A0 q) (hL : ∀ q ∈ L, free q.base) (hF : va_F A1 st₀ t) :
    H.size ≤ T'.heap.size ∧ (∀ q : Nat, q < H.size → ¬ A1 q → T'.heap[q]? = H[q]?) ∧ va_S A0 H0 T'.heap (locs ++ L) := by
  obtain ⟨hz, hk⟩ := hF
  rw [h0] at hz hk
  exact ⟨by rw [e1]; exact hz, fun q h1 h2 => by rw [e1]; exact hk q h1 h2,
    ⟨Nat.le_trans hS.1 (by rw [e1]; exact hz), fun q h1 h2 => by rw [e1, hk q (Nat.lt_of_lt_of_le h1 hS.1) (fun z => h2 (hA q (Nat.lt_of_lt_of_le h1 hS.1) z))]; exact hS.2.1 q h1 h2, fun q hq => by
      rcases List.mem_append.mp hq with h | h
      · exact hS.2.2 q h
      · exact hf _ (hL q h)⟩⟩
theorem vx_calli {S SX : Type} {post : Int32 → S → Prop} {px : SX → Prop} {B : S → State → Prop} {BX : String → SX → State → Prop} {AX : Nat → Prop} (hr : vx_Run p l e R s m args below meth c H locs cells slots mc ms (F0 m pc ls st0) rest (va_Qi post B A1 a) (vx_X px BX AX) free) (hS : va_S A0 H0 H locs) (hA : ∀ q, q < H.size → A1 q → A0 q) (hf : ∀ q, free q → A0 q) (hAX : ∀ q, q < H.size → AX q → A0 q)
    (kx : ∀ (E : String) (ce : Cell) (q9 : Addr) (u : SX) (t : State) (H1 : Heap) (locs1 : List Loc), t.heap = H1 → s.vm.Alike t.vm → px u → BX E u t → H.size ≤ H1.size → (∀ q : Nat, q < H.size → ¬ AX q → H1[q]? = H[q]?) → va_S A0 H0 H1 locs1 → H1[q9]? = some ce → ce.vm = .none → s.vm.findClass E = some ce.cls → vx_W p l e R s m args below meth c H1 locs1 (cells + mc) (slots + ms) Q (F0 m pc ls rest) q9)
    (kk : ∀ (r : Int32) (u : S) (t : State) (H1 : Heap) (locs1 : List Loc), t.heap = H1 → s.vm.Alike t.vm → post r u → B u t → H.size ≤ H1.size → (∀ q : Nat, q < H.size → ¬ A1 q → H1[q]? = H[q]?) → va_S A0 H0 H1 locs1 → W p l e R s m args below meth c H1 locs1 (cells + mc) (slots + ms) Q (F0 m (pc + 3) ls (.int r :: rest))) : W p l e R s m args below meth c H locs cells slots Q (F0 m pc ls st0) := by
  intro T hT X
  rcases hr T hT X with ⟨v, st₀, t, T', L, h0, X', hL, e1, e2, ⟨⟨r, u, hv, hp, hb⟩, hF⟩, st⟩ | ⟨q, st₀, t, T', L, E, ce, h0, X', hL, e1, e2, ⟨u, hp, hb, hF⟩, hce, hcv, hcl, st⟩
  · cases hv
    obtain ⟨k1, k2, k3⟩ := vx_keep h0 e1 hS hA hf hL hF
    obtain ⟨t2, a1, b1⟩ := kk r u t T'.heap (locs ++ L) e1.symm (by rw [← e2]; exact X'.warmed.alike) hp hb k1 k2 k3 T' rfl X'
    exact ⟨t2, st t2 a1, b1⟩
  · obtain ⟨k1, k2, k3⟩ := vx_keep h0 e1 hS hAX hf hL hF
    obtain ⟨t2, a1, b1⟩ := kx E ce q u t T'.heap (locs ++ L) e1.symm (by rw [← e2]; exact X'.warmed.alike) hp hb k1 k2 k3 (by rw [e1]; exact hce) hcv hcl T' rfl X'
    exact ⟨t2, st.trans a1, b1⟩
theorem vx_calll {S SX : Type} {post : Int64 → S → Prop} {px : SX → Prop} {B : S → State → Prop} {BX : String → SX → State → Prop} {AX : Nat → Prop} (hr : vx_Run p l e R s m args below meth c H locs cells slots mc ms (F0 m pc ls st0) rest (va_Ql post B A1 a) (vx_X px BX AX) free) (hS : va_S A0 H0 H locs) (hA : ∀ q, q < H.size → A1 q → A0 q) (hf : ∀ q, free q → A0 q) (hAX : ∀ q, q < H.size → AX q → A0 q)
    (kx : ∀ (E : String) (ce : Cell) (q9 : Addr) (u : SX) (t : State) (H1 : Heap) (locs1 : List Loc), t.heap = H1 → s.vm.Alike t.vm → px u → BX E u t → H.size ≤ H1.size → (∀ q : Nat, q < H.size → ¬ AX q → H1[q]? = H[q]?) → va_S A0 H0 H1 locs1 → H1[q9]? = some ce → ce.vm = .none → s.vm.findClass E = some ce.cls → vx_W p l e R s m args below meth c H1 locs1 (cells + mc) (slots + ms) Q (F0 m pc ls rest) q9)
    (kk : ∀ (r : Int64) (u : S) (t : State) (H1 : Heap) (locs1 : List Loc), t.heap = H1 → s.vm.Alike t.vm → post r u → B u t → H.size ≤ H1.size → (∀ q : Nat, q < H.size → ¬ A1 q → H1[q]? = H[q]?) → va_S A0 H0 H1 locs1 → W p l e R s m args below meth c H1 locs1 (cells + mc) (slots + ms) Q (F0 m (pc + 3) ls (.long r :: rest))) : W p l e R s m args below meth c H locs cells slots Q (F0 m pc ls st0) := by
  intro T hT X
  rcases hr T hT X with ⟨v, st₀, t, T', L, h0, X', hL, e1, e2, ⟨⟨r, u, hv, hp, hb⟩, hF⟩, st⟩ | ⟨q, st₀, t, T', L, E, ce, h0, X', hL, e1, e2, ⟨u, hp, hb, hF⟩, hce, hcv, hcl, st⟩
  · cases hv
    obtain ⟨k1, k2, k3⟩ := vx_keep h0 e1 hS hA hf hL hF
    obtain ⟨t2, a1, b1⟩ := kk r u t T'.heap (locs ++ L) e1.symm (by rw [← e2]; exact X'.warmed.alike) hp hb k1 k2 k3 T' rfl X'
    exact ⟨t2, st t2 a1, b1⟩
  · obtain ⟨k1, k2, k3⟩ := vx_keep h0 e1 hS hAX hf hL hF
    obtain ⟨t2, a1, b1⟩ := kx E ce q u t T'.heap (locs ++ L) e1.symm (by rw [← e2]; exact X'.warmed.alike) hp hb k1 k2 k3 (by rw [e1]; exact hce) hcv hcl T' rfl X'
    exact ⟨t2, st.trans a1, b1⟩
theorem vx_callf {S SX : Type} {post : UInt32 → S → Prop} {px : SX → Prop} {B : S → State → Prop} {BX : String → SX → State → Prop} {AX : Nat → Prop} (hr : vx_Run p l e R s m args below meth c H locs cells slots mc ms (F0 m pc ls st0) rest (va_Qf post B A1 a) (vx_X px BX AX) free) (hS : va_S A0 H0 H locs) (hA : ∀ q, q < H.size → A1 q → A0 q) (hf : ∀ q, free q → A0 q) (hAX : ∀ q, q < H.size → AX q → A0 q)
    (kx : ∀ (E : String) (ce : Cell) (q9 : Addr) (u : SX) (t : State) (H1 : Heap) (locs1 : List Loc), t.heap = H1 → s.vm.Alike t.vm → px u → BX E u t → H.size ≤ H1.size → (∀ q : Nat, q < H.size → ¬ AX q → H1[q]? = H[q]?) → va_S A0 H0 H1 locs1 → H1[q9]? = some ce → ce.vm = .none → s.vm.findClass E = some ce.cls → vx_W p l e R s m args below meth c H1 locs1 (cells + mc) (slots + ms) Q (F0 m pc ls rest) q9)
    (kk : ∀ (r : UInt32) (u : S) (t : State) (H1 : Heap) (locs1 : List Loc), t.heap = H1 → s.vm.Alike t.vm → post r u → B u t → H.size ≤ H1.size → (∀ q : Nat, q < H.size → ¬ A1 q → H1[q]? = H[q]?) → va_S A0 H0 H1 locs1 → W p l e R s m args below meth c H1 locs1 (cells + mc) (slots + ms) Q (F0 m (pc + 3) ls (.float r :: rest))) : W p l e R s m args below meth c H locs cells slots Q (F0 m pc ls st0) := by
  intro T hT X
  rcases hr T hT X with ⟨v, st₀, t, T', L, h0, X', hL, e1, e2, ⟨⟨r, u, hv, hp, hb⟩, hF⟩, st⟩ | ⟨q, st₀, t, T', L, E, ce, h0, X', hL, e1, e2, ⟨u, hp, hb, hF⟩, hce, hcv, hcl, st⟩
  · cases hv
    obtain ⟨k1, k2, k3⟩ := vx_keep h0 e1 hS hA hf hL hF
    obtain ⟨t2, a1, b1⟩ := kk r u t T'.heap (locs ++ L) e1.symm (by rw [← e2]; exact X'.warmed.alike) hp hb k1 k2 k3 T' rfl X'
    exact ⟨t2, st t2 a1, b1⟩
  · obtain ⟨k1, k2, k3⟩ := vx_keep h0 e1 hS hAX hf hL hF
    obtain ⟨t2, a1, b1⟩ := kx E ce q u t T'.heap (locs ++ L) e1.symm (by rw [← e2]; exact X'.warmed.alike) hp hb k1 k2 k3 (by rw [e1]; exact hce) hcv hcl T' rfl X'
    exact ⟨t2, st.trans a1, b1⟩
theorem vx_calld {S SX : Type} {post : UInt64 → S → Prop} {px : SX → Prop} {B : S → State → Prop} {BX : String → SX → State → Prop} {AX : Nat → Prop} (hr : vx_Run p l e R s m args below meth c H locs cells slots mc ms (F0 m pc ls st0) rest (va_Qd post B A1 a) (vx_X px BX AX) free) (hS : va_S A0 H0 H locs) (hA : ∀ q, q < H.size → A1 q → A0 q) (hf : ∀ q, free q → A0 q) (hAX : ∀ q, q < H.size → AX q → A0 q)
    (kx : ∀ (E : String) (ce : Cell) (q9 : Addr) (u : SX) (t : State) (H1 : Heap) (locs1 : List Loc), t.heap = H1 → s.vm.Alike t.vm → px u → BX E u t → H.size ≤ H1.size → (∀ q : Nat, q < H.size → ¬ AX q → H1[q]? = H[q]?) → va_S A0 H0 H1 locs1 → H1[q9]? = some ce → ce.vm = .none → s.vm.findClass E = some ce.cls → vx_W p l e R s m args below meth c H1 locs1 (cells + mc) (slots + ms) Q (F0 m pc ls rest) q9)
    (kk : ∀ (r : UInt64) (u : S) (t : State) (H1 : Heap) (locs1 : List Loc), t.heap = H1 → s.vm.Alike t.vm → post r u → B u t → H.size ≤ H1.size → (∀ q : Nat, q < H.size → ¬ A1 q → H1[q]? = H[q]?) → va_S A0 H0 H1 locs1 → W p l e R s m args below meth c H1 locs1 (cells + mc) (slots + ms) Q (F0 m (pc + 3) ls (.double r :: rest))) : W p l e R s m args below meth c H locs cells slots Q (F0 m pc ls st0) := by
  intro T hT X
  rcases hr T hT X with ⟨v, st₀, t, T', L, h0, X', hL, e1, e2, ⟨⟨r, u, hv, hp, hb⟩, hF⟩, st⟩ | ⟨q, st₀, t, T', L, E, ce, h0, X', hL, e1, e2, ⟨u, hp, hb, hF⟩, hce, hcv, hcl, st⟩
  · cases hv
    obtain ⟨k1, k2, k3⟩ := vx_keep h0 e1 hS hA hf hL hF
    obtain ⟨t2, a1, b1⟩ := kk r u t T'.heap (locs ++ L) e1.symm (by rw [← e2]; exact X'.warmed.alike) hp hb k1 k2 k3 T' rfl X'
    exact ⟨t2, st t2 a1, b1⟩
  · obtain ⟨k1, k2, k3⟩ := vx_keep h0 e1 hS hAX hf hL hF
    obtain ⟨t2, a1, b1⟩ := kx E ce q u t T'.heap (locs ++ L) e1.symm (by rw [← e2]; exact X'.warmed.alike) hp hb k1 k2 k3 (by rw [e1]; exact hce) hcv hcl T' rfl X'
    exact ⟨t2, st.trans a1, b1⟩
theorem vx_callv {S SX : Type} {post : S → Prop} {px : SX → Prop} {B : S → State → Prop} {BX : String → SX → State → Prop} {AX : Nat → Prop} (hr : vx_Run p l e R s m args below meth c H locs cells slots mc ms (F0 m pc ls st0) rest (va_Qv post B A1 a) (vx_X px BX AX) free) (hS : va_S A0 H0 H locs) (hA : ∀ q, q < H.size → A1 q → A0 q) (hf : ∀ q, free q → A0 q) (hAX : ∀ q, q < H.size → AX q → A0 q)
    (kx : ∀ (E : String) (ce : Cell) (q9 : Addr) (u : SX) (t : State) (H1 : Heap) (locs1 : List Loc), t.heap = H1 → s.vm.Alike t.vm → px u → BX E u t → H.size ≤ H1.size → (∀ q : Nat, q < H.size → ¬ AX q → H1[q]? = H[q]?) → va_S A0 H0 H1 locs1 → H1[q9]? = some ce → ce.vm = .none → s.vm.findClass E = some ce.cls → vx_W p l e R s m args below meth c H1 locs1 (cells + mc) (slots + ms) Q (F0 m pc ls rest) q9)
    (kk : ∀ (u : S) (t : State) (H1 : Heap) (locs1 : List Loc), t.heap = H1 → s.vm.Alike t.vm → post u → B u t → H.size ≤ H1.size → (∀ q : Nat, q < H.size → ¬ A1 q → H1[q]? = H[q]?) → va_S A0 H0 H1 locs1 → W p l e R s m args below meth c H1 locs1 (cells + mc) (slots + ms) Q (F0 m (pc + 3) ls (rest))) : W p l e R s m args below meth c H locs cells slots Q (F0 m pc ls st0) := by
  intro T hT X
  rcases hr T hT X with ⟨v, st₀, t, T', L, h0, X', hL, e1, e2, ⟨⟨u, hv, hp, hb⟩, hF⟩, st⟩ | ⟨q, st₀, t, T', L, E, ce, h0, X', hL, e1, e2, ⟨u, hp, hb, hF⟩, hce, hcv, hcl, st⟩
  · cases hv
    obtain ⟨k1, k2, k3⟩ := vx_keep h0 e1 hS hA hf hL hF
    obtain ⟨t2, a1, b1⟩ := kk u t T'.heap (locs ++ L) e1.symm (by rw [← e2]; exact X'.warmed.alike) hp hb k1 k2 k3 T' rfl X'
    exact ⟨t2, st t2 a1, b1⟩
  · obtain ⟨k1, k2, k3⟩ := vx_keep h0 e1 hS hAX hf hL hF
    obtain ⟨t2, a1, b1⟩ := kx E ce q u t T'.heap (locs ++ L) e1.symm (by rw [← e2]; exact X'.warmed.alike) hp hb k1 k2 k3 (by rw [e1]; exact hce) hcv hcl T' rfl X'
    exact ⟨t2, st.trans a1, b1⟩
/-- caught by the row x of this method's table; the rows ahead don't take it -/
theorem vx_catch {own name : String} {E : String} {ce : Cell} {q : Addr} (hown : s.vm.findClass own = some m.cls) (pre : List ExceptionTableEntry) (x : ExceptionTableEntry) (suf : List ExceptionTableEntry) (hsplit : c.exceptionTable.toList = pre ++ x :: suf)
    (hpass : ∀ z ∈ pre, covers z pc = false ∨ (z.catchType ≠ 0 ∧ ∃ nm : String, (Cond.classLink own z.catchType nm).before args s = true ∧ va_Nc E nm s)) (hx : covers x pc = true) (h0 : x.catchType ≠ 0)
    (hlink : (Cond.classLink own x.catchType name).before args s = true) (hcast : (Cond.castable E name).before args s = true) (hcell : H[q]? = some ce) (hv : ce.vm = .none) (hcl : s.vm.findClass E = some ce.cls)
    (kk : W p l e R s m args below meth c H locs cells slots Q (F0 m x.handlerPc ls [.ref q])) : vx_W p l e R s m args below meth c H locs cells slots Q (F0 m pc ls rest) q := by
  intro T hT X
  have hpl : e.platform.magicAccessors = ({} : Platform).magicAccessors := by rw [X.admits.platform]
  obtain ⟨c3, c4, hc3, hc4, hasg⟩ := Cond.castable_spec hcast
  cases Option.some.inj (hc3.symm.trans hcl)
  obtain ⟨c5, hc5, hcl5⟩ := Cond.classLink_spec hown hlink e.platform hpl
  cases Option.some.inj (hc4.symm.trans hc5)
  obtain ⟨vm', X', st⟩ := X.thenCaughtThrough q (g := F0 m pc ls rest) rfl (Steps.refl _) (by rw [hT]; exact hcell) (by rw [hv]; rfl) (by obtain ⟨k9, h9, -⟩ := Vm.findClass_spec hcl; exact ⟨k9, h9⟩) pre x suf hsplit
    (fun z hz => by
      rcases hpass z hz with h | ⟨hz0, nm, hl1, hn1⟩
      · exact Or.inl h
      · obtain ⟨c6, hc6, hcl6⟩ := Cond.classLink_spec hown hl1 e.platform hpl
        obtain ⟨a8, b8, h1, h2, h3⟩ := hn1
        cases Option.some.inj (h1.symm.trans hcl)
        cases Option.some.inj (h2.symm.trans hc6)
        exact Or.inr ⟨hz0, _, hcl6, h3⟩) hx (Or.inr ⟨h0, c4, hcl5, hasg⟩)
  obtain ⟨t, a1, b1⟩ := kk (T.setVm vm') hT X'
  exact ⟨t, st.trans a1, b1⟩
end Rows
section Ends
variable {p : Program} {l : Launch} {e : Env} {R : Room} {s : State} {m : MethodId} {args : Array Value} {below : List Frame} {meth : Method} {c : Code} {H : Heap} {locs : List Loc} {cells slots : Nat} {Q : State → Prop}
variable {mc ms : Nat} {free : Addr → Prop} {A0 A1 : Nat → Prop} {H0 : Heap} {a : Array Value} {ls : Array Slot} {st0 rest : List Value}
variable {Qc : Array Value → State → Outcome → State → Prop} {XC : String → State → State → Prop}
/-- what a body that may throw owes at its end -/
def vx_MQ (below : List Frame) (Qc : Array Value → State → Outcome → State → Prop) (XC : String → State → State → Prop) (a : Array Value) (s : State) (mc ms : Nat) (free : Addr → Prop) : State → Prop := fun t =>
  ∃ o, t.status = .running ∧ Ended t below o ∧ vx_Q Qc XC mc ms free a s o t
theorem vx_ret {g : JFrame} {mc ms : Nat} (k : W p l e R s m args below meth c H locs cells slots (MQ below Qc args s mc ms free) g) : W p l e R s m args below meth c H locs cells slots (vx_MQ below Qc XC args s mc ms free) g := by
  intro T hT X
  obtain ⟨t, a1, o, b1, b2, b3, b4⟩ := k T hT X
  exact ⟨t, a1, o, b1, b2, Or.inl ⟨b3, b4⟩⟩
/-- not caught here: it goes on to the caller -/
theorem vx_widen {g : JFrame} {q : Addr} {k n : Nat} (h1 : cells ≤ k) (h2 : slots ≤ n) (kk : vx_W p l e R s m args below meth c H locs k n Q g q) : vx_W p l e R s m args below meth c H locs cells slots Q g q := fun T hT X => kk T hT (stand_widen X h1 h2)
theorem vx_out {pc : Nat} {E : String} {ce : Cell} {q : Addr} {mc ms : Nat} (hout : ∀ x ∈ c.exceptionTable.toList, covers x pc = false) (hlocks : meth.locks = false) (hcell : H[q]? = some ce) (hv : ce.vm = .none) (hcl : s.vm.findClass E = some ce.cls)
    (hx : ∀ t : State, t.heap = H → s.vm.Alike t.vm → XC E s t) (hf : ∀ z ∈ locs, free z.base) (hc : cells ≤ mc) (hs : slots ≤ ms) :
    vx_W p l e R s m args below meth c H locs cells slots (vx_MQ below Qc XC args s mc ms free) (F0 m pc ls rest) q := by
  intro T hT X
  obtain ⟨st1, hrun, hend, hW, hsm⟩ := X.leaveThrown q (g := F0 m pc ls rest) rfl rfl rfl hout hlocks
  have hcell9 : (T.setFrames (.throwing q :: below)).heap[q]? = some ce := by
    show T.heap[q]? = some ce
    rw [hT]; exact hcell
  exact ⟨_, st1, .threw q, hrun, hend, Or.inr ⟨q, rfl, E, ce, locs, hx _ hT hW.alike, hcell9, hv, hcl, hW, hsm.mono hc hs, hf⟩⟩
theorem vx_frame {U : State} {k n : Nat} (h : s.sameButNew ({ U with vm := s.vm } : State) locs k n) : s.heap.size ≤ U.heap.size ∧ ∀ q : Nat, q < s.heap.size → (∀ z ∈ locs, z.base ≠ q) → U.heap[q]? = s.heap[q]? := by
  obtain ⟨-, h2, -, -, -, h6⟩ := h
  refine ⟨h2, fun q hq hz => ?_⟩
  obtain ⟨c9, e1, e2, e3, e4⟩ := h6 q _ (Array.getElem?_eq_getElem hq)
  have hs : c9.slots = (s.heap[q]).slots := Array.ext_getElem? fun i => e4 i fun hm => hz _ hm rfl
  have h9 : c9 = s.heap[q] := by
    rw [hs] at e2
    exact e2
  have e5 : U.heap[q]? = some c9 := e1
  rw [e5, h9, Array.getElem?_eq_getElem hq]
/-- the words of a throw but the four that speak of the heap -/
def vx_no (w : Cond) : Bool := decide (w ≠ .isRef (.static Bundle.tN "UNASSIGNED_STACK" Bundle.steD)) && decide (w ≠ .isRef (.static Bundle.tN "SUPPRESSED_SENTINEL" Bundle.listD)) && decide (w ≠ .laysStatic Bundle.tN "UNASSIGNED_STACK" Bundle.steD) && decide (w ≠ .laysStatic Bundle.tN "SUPPRESSED_SENTINEL" Bundle.listD)
def vx_at0 (own : String) (ic : Nat) (X : String) (names : List String) : List Cond := (Bundle.ownAtoms0 own ic X names).filter vx_no
def vx_atS (own : String) (ic : Nat) (X : String) (names : List String) : List Cond := (Bundle.ownAtoms own ic X names).filter vx_no
/-- a word that the tables alone decide, or a good one -/
def vx_ot (w : Cond) : Bool := w.onTables || goodWord w
theorem vx_ot_at {args a' : Array Value} {s U : State} {w : Cond} (hW : s.WarmedH U.vm) (hvm : s.vm = U.vm) (hg : vx_ot w = true) (h : w.before args s = true) : w.before a' U = true := by
  simp only [vx_ot, Bool.or_eq_true] at hg
  rcases hg with hg | hg
  · exact va_tabs hg hvm h
  · exact word_at hW (good_of_word hg) h
/-- a list's words: the good ones out of the method's own list, the others by premises of their own -/
theorem vx_hat {args : Array Value} {s : State} {L B : List Cond} (h1 : ∀ w ∈ L.filter goodWord, w.before args s = true) (h2 : ∀ w ∈ L.filter (fun w => !goodWord w), w ∈ B) (h3 : ∀ w ∈ B, w.before args s = true) : ∀ w ∈ L, w.before args s = true := by
  intro w hw
  by_cases g : goodWord w = true
  · exact h1 w (List.mem_filter.mpr ⟨hw, g⟩)
  · refine h3 w (h2 w (List.mem_filter.mpr ⟨hw, ?_⟩))
    show (!goodWord w) = true
    cases hgw : goodWord w
    · rfl
    · exact absurd hgw g
theorem vx_c {args : Array Value} {s : State} {w : Cond} {B : List Cond} (h : w.before args s = true) (t : ∀ w ∈ B, w.before args s = true) : ∀ w' ∈ w :: B, w'.before args s = true := fun w' h' => (List.mem_cons.mp h').elim (fun e => by rw [e]; exact h) (t w')
theorem vx_n {args : Array Value} {s : State} : ∀ w ∈ ([] : List Cond), w.before args s = true := fun _ h => nomatch h
theorem vx_own {args : Array Value} {s : State} {L : List Cond} (h1 : ∀ w ∈ L.filter vx_no, w.before args s = true)
    (hU : (Cond.isRef (.static Bundle.tN "UNASSIGNED_STACK" Bundle.steD)).before args s = true) (hN : (Cond.isRef (.static Bundle.tN "SUPPRESSED_SENTINEL" Bundle.listD)).before args s = true)
    (lU : (Cond.laysStatic Bundle.tN "UNASSIGNED_STACK" Bundle.steD).before args s = true) (lN : (Cond.laysStatic Bundle.tN "SUPPRESSED_SENTINEL" Bundle.listD).before args s = true) : ∀ w ∈ L, w.before args s = true := by
  intro w hw
  by_cases e1 : w = .isRef (.static Bundle.tN "UNASSIGNED_STACK" Bundle.steD)
  · rw [e1]; exact hU
  · by_cases e2 : w = .isRef (.static Bundle.tN "SUPPRESSED_SENTINEL" Bundle.listD)
    · rw [e2]; exact hN
    · by_cases e3 : w = .laysStatic Bundle.tN "UNASSIGNED_STACK" Bundle.steD
      · rw [e3]; exact lU
      · by_cases e4 : w = .laysStatic Bundle.tN "SUPPRESSED_SENTINEL" Bundle.listD
        · rw [e4]; exact lN
        · exact h1 w (List.mem_filter.mpr ⟨hw, by unfold vx_no; rw [decide_eq_true e1, decide_eq_true e2, decide_eq_true e3, decide_eq_true e4]; rfl⟩)
/-- where a static field lies, its class's statics cell in H -/
def vx_L (C n d : String) (A : Nat → Prop) (U : State) (H : Heap) : Prop := ∃ (c : ClassId) (k : Class) (i : Nat) (f : Field) (a : Nat) (cell : Cell), U.vm.findClass C = some c ∧ U.fieldFound? C n d = some (c, k, i, f) ∧ f.isStatic = true ∧ k.statics = some a ∧ H[a]? = some cell ∧ cell.vm.isStatics = true ∧ cell.cls = c ∧ f.slot < cell.slots.size ∧ k.staticTypes[f.slot]? = some f.type ∧ ¬ A a
theorem vx_L.moved {C n d : String} {A : Nat → Prop} {u U : State} {H : Heap} (hvm : u.vm.Alike U.vm) (h : vx_L C n d A u H) : vx_L C n d A U H := by
  obtain ⟨c, k, i, f, a, cell, h1, h2, h3, h4, h5, h6, h7, h8, h9, h10⟩ := h
  obtain ⟨k', hi', he⟩ := State.fieldFound?_setVm hvm h2
  exact ⟨c, k', i, f, a, cell, by rw [hvm.findClass]; exact h1, hi', h3, by rw [he]; exact h4, h5, h6, h7, h8, by rw [he]; exact h9, h10⟩
theorem vx_L.kept {C n d : String} {A : Nat → Prop} {U : State} {H H1 : Heap} (h : vx_L C n d A U H) (hq : ∀ a : Nat, a < H.size → ¬ A a → H1[a]? = H[a]?) : vx_L C n d A U H1 := by
  obtain ⟨c, k, i, f, a, cell, h1, h2, h3, h4, h5, h6, h7, h8, h9, h10⟩ := h
  exact ⟨c, k, i, f, a, cell, h1, h2, h3, h4, by rw [hq a (Array.getElem?_eq_some_iff.mp h5).1 h10]; exact h5, h6, h7, h8, h9, h10⟩
theorem vx_L.narrow {C n d : String} {A B : Nat → Prop} {U : State} {H : Heap} (h : vx_L C n d A U H) (hAB : ∀ q, B q → A q) : vx_L C n d B U H := by
  obtain ⟨c, k, i, f, a, cell, h1, h2, h3, h4, h5, h6, h7, h8, h9, h10⟩ := h
  exact ⟨c, k, i, f, a, cell, h1, h2, h3, h4, h5, h6, h7, h8, h9, fun z => h10 (hAB _ z)⟩
theorem vx_L.word {C n d : String} {A : Nat → Prop} {s : State} {args : Array Value} (h : vx_L C n d A s s.heap) : (Cond.laysStatic C n d).before args s = true := by
  obtain ⟨c, k, i, f, a, cell, h1, h2, h3, h4, h5, h6, h7, h8, h9, -⟩ := h
  show (Cond.laysStatic C n d).holds args s none s [] = true
  exact Cond.laysStatic_of h1 h2 h3 h4 h5 h6 h7 h8 h9
/-- .. and what it holds: null or some reference -/
def vx_Zq (C n d : String) (A : Nat → Prop) (U : State) (H : Heap) : Prop := va_Zq C n d A U H ∧ vx_L C n d A U H
theorem vx_Zq.moved {C n d : String} {A : Nat → Prop} {u U : State} {H : Heap} (hvm : u.vm.Alike U.vm) (h : vx_Zq C n d A u H) : vx_Zq C n d A U H := ⟨va_Zq.moved hvm h.1, vx_L.moved hvm h.2⟩
theorem vx_Zq.kept {C n d : String} {A : Nat → Prop} {U : State} {H H1 : Heap} (h : vx_Zq C n d A U H) (hq : ∀ a : Nat, a < H.size → ¬ A a → H1[a]? = H[a]?) : vx_Zq C n d A U H1 := ⟨va_Zq.kept h.1 hq, vx_L.kept h.2 hq⟩
theorem vx_Zq.narrow {C n d : String} {A B : Nat → Prop} {U : State} {H : Heap} (h : vx_Zq C n d A U H) (hAB : ∀ q, B q → A q) : vx_Zq C n d B U H := ⟨va_Zq.narrow h.1 hAB, vx_L.narrow h.2 hAB⟩
theorem vx_Zqof {args : Array Value} {s : State} {C n d : String} {A : Nat → Prop} (hl : (Cond.laysStatic C n d).before args s = true) (hini : (Cond.initialized C).before args s = true) (h : (Cond.isRef (.static C n d)).before args s = true) (hA : ∀ a : Nat, a < s.heap.size → ¬ A a) : vx_Zq C n d A s s.heap := by
  refine ⟨va_Zqof hl hini h hA, ?_⟩
  obtain ⟨c, k, i, f, a, cell, h1, h2, h3, h4, h5, h6, h7, h8, h9⟩ := Cond.laysStatic_spec hl
  exact ⟨c, k, i, f, a, cell, h1, h2, h3, h4, h5, h6, h7, h8, h9, hA a (Array.getElem?_eq_some_iff.mp h5).1⟩
theorem vx_isRef {C n d : String} {v : Value} {A : Nat → Prop} {s : State} {args : Array Value} (h : va_Z C n d v A s s.heap) (hv : v.isRef = true) : (Cond.isRef (.static C n d)).before args s = true := by
  obtain ⟨cf, kf, fi, f, a, cell, h1, h2, h3, h4, h5, h6, h7, -⟩ := h
  have he : (Term.static C n d).eval args s none [] s = some v := by
    simp [Term.eval, State.fieldNamed?, h1, h2, h4, h5, h6, h7]
  simp only [Cond.before, Cond.holds, Cond.value, he]
  cases v <;> simp_all [Value.isRef]
theorem vx_isRefq {C n d : String} {A : Nat → Prop} {s : State} {args : Array Value} (h : va_Zq C n d A s s.heap) : (Cond.isRef (.static C n d)).before args s = true := by
  rcases h with h | ⟨t, h⟩
  · exact vx_isRef h rfl
  · exact vx_isRef h rfl
/-- the same frame, seen from here: as if the method were called anew in this heap -/
theorem vx_rebase {T : State} (X : Stand p l e R s m args below meth c T locs cells slots) {R' : Room} (hf : R'.frames ≤ R.frames) (hl : R'.locals ≤ R.locals) (hc : cells + R'.cells ≤ R.cells) (hs : slots + R'.slots ≤ R.slots) :
    Stand p l e R' ((T.setVm s.vm).setFrames (.invoking m args :: below)) m args below meth c T [] 0 0 := by
  have htop : (T.setVm s.vm).topJava?.isSome := X.here.top
  have hF : ((T.setVm s.vm).setFrames (.invoking m args :: below)).frames = .invoking m args :: below := State.frames_setFrames _ (State.cur_lt_of_top htop)
  obtain ⟨g₀, hg0⟩ := Option.isSome_iff_exists.mp htop
  obtain ⟨r, hr⟩ := State.topJava?_eq_some.mp hg0
  have hl9 : e.platform.stackLimits (T.setVm s.vm).me = e.platform.stackLimits s.me := X.limits
  have hb9 : (T.setVm s.vm).me.stackBytes = s.me.stackBytes := X.bytes
  refine ⟨X.admits, X.cas, X.clock, hF, ?_, X.hears, X.method, X.code, X.here, X.tail, X.warmed, ?_, ?_, ?_⟩
  · have h := X.room
    have hU : ((T.setVm s.vm).setFrames (.invoking m args :: below)).localsInUse = s.localsInUse := by
      rw [State.localsInUse_invoking hF (meth := meth) (c := c) X.method X.code, State.localsInUse_invoking X.frames X.method X.code]
    simp only [State.hasRoom, Bool.and_eq_true, decide_eq_true_eq] at h ⊢
    obtain ⟨⟨⟨⟨h1, h2, h3, h4, h5, h6⟩, h7⟩, h8⟩, h9⟩ := h
    rw [X.frames, List.length_cons] at h2 h3
    have q1 := X.heapSize
    have q2 := X.used
    simp only [hF, hU, List.length_cons, State.stackLimits_setFrames, State.stackBytes_setFrames, hl9, hb9]
    refine ⟨⟨⟨⟨by omega, by omega, by omega, by omega, by omega, h6⟩, ?_⟩, ?_⟩, X.book⟩
    · show T.heap.size + R'.cells ≤ e.platform.maxCells
      omega
    · show T.slotsUsed + R'.slots ≤ e.platform.maxSlots
      omega
  · rw [State.stackLimits_setFrames]; rfl
  · rw [State.stackBytes_setFrames]; rfl
  · refine ⟨?_, Nat.le_refl _, Nat.le_refl _, ?_, ?_, fun a c9 h9 => ⟨c9, h9, rfl, rfl, fun _ _ => rfl⟩⟩
    · obtain ⟨t, ht, -⟩ := State.frames_cons hr
      show T.setVm s.vm = { ((T.setVm s.vm).setFrames (.invoking m args :: below)).setFrames (T.setVm s.vm).frames with heap := T.heap, slotsUsed := T.slotsUsed }
      rw [State.setFrames_setFrames, State.setFrames_self ht]
      rfl
    · show T.slotsUsed = T.slotsUsed + ((T.heap.toList.drop T.heap.size).map (·.slots.size)).sum
      rw [List.drop_eq_nil_of_le (Nat.le_of_eq Array.length_toList)]
      rfl
    · show ((T.heap.toList.drop T.heap.size).map (·.slots.size)).sum ≤ 0
      rw [List.drop_eq_nil_of_le (Nat.le_of_eq Array.length_toList)]
      exact Nat.le_refl _
/-- 'throw new E()': new; dup; invokespecial; athrow -/
theorem vx_throw0 {cc : ByteArray} {pc : Nat} (hexec : p.tables.exec = Jvm.exec) (hb : c.code = cc) (hl : l.stackTraces = false) {own cls : String} {names : List String} {ik ic mc ms : Nat} {A : Nat → Prop}
    (hown : s.vm.findClass own = some m.cls) (hcls : Bundle.fit cls = true) (hnames : ∀ n ∈ names, Bundle.fit n = true)
    (hk : (Cond.classLink own ik cls).before args s = true) (hini : (Cond.initialized cls).before args s = true) (hat : ∀ w ∈ vx_at0 own ic cls names, w.before args s = true)
    (hgood : ∀ w ∈ Cond.classLink own ik cls :: Cond.initialized cls :: vx_at0 own ic cls names, vx_ot w = true)
    (hU : vx_Zq Bundle.tN "UNASSIGNED_STACK" Bundle.steD A s s.heap) (hN : vx_Zq Bundle.tN "SUPPRESSED_SENTINEL" Bundle.listD A s s.heap) (hS : va_S A s.heap H locs) (hsize : ls.size = c.maxLocals)
    (d0 : decode cc pc = .ok (.new ik, 3)) (d3 : decode cc (pc + 3) = .ok (.dup, 1)) (d4 : decode cc (pc + 4) = .ok (.invokespecial ic, 3)) (d7 : decode cc (pc + 7) = .ok (.athrow, 1))
    (hout : ∀ x ∈ c.exceptionTable.toList, covers x (pc + 7) = false)
    (hRframes : names.length + 3 < R.frames) (hRlocals : (rest.map fun v => v.category).sum + (13 * (names.length + 1) + 42) ≤ R.locals) (hRcells : cells + 1 ≤ R.cells) (hRslots : slots + 6 ≤ R.slots) (hlocks : meth.locks = false)
    (hx : ∀ t : State, s.vm.Alike t.vm → H.size ≤ t.heap.size → (∀ q : Nat, q < H.size → t.heap[q]? = H[q]?) → XC cls s t)
    (hf : ∀ z ∈ locs, free z.base) (hc : cells + 1 ≤ mc) (hs : slots + 6 ≤ ms) :
    W p l e R s m args below meth c H locs cells slots (vx_MQ below Qc XC args s mc ms free) (F0 m pc ls rest) := by
  intro T hT X
  have htr : e.platform.stackTraces = false := (show e.platform.stackTraces = l.stackTraces by rw [X.admits.platform]).trans hl
  have Y := vx_rebase X (R' := { frames := R.frames, locals := R.locals, cells := 1, slots := 6 }) (Nat.le_refl _) (Nat.le_refl _) hRcells hRslots
  obtain ⟨s', hA⟩ : ∃ z, z = (T.setVm s.vm).setFrames (.invoking m args :: below) := ⟨_, rfl⟩
  rw [← hA] at Y
  have hvm : s'.vm = s.vm := by rw [hA]; rfl
  have hhp : s'.heap = H := by rw [hA]; exact hT
  have hW0 : s.WarmedH s'.vm := by rw [hvm]; exact State.WarmedH.refl s
  have hat' : ∀ w ∈ vx_at0 own ic cls names, w.before args s' = true := fun w hw => vx_ot_at hW0 hvm.symm (hgood w (List.mem_cons_of_mem _ (List.mem_cons_of_mem _ hw))) (hat w hw)
  have hk' : (Cond.classLink own ik cls).before args s' = true := vx_ot_at hW0 hvm.symm (hgood _ List.mem_cons_self) hk
  have hini' : (Cond.initialized cls).before args s' = true := vx_ot_at hW0 hvm.symm (hgood _ (List.mem_cons_of_mem _ List.mem_cons_self)) hini
  have hU' : vx_Zq Bundle.tN "UNASSIGNED_STACK" Bundle.steD A s' s'.heap := by rw [hhp]; exact vx_Zq.moved hW0.alike (hU.kept hS.2.1)
  have hN' : vx_Zq Bundle.tN "SUPPRESSED_SENTINEL" Bundle.listD A s' s'.heap := by rw [hhp]; exact vx_Zq.moved hW0.alike (hN.kept hS.2.1)
  have h : ∀ w ∈ Bundle.ownAtoms0 own ic cls names, w.before args s' = true := vx_own hat' (vx_isRefq hU'.1) (vx_isRefq hN'.1) hU'.2.word hN'.2.word
  have hown' : s'.vm.findClass own = some m.cls := by rw [hvm]; exact hown
  have hins : (Cond.instantiable cls 6).before args s' = true := h _ (by simp [Bundle.ownAtoms0])
  obtain ⟨vm₁, cX, kX, hfX, hkX, -, -, X₁, st1⟩ := Y.newCold hexec (own := own) (C := cls) (index := ik) (n := 6) hown' hk' hins hini'
    (g := F0 m pc ls rest) rfl (by rw [hb]; exact d0) (Nat.le_refl _) (Nat.le_refl _)
  generalize hT1 : (T.setVm vm₁).pushCell { cls := cX, slots := kX.instanceTypes.map defaultValue, vm := .none } = T1 at X₁ st1
  have hcat : (Value.ref T.heap.size).category = 1 := rfl
  have hcellA : T1.heap[T.heap.size]? = some (freshCell cX kX) := by rw [← hT1]; exact State.heap_pushCell_size _ _
  have d3' : decode c.code (pc + 3) = .ok (.dup, 1) := by rw [hb]; exact d3
  obtain ⟨U, hsteps, hrun, hend, hW, hsame, ce, hce, hO⟩ := X₁.ctorThrow0 hexec htr (own := own) (cls := cls) (names := names) (ic := ic) hown' hcls hnames h (fun x hx => nomatch hx) hfX hkX hcellA (by rw [hhp, hT]; exact Nat.le_refl _)
    (g := { method := m, pc := pc + 4, locals := ls, stack := .ref T.heap.size :: .ref T.heap.size :: rest, locked := none }) rfl hsize rfl rfl (rest := rest) rfl
    (by rw [hb]; exact d4) (by rw [hb]; exact d7) hout hRframes (by simp only [List.map_cons, List.sum_cons, hcat]; omega) hlocks
  obtain ⟨f1, f2⟩ := vx_frame hsame
  rw [hhp] at f1 f2
  have hWs : s.WarmedH U.vm := State.WarmedH.trans hW0 hW
  have hcl : s.vm.findClass cls = some ce.cls := by
    have h9 := hO.cls
    rw [hvm] at h9
    exact h9
  have hall : s.sameButNew ({ U with vm := s.vm } : State) locs mc ms := by
    subst hA
    obtain ⟨e1, e2⟩ := hsame
    rw [State.setFrames_setFrames] at e1
    have h2 : (T.setVm s.vm).sameButNew ({ U with vm := s.vm } : State) [] (0 + 1) (0 + 6) := ⟨e1, e2⟩
    have h3 := X.same.trans h2
    rw [List.append_nil] at h3
    exact h3.mono hc hs
  refine ⟨U, ?_, .threw T.heap.size, hrun, hend, Or.inr ⟨T.heap.size, rfl, cls, ce, locs, hx U hWs.alike f1 (fun q hq => f2 q hq (fun z hz => nomatch hz)), hce, hO.vm, hcl, hWs, hall, hf⟩⟩
  refine st1 _ ?_
  show Steps p.tables e below (T1.setTop { method := m, pc := pc + 3, locals := ls, stack := .ref T.heap.size :: rest, locked := none }) _
  jvm_step X₁.here [X₁.here.top, hexec, d3', Value.category]
  exact hsteps
/-- 'throw new E("text")': new; dup; ldc; invokespecial; athrow -/
theorem vx_throwS {cc : ByteArray} {pc : Nat} (hexec : p.tables.exec = Jvm.exec) (hb : c.code = cc) (hl : l.stackTraces = false) {own cls text : String} {names : List String} {ik is ic mc ms sa : Nat} {A : Nat → Prop}
    (hown : s.vm.findClass own = some m.cls) (hcls : Bundle.fit cls = true) (hnames : ∀ n ∈ names, Bundle.fit n = true)
    (hk : (Cond.classLink own ik cls).before args s = true) (hini : (Cond.initialized cls).before args s = true) (hstr : vk_R own is text sa s) (hat : ∀ w ∈ vx_atS own ic cls names, w.before args s = true)
    (hgood : ∀ w ∈ Cond.classLink own ik cls :: Cond.initialized cls :: vx_atS own ic cls names, vx_ot w = true)
    (hU : vx_Zq Bundle.tN "UNASSIGNED_STACK" Bundle.steD A s s.heap) (hN : vx_Zq Bundle.tN "SUPPRESSED_SENTINEL" Bundle.listD A s s.heap) (hS : va_S A s.heap H locs) (hsize : ls.size = c.maxLocals)
    (d0 : decode cc pc = .ok (.new ik, 3)) (d3 : decode cc (pc + 3) = .ok (.dup, 1)) (d4 : decode cc (pc + 4) = .ok (.ldc is, 2)) (d6 : decode cc (pc + 6) = .ok (.invokespecial ic, 3)) (d9 : decode cc (pc + 9) = .ok (.athrow, 1))
    (hout : ∀ x ∈ c.exceptionTable.toList, covers x (pc + 9) = false)
    (hRframes : names.length + 3 < R.frames) (hRlocals : (rest.map fun v => v.category).sum + (13 * (names.length + 1) + 43) ≤ R.locals) (hRcells : cells + 1 ≤ R.cells) (hRslots : slots + 6 ≤ R.slots) (hlocks : meth.locks = false)
    (hx : ∀ t : State, s.vm.Alike t.vm → H.size ≤ t.heap.size → (∀ q : Nat, q < H.size → t.heap[q]? = H[q]?) → XC cls s t)
    (hf : ∀ z ∈ locs, free z.base) (hc : cells + 1 ≤ mc) (hs : slots + 6 ≤ ms) :
    W p l e R s m args below meth c H locs cells slots (vx_MQ below Qc XC args s mc ms free) (F0 m pc ls rest) := by
  intro T hT X
  have htr : e.platform.stackTraces = false := (show e.platform.stackTraces = l.stackTraces by rw [X.admits.platform]).trans hl
  have Y := vx_rebase X (R' := { frames := R.frames, locals := R.locals, cells := 1, slots := 6 }) (Nat.le_refl _) (Nat.le_refl _) hRcells hRslots
  obtain ⟨s', hA⟩ : ∃ z, z = (T.setVm s.vm).setFrames (.invoking m args :: below) := ⟨_, rfl⟩
  rw [← hA] at Y
  have hvm : s'.vm = s.vm := by rw [hA]; rfl
  have hhp : s'.heap = H := by rw [hA]; exact hT
  have hW0 : s.WarmedH s'.vm := by rw [hvm]; exact State.WarmedH.refl s
  have hat' : ∀ w ∈ vx_atS own ic cls names, w.before args s' = true := fun w hw => vx_ot_at hW0 hvm.symm (hgood w (List.mem_cons_of_mem _ (List.mem_cons_of_mem _ hw))) (hat w hw)
  have hk' : (Cond.classLink own ik cls).before args s' = true := vx_ot_at hW0 hvm.symm (hgood _ List.mem_cons_self) hk
  have hini' : (Cond.initialized cls).before args s' = true := vx_ot_at hW0 hvm.symm (hgood _ (List.mem_cons_of_mem _ List.mem_cons_self)) hini
  have hU' : vx_Zq Bundle.tN "UNASSIGNED_STACK" Bundle.steD A s' s'.heap := by rw [hhp]; exact vx_Zq.moved hW0.alike (hU.kept hS.2.1)
  have hN' : vx_Zq Bundle.tN "SUPPRESSED_SENTINEL" Bundle.listD A s' s'.heap := by rw [hhp]; exact vx_Zq.moved hW0.alike (hN.kept hS.2.1)
  have h : ∀ w ∈ Bundle.ownAtoms own ic cls names, w.before args s' = true := vx_own hat' (vx_isRefq hU'.1) (vx_isRefq hN'.1) hU'.2.word hN'.2.word
  have hown' : s'.vm.findClass own = some m.cls := by rw [hvm]; exact hown
  have hins : (Cond.instantiable cls 6).before args s' = true := h _ (by simp [Bundle.ownAtoms])
  obtain ⟨vm₁, cX, kX, hfX, hkX, -, -, X₁, st1⟩ := Y.newCold hexec (own := own) (C := cls) (index := ik) (n := 6) hown' hk' hins hini'
    (g := F0 m pc ls rest) rfl (by rw [hb]; exact d0) (Nat.le_refl _) (Nat.le_refl _)
  generalize hT1 : (T.setVm vm₁).pushCell { cls := cX, slots := kX.instanceTypes.map defaultValue, vm := .none } = T1 at X₁ st1
  have hcat : (Value.ref T.heap.size).category = 1 := rfl
  have hcellA : T1.heap[T.heap.size]? = some (freshCell cX kX) := by rw [← hT1]; exact State.heap_pushCell_size _ _
  have d3' : decode c.code (pc + 3) = .ok (.dup, 1) := by rw [hb]; exact d3
  have d4' : decode c.code (pc + 4) = .ok (.ldc is, 2) := by rw [hb]; exact d4
  have hstr' : vk_R own is text sa s' := vk_R.warm hW0 hstr
  obtain ⟨U, hsteps, hrun, hend, hW, hsame, ce, hce, hO⟩ := X₁.ctorThrowS hexec htr (own := own) (cls := cls) (names := names) (ic := ic) hown' hcls hnames h (fun x hx => nomatch hx) hfX hkX hcellA (by rw [hhp, hT]; exact Nat.le_refl _) (msg := .ref sa) rfl
    (g := { method := m, pc := pc + 6, locals := ls, stack := .ref sa :: .ref T.heap.size :: .ref T.heap.size :: rest, locked := none }) rfl hsize rfl rfl (rest := rest) rfl
    (by rw [hb]; exact d6) (by rw [hb]; exact d9) hout hRframes (by simp only [List.map_cons, List.sum_cons, hcat]; omega) hlocks
  obtain ⟨f1, f2⟩ := vx_frame hsame
  rw [hhp] at f1 f2
  have hWs : s.WarmedH U.vm := State.WarmedH.trans hW0 hW
  have hcl : s.vm.findClass cls = some ce.cls := by
    have h9 := hO.cls
    rw [hvm] at h9
    exact h9
  have hall : s.sameButNew ({ U with vm := s.vm } : State) locs mc ms := by
    subst hA
    obtain ⟨e1, e2⟩ := hsame
    rw [State.setFrames_setFrames] at e1
    have h2 : (T.setVm s.vm).sameButNew ({ U with vm := s.vm } : State) [] (0 + 1) (0 + 6) := ⟨e1, e2⟩
    have h3 := X.same.trans h2
    rw [List.append_nil] at h3
    exact h3.mono hc hs
  refine ⟨U, ?_, .threw T.heap.size, hrun, hend, Or.inr ⟨T.heap.size, rfl, cls, ce, locs, hx U hWs.alike f1 (fun q hq => f2 q hq (fun z hz => nomatch hz)), hce, hO.vm, hcl, hWs, hall, hf⟩⟩
  refine st1 _ ?_
  show Steps p.tables e below (T1.setTop { method := m, pc := pc + 3, locals := ls, stack := .ref T.heap.size :: rest, locked := none }) _
  jvm_step X₁.here [X₁.here.top, hexec, d3', Value.category]
  exact X₁.ldcString hexec (own := own) (text := text) (index := is) (a := sa) hown' hstr'.1 hstr'.2
    (g := { method := m, pc := pc + 4, locals := ls, stack := .ref T.heap.size :: .ref T.heap.size :: rest, locked := none }) rfl d4' _ hsteps
/-- 'throw new E("text")', the text by a wide index -/
theorem vx_throwSW {cc : ByteArray} {pc : Nat} (hexec : p.tables.exec = Jvm.exec) (hb : c.code = cc) (hl : l.stackTraces = false) {own cls text : String} {names : List String} {ik is ic mc ms sa : Nat} {A : Nat → Prop}
    (hown : s.vm.findClass own = some m.cls) (hcls : Bundle.fit cls = true) (hnames : ∀ n ∈ names, Bundle.fit n = true)
    (hk : (Cond.classLink own ik cls).before args s = true) (hini : (Cond.initialized cls).before args s = true) (hstr : vk_R own is text sa s) (hat : ∀ w ∈ vx_atS own ic cls names, w.before args s = true)
    (hgood : ∀ w ∈ Cond.classLink own ik cls :: Cond.initialized cls :: vx_atS own ic cls names, vx_ot w = true)
    (hU : vx_Zq Bundle.tN "UNASSIGNED_STACK" Bundle.steD A s s.heap) (hN : vx_Zq Bundle.tN "SUPPRESSED_SENTINEL" Bundle.listD A s s.heap) (hS : va_S A s.heap H locs) (hsize : ls.size = c.maxLocals)
    (d0 : decode cc pc = .ok (.new ik, 3)) (d3 : decode cc (pc + 3) = .ok (.dup, 1)) (d4 : decode cc (pc + 4) = .ok (.ldc_w is, 3)) (d7 : decode cc (pc + 7) = .ok (.invokespecial ic, 3)) (d10 : decode cc (pc + 10) = .ok (.athrow, 1))
    (hout : ∀ x ∈ c.exceptionTable.toList, covers x (pc + 10) = false)
    (hRframes : names.length + 3 < R.frames) (hRlocals : (rest.map fun v => v.category).sum + (13 * (names.length + 1) + 43) ≤ R.locals) (hRcells : cells + 1 ≤ R.cells) (hRslots : slots + 6 ≤ R.slots) (hlocks : meth.locks = false)
    (hx : ∀ t : State, s.vm.Alike t.vm → H.size ≤ t.heap.size → (∀ q : Nat, q < H.size → t.heap[q]? = H[q]?) → XC cls s t)
    (hf : ∀ z ∈ locs, free z.base) (hc : cells + 1 ≤ mc) (hs : slots + 6 ≤ ms) :
    W p l e R s m args below meth c H locs cells slots (vx_MQ below Qc XC args s mc ms free) (F0 m pc ls rest) := by
  intro T hT X
  have htr : e.platform.stackTraces = false := (show e.platform.stackTraces = l.stackTraces by rw [X.admits.platform]).trans hl
  have Y := vx_rebase X (R' := { frames := R.frames, locals := R.locals, cells := 1, slots := 6 }) (Nat.le_refl _) (Nat.le_refl _) hRcells hRslots
  obtain ⟨s', hA⟩ : ∃ z, z = (T.setVm s.vm).setFrames (.invoking m args :: below) := ⟨_, rfl⟩
  rw [← hA] at Y
  have hvm : s'.vm = s.vm := by rw [hA]; rfl
  have hhp : s'.heap = H := by rw [hA]; exact hT
  have hW0 : s.WarmedH s'.vm := by rw [hvm]; exact State.WarmedH.refl s
  have hat' : ∀ w ∈ vx_atS own ic cls names, w.before args s' = true := fun w hw => vx_ot_at hW0 hvm.symm (hgood w (List.mem_cons_of_mem _ (List.mem_cons_of_mem _ hw))) (hat w hw)
  have hk' : (Cond.classLink own ik cls).before args s' = true := vx_ot_at hW0 hvm.symm (hgood _ List.mem_cons_self) hk
  have hini' : (Cond.initialized cls).before args s' = true := vx_ot_at hW0 hvm.symm (hgood _ (List.mem_cons_of_mem _ List.mem_cons_self)) hini
  have hU' : vx_Zq Bundle.tN "UNASSIGNED_STACK" Bundle.steD A s' s'.heap := by rw [hhp]; exact vx_Zq.moved hW0.alike (hU.kept hS.2.1)
  have hN' : vx_Zq Bundle.tN "SUPPRESSED_SENTINEL" Bundle.listD A s' s'.heap := by rw [hhp]; exact vx_Zq.moved hW0.alike (hN.kept hS.2.1)
  have h : ∀ w ∈ Bundle.ownAtoms own ic cls names, w.before args s' = true := vx_own hat' (vx_isRefq hU'.1) (vx_isRefq hN'.1) hU'.2.word hN'.2.word
  have hown' : s'.vm.findClass own = some m.cls := by rw [hvm]; exact hown
  have hins : (Cond.instantiable cls 6).before args s' = true := h _ (by simp [Bundle.ownAtoms])
  obtain ⟨vm₁, cX, kX, hfX, hkX, -, -, X₁, st1⟩ := Y.newCold hexec (own := own) (C := cls) (index := ik) (n := 6) hown' hk' hins hini'
    (g := F0 m pc ls rest) rfl (by rw [hb]; exact d0) (Nat.le_refl _) (Nat.le_refl _)
  generalize hT1 : (T.setVm vm₁).pushCell { cls := cX, slots := kX.instanceTypes.map defaultValue, vm := .none } = T1 at X₁ st1
  have hcat : (Value.ref T.heap.size).category = 1 := rfl
  have hcellA : T1.heap[T.heap.size]? = some (freshCell cX kX) := by rw [← hT1]; exact State.heap_pushCell_size _ _
  have d3' : decode c.code (pc + 3) = .ok (.dup, 1) := by rw [hb]; exact d3
  have d4' : decode c.code (pc + 4) = .ok (.ldc_w is, 3) := by rw [hb]; exact d4
  have hstr' : vk_R own is text sa s' := vk_R.warm hW0 hstr
  obtain ⟨U, hsteps, hrun, hend, hW, hsame, ce, hce, hO⟩ := X₁.ctorThrowS hexec htr (own := own) (cls := cls) (names := names) (ic := ic) hown' hcls hnames h (fun x hx => nomatch hx) hfX hkX hcellA (by rw [hhp, hT]; exact Nat.le_refl _) (msg := .ref sa) rfl
    (g := { method := m, pc := pc + 7, locals := ls, stack := .ref sa :: .ref T.heap.size :: .ref T.heap.size :: rest, locked := none }) rfl hsize rfl rfl (rest := rest) rfl
    (by rw [hb]; exact d7) (by rw [hb]; exact d10) hout hRframes (by simp only [List.map_cons, List.sum_cons, hcat]; omega) hlocks
  obtain ⟨f1, f2⟩ := vx_frame hsame
  rw [hhp] at f1 f2
  have hWs : s.WarmedH U.vm := State.WarmedH.trans hW0 hW
  have hcl : s.vm.findClass cls = some ce.cls := by
    have h9 := hO.cls
    rw [hvm] at h9
    exact h9
  have hall : s.sameButNew ({ U with vm := s.vm } : State) locs mc ms := by
    subst hA
    obtain ⟨e1, e2⟩ := hsame
    rw [State.setFrames_setFrames] at e1
    have h2 : (T.setVm s.vm).sameButNew ({ U with vm := s.vm } : State) [] (0 + 1) (0 + 6) := ⟨e1, e2⟩
    have h3 := X.same.trans h2
    rw [List.append_nil] at h3
    exact h3.mono hc hs
  refine ⟨U, ?_, .threw T.heap.size, hrun, hend, Or.inr ⟨T.heap.size, rfl, cls, ce, locs, hx U hWs.alike f1 (fun q hq => f2 q hq (fun z hz => nomatch hz)), hce, hO.vm, hcl, hWs, hall, hf⟩⟩
  refine st1 _ ?_
  show Steps p.tables e below (T1.setTop { method := m, pc := pc + 3, locals := ls, stack := .ref T.heap.size :: rest, locked := none }) _
  jvm_step X₁.here [X₁.here.top, hexec, d3', Value.category]
  exact X₁.ldcStringW hexec (own := own) (text := text) (index := is) (a := sa) hown' hstr'.1 hstr'.2
    (g := { method := m, pc := pc + 4, locals := ls, stack := .ref T.heap.size :: .ref T.heap.size :: rest, locked := none }) rfl d4' _ hsteps
end Ends
section Bodies
variable {l : Launch}
theorem vx_ofW {y : MethodName} {ws ws' : List Cond} {rm : Room} {Pc : Array Value → State → Prop} {Qc : Array Value → State → Outcome → State → Prop} {XC : String → State → State → Prop} {mc ms : Nat} {free : Addr → Prop} {cc : ByteArray} {maxL : Nat} {ret : Option FieldType}
    (hy : plainName y.cls = true) (hw : ws = Cond.code y cc maxL ret :: ws')
    (body : ∀ p e s m args below meth c s₁, BodyLoose p l y (headSpec ws rm) cc maxL ret e s m args below meth c s₁ → c.maxLocals = maxL → (∀ x ∈ c.exceptionTable.toList, False) → Pc args s →
      W p l e (headSpec ws rm).room s m args below meth c s.heap [] 0 0 (vx_MQ below Qc XC args s mc ms free) (entryFrame m args maxL)) : vx_Met l y ws rm Pc Qc XC mc ms free := by
  refine MetFree.of_bodyS (code := cc) (maxLocals := maxL) (ret := ret) hy ?_ ?_
  · intro args s m h hn
    obtain ⟨meth, c, h1, h2, h3, h4, h5, h6, -, -⟩ := Cond.code_spec hn (atoms_spec (ws := ws) h _ (by rw [hw]; exact List.mem_cons_self))
    exact ⟨meth, c, h1, h2, h3, h4, h5, h6⟩
  · intro p e s m args below meth c s₁ B hml hP _
    have hh0 : s₁.heap = s.heap := by rw [B.state]; rfl
    have ht : ∀ x ∈ c.exceptionTable.toList, False := by
      obtain ⟨meth9, c9, h1, h2, -, -, -, -, h7, -⟩ := Cond.code_spec B.named (atoms_spec (ws := ws) B.pre _ (by rw [hw]; exact List.mem_cons_self))
      cases Option.some.inj (h1.symm.trans B.method)
      cases Option.some.inj (h2.symm.trans (Stand.of_body B).code)
      intro x hx
      rw [Array.isEmpty_iff.mp h7] at hx
      cases hx
    obtain ⟨t, a1, o, b1, b2, b3⟩ := body p e s m args below meth c s₁ B hml ht hP s₁ hh0 (Stand.of_body B)
    exact ⟨t, o, a1, b1, b2, b3⟩
/-- the table of a body with handlers -/
theorem vx_table {p : Program} {x y : MethodName} {S : Spec} {cc bytes : ByteArray} {maxL maxL' : Nat} {ret ret' : Option FieldType} {e : Env} {s s₁ : State} {m : MethodId} {args : Array Value} {below : List Frame} {meth : Method} {c : Code} {hh : List (Nat × Nat × Nat × Nat)}
    (B : BodyLoose p l y S cc maxL ret e s m args below meth c s₁) (h : (Cond.codeWith y bytes maxL' ret' hh).before args s = true) : c.exceptionTable.toList = tableOf hh := by
  obtain ⟨m9, meth9, c9, hn9, h1, h2, -, -, h6, -⟩ := Cond.codeWith_spec h
  cases Option.some.inj (hn9.symm.trans B.named)
  cases Option.some.inj (h1.symm.trans B.method)
  cases Option.some.inj (h2.symm.trans (Stand.of_body B).code)
  rw [← h6, table_eq]
end Bodies
end VXA
/-! ===== END ===== -/
/-! ===== BEGIN a static call of a method with an exception table ===== -/
section VXS
variable {p : Program} {l : Launch} {e : Env} {R : Room} {s : State} {m : MethodId} {args : Array Value} {below : List Frame} {meth : Method} {c : Code} {T : State} {H : Heap} {locs : List Loc} {cells slots : Nat}
abbrev vx_CSW (R : Room) (s : State) (args : Array Value) (own : String) (index : Nat) (y : MethodName) (bytes : ByteArray) (maxL : Nat) (ret : Option FieldType) (hh : List (Nat × Nat × Nat × Nat)) (ws : List Cond) (rm : Room) (mc ms n : Nat) : Prop :=
  (rm.cells = mc ∧ rm.slots = ms ∧ rm.frames + 1 ≤ R.frames ∧ 8 + (maxL + 11) + rm.locals ≤ R.locals ∧ (∀ w ∈ ws, ∀ (a' : Array Value) (U : State), s.WarmedH U.vm → w.before a' U = true) ∧ Cond.codeWith y bytes maxL ret hh ∈ ws) ∧
  (Cond.codeWith y bytes maxL ret hh).before args s = true ∧ (Cond.initialized y.cls).before args s = true ∧ (y.cls ≠ "java/lang/invoke/MethodHandle" ∧ y.cls ≠ "java/lang/invoke/VarHandle") ∧
  (∀ sig, parseMethodDescriptor y.desc = some sig → n = sig.parameters.length) ∧ (Cond.methodLink own index y).before args s = true ∧ (Cond.static y).before args s = true
theorem vx_cwSW {own : String} {index maxL mc ms : Nat} {y : MethodName} {bytes : ByteArray} {ret : Option FieldType} {hh : List (Nat × Nat × Nat × Nat)} {Ts ws ws' : List Cond} {rm : Room} (n : Nat) (ht : ∀ w ∈ Ts, w.before args s = true) (hT : GoodIn Ts (va_wsS own index y ws)) (hw : ws = Cond.codeWith y bytes maxL ret hh :: ws') (hrc : rm.cells = mc) (hrs : rm.slots = ms)
    (hd : y.cls ≠ "java/lang/invoke/MethodHandle" ∧ y.cls ≠ "java/lang/invoke/VarHandle" ∧ (parseMethodDescriptor y.desc).map (fun d => d.parameters.length) = some n) (hR : rm.frames + 1 ≤ R.frames ∧ 8 + (maxL + 11) + rm.locals ≤ R.locals) :
    vx_CSW R s args own index y bytes maxL ret hh ws rm mc ms n := by
  have ok : ∀ w ∈ va_wsS own index y ws, w.before args s = true := fun w h => ht w (hT w h).1
  have hG : GoodIn Ts ws := fun w h => hT w (by unfold va_wsS; exact List.mem_append_right _ h)
  have hc : Cond.codeWith y bytes maxL ret hh ∈ ws := by rw [hw]; exact List.mem_cons_self
  refine ⟨⟨hrc, hrs, hR.1, hR.2, pay_in ht hG, hc⟩, ht _ (hG _ hc).1, ok _ (by simp [va_wsS]), ⟨hd.1, hd.2.1⟩, fun sig h => ?_, ok _ (by simp [va_wsS]), ok _ (by simp [va_wsS])⟩
  have h2 := hd.2.2
  rw [h] at h2
  exact (Option.some.inj h2).symm
theorem vx_callSW (X : Stand p l e R s m args below meth c T locs cells slots) (hexec : p.tables.exec = Jvm.exec) {own : String} {index : Nat} {y : MethodName} {bytes : ByteArray} {maxL : Nat} {ret : Option FieldType} {hh : List (Nat × Nat × Nat × Nat)}
    (hown : s.vm.findClass own = some m.cls) (hlink : (Cond.methodLink own index y).before args s = true) (hstat : (Cond.static y).before args s = true) (hinit : (Cond.initialized y.cls).before args s = true)
    (hcode : (Cond.codeWith y bytes maxL ret hh).before args s = true) (hy : y.cls ≠ "java/lang/invoke/MethodHandle" ∧ y.cls ≠ "java/lang/invoke/VarHandle")
    {W9 : Nat} {Pre : Pt → Array Value → Prop} {Post : Pt → Array Value → Option Value → Pt → Prop} (hK : Back l R p e below s args y 3 W9 Pre Post)
    {g : JFrame} (hg : g.method = m) (hsize : g.locals.size = c.maxLocals) {argsL rest : List Value} (hlen : ∀ sig, parseMethodDescriptor y.desc = some sig → argsL.length = sig.parameters.length)
    (hstack : g.stack = argsL.reverse ++ rest) (hW : 2 * g.monitorRoom + (rest.map fun v => v.category).sum ≤ W9) (hdg : decode c.code g.pc = .ok (.invokestatic index, 3))
    (hpre : ∀ vm₁, s.WarmedH vm₁ → Pre ⟨T.setVm vm₁, locs, cells, slots⟩ argsL.toArray) :
    ∃ (v : Option Value) (vm₁ : Vm) (B : Pt), s.WarmedH vm₁ ∧ Stand p l e R s m args below meth c B.U B.locs B.cells B.slots ∧ Post ⟨T.setVm vm₁, locs, cells, slots⟩ argsL.toArray v B ∧
      ∀ target, Steps p.tables e below (B.U.setTop { g with pc := g.pc + 3, stack := v.toList ++ rest }) target → Steps p.tables e below (T.setTop g) target := by
  obtain ⟨mk, methM, cM, hnamed, hmethM, -, -, -, -, -, -, hsigM⟩ := Cond.codeWith_spec hcode
  have hstatic : methM.isStatic = true := Cond.static_spec hnamed hmethM hstat
  obtain ⟨kP, hkP, -⟩ := className_of_methodNamed hnamed
  have hinitP : kP.init = .initialized := Cond.initialized_spec (findClass_of_methodNamed hnamed) hkP hinit
  obtain ⟨vm₁, X₁, hstep₁⟩ := X.invokestatic hexec hown hlink hnamed hmethM hstatic hkP hinitP hy (g := g) hg (argsL := argsL) (rest := rest) (hlen _ hsigM) hstack hdg
  obtain ⟨v, B, X', hpost, hsteps⟩ := hK m meth c ⟨T.setVm vm₁, locs, cells, slots⟩ { g with stack := rest } (.invokestatic index) mk argsL.toArray X₁ hg hsize hdg hW (X₁.named hnamed) (hpre vm₁ X₁.warmed)
  exact ⟨v, vm₁, B, X₁.warmed, X', hpost, fun target h => hstep₁ _ fun acts => by rw [doInvoke_state]; exact hsteps.trans h⟩
theorem vx_runSW {y : MethodName} {bytes cc : ByteArray} {maxL nL mc ms n index : Nat} {ret : Option FieldType} {hh : List (Nat × Nat × Nat × Nat)} {ws : List Cond} {rm : Room} {Pc : Array Value → State → Prop} {Qc : Array Value → State → Outcome → State → Prop} {free : Addr → Prop} {Ts : List Cond} {own : String} {As rest : List Value} {g : JFrame}
    (S : CallFix p m c cc nL s args Ts own) (hM : Met l y ws rm Pc Qc mc ms free) (cw : vx_CSW R s args own index y bytes maxL ret hh ws rm mc ms n) (hp : PreS s H Pc As)
    (hg : g.method = m) (hn : As.length = n) (hsize : g.locals.size = nL) (hstack : g.stack = As.reverse ++ rest) (hW : 2 * g.monitorRoom + (rest.map fun v => v.category).sum ≤ 8) (hdg : decode cc g.pc = .ok (.invokestatic index, 3)) (hf : cells + mc ≤ R.cells ∧ slots + ms ≤ R.slots) :
    va_Run p l e R s m args below meth c H locs cells slots mc ms g rest (Qc As.toArray) (free) := by
  obtain ⟨⟨hrc, hrs, hfr, hlo, hws, hcw⟩, hcode, hini, hy, hlen, hl, hstt⟩ := cw
  have hK : Back l R p e below s args y 3 8 (PreOf R mc ms Pc) (PostOf Qc mc ms free) := va_backW (hh := hh) (bytes := bytes) (maxL := maxL) (ret := ret) hM hp.1 hrc hrs hfr hlo hws hcw (fun a' U hW => word_at hW (Or.inl (by first | rfl | simp [Cond.onTables, Cond.keeps, Cond.steady])) hini)
  obtain ⟨hx, hb, hml, ho, -⟩ := S
  intro T hT X
  obtain ⟨v, vm₁, ⟨U', l2, c2, s2⟩, hW₁, X', ⟨g', mk, t, L, e1, e2, hq, h1, hL, h2, h3⟩, st⟩ := vx_callSW X hx (hh := hh) (bytes := bytes) (maxL := maxL) (ret := ret) ho hl hstt hini hcode hy hK hg (hsize.trans hml.symm) (argsL := As) (rest := rest) (fun sig h => hn.trans (hlen sig h)) hstack hW (by rw [hb]; exact hdg)
    (fun vm₁ hW₁ => ⟨hf.1, hf.2, hp.2 (T.setVm vm₁) hT hW₁⟩)
  dsimp only [Pt.U, Pt.locs, Pt.cells, Pt.slots] at X' e1 e2 h1 h2 h3 st
  subst h1; subst h2; subst h3
  exact ⟨v, (T.setVm vm₁).calling g' mk As.toArray, t, U', L, hT, X', hL, e1, e2, hq, st⟩
/-- not caught here, past rows that name other classes: it goes on to the caller -/
theorem vx_outP {p : Program} {l : Launch} {e : Env} {R : Room} {s : State} {m : MethodId} {args : Array Value} {below : List Frame} {meth : Method} {c : Code} {H : Heap} {locs : List Loc} {cells slots : Nat} {free : Addr → Prop} {ls : Array Slot} {rest : List Value} {Qc : Array Value → State → Outcome → State → Prop} {XC : String → State → State → Prop}
    {pc : Nat} {own E : String} {ce : Cell} {q : Addr} {mc ms : Nat} (hown : s.vm.findClass own = some m.cls) (hlocks : meth.locks = false)
    (hpass : ∀ z ∈ c.exceptionTable.toList, covers z pc = false ∨ (z.catchType ≠ 0 ∧ ∃ nm : String, (Cond.classLink own z.catchType nm).before args s = true ∧ va_Nc E nm s)) (hcell : H[q]? = some ce) (hv : ce.vm = .none) (hcl : s.vm.findClass E = some ce.cls)
    (hx : ∀ t : State, t.heap = H → s.vm.Alike t.vm → XC E s t) (hf : ∀ z ∈ locs, free z.base) (hc : cells ≤ mc) (hs : slots ≤ ms) :
    vx_W p l e R s m args below meth c H locs cells slots (vx_MQ below Qc XC args s mc ms free) (F0 m pc ls rest) q := by
  intro T hT X
  have hpl : e.platform.magicAccessors = ({} : Platform).magicAccessors := by rw [X.admits.platform]
  obtain ⟨vm', hW', X', st⟩ := X.outThrough hlocks q (g := F0 m pc ls rest) rfl rfl rfl (cell := ce) (by rw [hT]; exact hcell) (by rw [hv]; rfl)
    (by obtain ⟨k9, h9, -⟩ := Vm.findClass_spec hcl; exact ⟨k9, h9⟩) (fun z hz => by
      rcases hpass z hz with h | ⟨hz0, nm, hl1, hn1⟩
      · exact Or.inl h
      · obtain ⟨c6, hc6, hcl6⟩ := Cond.classLink_spec hown hl1 e.platform hpl
        obtain ⟨a8, b8, h1, h2, h3⟩ := hn1
        cases Option.some.inj (h1.symm.trans hcl)
        cases Option.some.inj (h2.symm.trans hc6)
        exact Or.inr ⟨hz0, _, hcl6, h3⟩)
  obtain ⟨g₀, hfr⟩ := X'.frames_eq
  have hcell9 : ((T.setVm vm').setFrames (.throwing q :: below)).heap[q]? = some ce := by
    show T.heap[q]? = some ce
    rw [hT]; exact hcell
  have hend : Ended ((T.setVm vm').setFrames (.throwing q :: below)) below (.threw q) := State.frames_setFrames _ (State.cur_lt_of_frames hfr)
  refine ⟨(T.setVm vm').setFrames (.throwing q :: below), ?_, .threw q, X'.here.running, hend, Or.inr ⟨q, rfl, E, ce, locs, hx _ hT (X'.ends _).1.alike, hcell9, hv, hcl, (X'.ends _).1, (X'.ends _).2.mono hc hs, hf⟩⟩
  rw [X.pushThrowing_eq]
  exact st
/-- a thing of a world lies in the heap -/
theorem vx_lt {D : va_G} {cl : List vw_C} {ws : va_W} {H1 : Heap} (h : va_P D cl ws H1) {k : Nat} {q : Nat × va_E} (hk : ws[k]? = some q) : q.1 < H1.size := (h k q hk).lt
end VXS
/-! ===== END ===== -/
/-! ===== BEGIN methods with a table of their own: called by a name, returning or throwing ===== -/
section VXH
/-! vx_backW, vx_callVX, vx_callSX, vx_callVW, vx_runVW, vx_runVX, vx_runSX, vx_ofWH follow the same proofs as their sisters above (Free/Laws.lean, Shelf42/LK1.lean); vx_outP calls Shelf42/NT130.lean (outThrough). -/
section
variable {l : Launch} {R : Room} {p : Program} {e : Env} {below : List Frame} {s : State} {sargs : Array Value} {y : MethodName} {len W9 : Nat}
theorem vx_backW {ws : List Cond} {rm : Room} {Pc : Array Value → State → Prop} {Qc : Array Value → State → Outcome → State → Prop} {XC : String → State → State → Prop} {mc ms : Nat} {free : Addr → Prop} {bytes : ByteArray} {maxL : Nat} {ret : Option FieldType} {hh : List (Nat × Nat × Nat × Nat)}
    (hM : vx_Met l y ws rm Pc Qc XC mc ms free) (hblind : FrameBlind Pc) (hrc : rm.cells = mc) (hrs : rm.slots = ms)
    (hframes : rm.frames + 1 ≤ R.frames) (hlocals : W9 + (maxL + 11) + rm.locals ≤ R.locals)
    (hws : ∀ w ∈ ws, ∀ a' U, s.WarmedH U.vm → w.before a' U = true) (hcode : Cond.codeWith y bytes maxL ret hh ∈ ws) (hinit : ∀ a' U, s.WarmedH U.vm → (Cond.initialized y.cls).before a' U = true) :
    vx_Back l R p e below s sargs y len W9 (PreOf R mc ms Pc) (PostOf Qc mc ms free) (vx_Post XC mc ms free) := by
  intro m meth c A g ig mk a X hg hsize hdg hW hn hp
  have h1 : (headSpec ws rm).pre.before a A.U = true := atoms_intro fun w hw => hws w hw _ _ X.warmed
  have h2 : (Cond.codeWith y bytes maxL ret hh).before a A.U = true := hws _ hcode _ _ X.warmed
  have h3 : (Cond.initialized y.cls).before a A.U = true := hinit _ _ X.warmed
  have h4 : A.cells + (headSpec ws rm).room.cells ≤ R.cells := by rw [show (headSpec ws rm).room.cells = mc from hrc]; exact hp.1
  have h5 : A.slots + (headSpec ws rm).room.slots ≤ R.slots := by rw [show (headSpec ws rm).room.slots = ms from hrs]; exact hp.2.1
  have hPc : Pc a (A.U.calling g mk a) := hblind _ _ _ _ hp.2.2
  obtain ⟨U, Ls, c0, s0⟩ := A
  dsimp only [Pt.U, Pt.locs, Pt.cells, Pt.slots] at h1 h2 h3 h4 h5 X hn hPc ⊢
  obtain ⟨m9, methY, cY, hn9, hmY, hcY, -, hlY, -⟩ := Cond.codeWith_spec h2
  cases Option.some.inj (hn9.symm.trans hn)
  obtain ⟨kY, hkY, -⟩ := className_of_methodNamed hn
  have hinitY : kY.init = .initialized := Cond.initialized_spec (findClass_of_methodNamed hn) hkY h3
  have h : At U g.method c below := by rw [hg]; exact X.here
  have hlocals9 : W9 + (maxL + 11) + (headSpec ws rm).room.locals ≤ R.locals := hlocals
  have happ : (headSpec ws rm).appliesLoose y e.platform (U.calling g mk a) = true :=
    Spec.appliesLoose_calling (g := g) h hdg hn hkY hinitY
      (X.room_calling (g := g) (R' := (headSpec ws rm).room) hsize hmY hcY hframes (by rw [hlY]; omega) h4 h5) h1
  obtain ⟨mid, hmid⟩ := h.above
  have hfr : (U.setTop g).frames = (.java g :: mid) ++ below := by rw [State.frames_setTop' g h.top, hmid]; rfl
  obtain ⟨o, s₂, hsteps, -, hend, hq⟩ := Steps.callFree hM p X.admits X.cas X.clock (acts := []) hfr happ hPc trivial
  have hq' : vx_Q Qc XC mc ms free a (U.calling g mk a) o s₂ := hq
  rw [State.frames_setTop' g h.top] at hend
  obtain ⟨g₀, hg0⟩ := Option.isSome_iff_exists.mp h.top
  obtain ⟨r, hr⟩ := State.topJava?_eq_some.mp hg0
  have hr' : (({ U with heap := s₂.heap, slotsUsed := s₂.slotsUsed } : State).setVm s₂.vm).frames = .java g₀ :: r := hr
  rcases hq' with ⟨hqc, L, hfe, hL⟩ | ⟨q, rfl, E, ce, L, hx, hce, hcv, hcl, hW₂, hsm, hL⟩
  · obtain ⟨⟨v, rfl⟩, hW₂, e2, q2, q3, q4, q5, q6⟩ := id hfe
    have e3 : s₂ = ({ (U.calling g mk a).setFrames s₂.frames with heap := s₂.heap, slotsUsed := s₂.slotsUsed } : State).setVm s₂.vm := by
      have : s₂ = ({ s₂ with vm := (U.calling g mk a).vm } : State).setVm s₂.vm := rfl
      rw [e2] at this
      exact this
    obtain ⟨c₂, i₂, len₂, hc₂, hd₂, hf₂⟩ := hend
    have hW' : U.WarmedH s₂.vm := hW₂
    have hcc : c₂ = c := by
      have h1 : s₂.code? g.method = U.code? g.method := by
        rw [State.code?_eq, State.code?_eq, hW'.alike.method?]
      exact Option.some.inj (hc₂.symm.trans (h1.trans h.code))
    subst hcc
    have hlen : len₂ = len := by rw [hdg] at hd₂; cases hd₂; rfl
    subst hlen
    have hs₂ : s₂ = (({ U with heap := s₂.heap, slotsUsed := s₂.slotsUsed } : State).setVm s₂.vm).setTop { g with pc := g.pc + len₂, stack := v.toList ++ g.stack } := by
      refine e3.trans ?_
      rw [hf₂, State.calling_eq h.top, State.setFrames_setFrames, State.setTop_of_frames _ hr', hr]
      rfl
    have hsame : U.sameButNew ({ U with heap := s₂.heap, slotsUsed := s₂.slotsUsed } : State) L mc ms := by
      refine ⟨?_, q2, q3, q4, q5, q6⟩
      obtain ⟨t, ht, -⟩ := State.frames_cons hr
      show ({ U with heap := s₂.heap, slotsUsed := s₂.slotsUsed } : State) = { U.setFrames U.frames with heap := s₂.heap, slotsUsed := s₂.slotsUsed }
      rw [State.setFrames_self ht]
    subst hg
    refine Or.inl ⟨v, ⟨(({ U with heap := s₂.heap, slotsUsed := s₂.slotsUsed } : State).setVm s₂.vm), Ls ++ L, c0 + mc, s0 + ms⟩,
      ⟨X.admits, X.cas, X.clock, X.frames, X.room, X.hears, X.method, X.code, (X.here.setHeapUsed s₂.heap s₂.slotsUsed).setVm hW'.alike, X.tail, State.WarmedH.trans X.warmed hW', X.limits, X.bytes, X.same.trans (hsame.setVm s.vm)⟩,
      ⟨g, mk, s₂, L, rfl, rfl, hqc, rfl, hL, rfl, rfl⟩, ?_⟩
    show Steps p.tables e below _ ((({ U with heap := s₂.heap, slotsUsed := s₂.slotsUsed } : State).setVm s₂.vm).setTop { g with pc := g.pc + len₂, stack := v.toList ++ g.stack })
    rw [← hs₂]
    exact hsteps
  · obtain ⟨e2, q2, q3, q4, q5, q6⟩ := id hsm
    have e3 : s₂ = ({ (U.calling g mk a).setFrames s₂.frames with heap := s₂.heap, slotsUsed := s₂.slotsUsed } : State).setVm s₂.vm := by
      have : s₂ = ({ s₂ with vm := (U.calling g mk a).vm } : State).setVm s₂.vm := rfl
      rw [e2] at this
      exact this
    have hf₂ : s₂.frames = .throwing q :: .java g :: U.frames.tail := hend
    have hW' : U.WarmedH s₂.vm := hW₂
    have hs₂ : s₂ = ((({ U with heap := s₂.heap, slotsUsed := s₂.slotsUsed } : State).setVm s₂.vm).setTop g).pushFrame (.throwing q) := by
      refine e3.trans ?_
      rw [hf₂, State.calling_eq h.top, State.setFrames_setFrames, State.pushFrame, State.frames_setTop _ hr', State.setTop_of_frames _ hr', State.setFrames_setFrames, hr]
      rfl
    have hsame : U.sameButNew ({ U with heap := s₂.heap, slotsUsed := s₂.slotsUsed } : State) L mc ms := by
      refine ⟨?_, q2, q3, q4, q5, q6⟩
      obtain ⟨t, ht, -⟩ := State.frames_cons hr
      show ({ U with heap := s₂.heap, slotsUsed := s₂.slotsUsed } : State) = { U.setFrames U.frames with heap := s₂.heap, slotsUsed := s₂.slotsUsed }
      rw [State.setFrames_self ht]
    subst hg
    refine Or.inr ⟨q, ⟨(({ U with heap := s₂.heap, slotsUsed := s₂.slotsUsed } : State).setVm s₂.vm), Ls ++ L, c0 + mc, s0 + ms⟩,
      ⟨X.admits, X.cas, X.clock, X.frames, X.room, X.hears, X.method, X.code, (X.here.setHeapUsed s₂.heap s₂.slotsUsed).setVm hW'.alike, X.tail, State.WarmedH.trans X.warmed hW', X.limits, X.bytes, X.same.trans (hsame.setVm s.vm)⟩,
      ⟨g, mk, s₂, L, E, ce, rfl, rfl, hx, hce, hcv, hcl, rfl, hL, rfl, rfl⟩, ?_⟩
    show Steps p.tables e below _ (((({ U with heap := s₂.heap, slotsUsed := s₂.slotsUsed } : State).setVm s₂.vm).setTop g).pushFrame (.throwing q))
    rw [← hs₂]
    exact hsteps
end
variable {p : Program} {l : Launch} {e : Env} {R : Room} {s : State} {m : MethodId} {args : Array Value} {below : List Frame} {meth : Method} {c : Code} {T : State} {H : Heap} {locs : List Loc} {cells slots : Nat}
theorem vx_callVX (X : Stand p l e R s m args below meth c T locs cells slots) (hexec : p.tables.exec = Jvm.exec) {own C : String} {index : Nat} {y : MethodName} {bytes : ByteArray} {maxL : Nat} {ret : Option FieldType} {hh : List (Nat × Nat × Nat × Nat)}
    (hown : s.vm.findClass own = some m.cls) (hlink : (Cond.methodLink own index y).before args s = true) (hinst : (Cond.instanceMethod y).before args s = true) (hsel : (Cond.selects C y y).before args s = true)
    (hcode : (Cond.codeWith y bytes maxL ret hh).before args s = true) (hy : y.cls ≠ "java/lang/invoke/MethodHandle" ∧ y.cls ≠ "java/lang/invoke/VarHandle")
    {W9 : Nat} {Pre : Pt → Array Value → Prop} {Post : Pt → Array Value → Option Value → Pt → Prop} {PostX : Pt → Array Value → Addr → Pt → Prop} (hK : vx_Back l R p e below s args y 3 W9 Pre Post PostX)
    {b : Addr} {cellB : Cell} (hcell : T.heap[b]? = some cellB) (hobj : cellB.vm.isStatics = false) (hcls : s.vm.findClass C = some cellB.cls)
    {g : JFrame} (hg : g.method = m) (hsize : g.locals.size = c.maxLocals) {argsL rest : List Value} (hlen : ∀ sig, parseMethodDescriptor y.desc = some sig → argsL.length = sig.parameters.length)
    (hstack : g.stack = argsL.reverse ++ .ref b :: rest) (hW : 2 * g.monitorRoom + (rest.map fun v => v.category).sum ≤ W9) (hdg : decode c.code g.pc = .ok (.invokevirtual index, 3))
    (hpre : ∀ vm₁, s.WarmedH vm₁ → Pre ⟨T.setVm vm₁, locs, cells, slots⟩ (Value.ref b :: argsL).toArray) :
    (∃ (v : Option Value) (vm₁ : Vm) (B : Pt), s.WarmedH vm₁ ∧ Stand p l e R s m args below meth c B.U B.locs B.cells B.slots ∧ Post ⟨T.setVm vm₁, locs, cells, slots⟩ (Value.ref b :: argsL).toArray v B ∧
      ∀ target, Steps p.tables e below (B.U.setTop { g with pc := g.pc + 3, stack := v.toList ++ rest }) target → Steps p.tables e below (T.setTop g) target) ∨
    (∃ (q : Addr) (vm₁ : Vm) (B : Pt), s.WarmedH vm₁ ∧ Stand p l e R s m args below meth c B.U B.locs B.cells B.slots ∧ PostX ⟨T.setVm vm₁, locs, cells, slots⟩ (Value.ref b :: argsL).toArray q B ∧
      Steps p.tables e below (T.setTop g) ((B.U.setTop { g with stack := rest }).pushFrame (.throwing q))) := by
  obtain ⟨mk, methM, hnamed, hmethM, hstM, habM⟩ := Cond.instanceMethod_spec hinst
  obtain ⟨m8, methM', cM, hn8, hmethM', -, -, -, -, -, -, hsigM⟩ := Cond.codeWith_spec hcode
  cases Option.some.inj (hn8.symm.trans hnamed)
  cases hmethM.symm.trans hmethM'
  obtain ⟨c2, r2, m2, q1, q2, q3, q4, kP, hkP, hkPi⟩ := Cond.selects_spec hsel
  cases hcls.symm.trans q1
  cases (State.methodFound?_of_named hnamed hy).symm.trans q2
  cases hnamed.symm.trans q3
  have hselP : selectMethod e.platform s.vm cellB.cls mk = .method mk := by rw [Launch.admits_selectMethod X.admits]; exact q4
  obtain ⟨vm₁, X₁, hstep₁⟩ := X.invokevirtual hexec hown hlink hnamed hmethM hstM hkP hkPi hy (a := b) (cell := cellB) hcell
    (fun z h => by rw [h] at hobj; cases hobj) hselP hmethM habM hkP hkPi (g := g) hg (argsL := argsL) (rest := rest) (hlen _ hsigM) hstack hdg
  rcases hK m meth c ⟨T.setVm vm₁, locs, cells, slots⟩ { g with stack := rest } (.invokevirtual index) mk (Value.ref b :: argsL).toArray X₁ hg hsize hdg hW (X₁.named hnamed) (hpre vm₁ X₁.warmed) with ⟨v, B, X', hpost, hsteps⟩ | ⟨q, B, X', hpost, hsteps⟩
  · exact Or.inl ⟨v, vm₁, B, X₁.warmed, X', hpost, fun target h => hstep₁ _ fun acts => by rw [doInvoke_state]; exact hsteps.trans h⟩
  · exact Or.inr ⟨q, vm₁, B, X₁.warmed, X', hpost, hstep₁ _ fun acts => by rw [doInvoke_state]; exact hsteps⟩
theorem vx_callSX (X : Stand p l e R s m args below meth c T locs cells slots) (hexec : p.tables.exec = Jvm.exec) {own : String} {index : Nat} {y : MethodName} {bytes : ByteArray} {maxL : Nat} {ret : Option FieldType} {hh : List (Nat × Nat × Nat × Nat)}
    (hown : s.vm.findClass own = some m.cls) (hlink : (Cond.methodLink own index y).before args s = true) (hstat : (Cond.static y).before args s = true) (hinit : (Cond.initialized y.cls).before args s = true)
    (hcode : (Cond.codeWith y bytes maxL ret hh).before args s = true) (hy : y.cls ≠ "java/lang/invoke/MethodHandle" ∧ y.cls ≠ "java/lang/invoke/VarHandle")
    {W9 : Nat} {Pre : Pt → Array Value → Prop} {Post : Pt → Array Value → Option Value → Pt → Prop} {PostX : Pt → Array Value → Addr → Pt → Prop} (hK : vx_Back l R p e below s args y 3 W9 Pre Post PostX)
    {g : JFrame} (hg : g.method = m) (hsize : g.locals.size = c.maxLocals) {argsL rest : List Value} (hlen : ∀ sig, parseMethodDescriptor y.desc = some sig → argsL.length = sig.parameters.length)
    (hstack : g.stack = argsL.reverse ++ rest) (hW : 2 * g.monitorRoom + (rest.map fun v => v.category).sum ≤ W9) (hdg : decode c.code g.pc = .ok (.invokestatic index, 3))
    (hpre : ∀ vm₁, s.WarmedH vm₁ → Pre ⟨T.setVm vm₁, locs, cells, slots⟩ argsL.toArray) :
    (∃ (v : Option Value) (vm₁ : Vm) (B : Pt), s.WarmedH vm₁ ∧ Stand p l e R s m args below meth c B.U B.locs B.cells B.slots ∧ Post ⟨T.setVm vm₁, locs, cells, slots⟩ argsL.toArray v B ∧
      ∀ target, Steps p.tables e below (B.U.setTop { g with pc := g.pc + 3, stack := v.toList ++ rest }) target → Steps p.tables e below (T.setTop g) target) ∨
    (∃ (q : Addr) (vm₁ : Vm) (B : Pt), s.WarmedH vm₁ ∧ Stand p l e R s m args below meth c B.U B.locs B.cells B.slots ∧ PostX ⟨T.setVm vm₁, locs, cells, slots⟩ argsL.toArray q B ∧
      Steps p.tables e below (T.setTop g) ((B.U.setTop { g with stack := rest }).pushFrame (.throwing q))) := by
  obtain ⟨mk, methM, cM, hnamed, hmethM, -, -, -, -, -, -, hsigM⟩ := Cond.codeWith_spec hcode
  have hstatic : methM.isStatic = true := Cond.static_spec hnamed hmethM hstat
  obtain ⟨kP, hkP, -⟩ := className_of_methodNamed hnamed
  have hinitP : kP.init = .initialized := Cond.initialized_spec (findClass_of_methodNamed hnamed) hkP hinit
  obtain ⟨vm₁, X₁, hstep₁⟩ := X.invokestatic hexec hown hlink hnamed hmethM hstatic hkP hinitP hy (g := g) hg (argsL := argsL) (rest := rest) (hlen _ hsigM) hstack hdg
  rcases hK m meth c ⟨T.setVm vm₁, locs, cells, slots⟩ { g with stack := rest } (.invokestatic index) mk argsL.toArray X₁ hg hsize hdg hW (X₁.named hnamed) (hpre vm₁ X₁.warmed) with ⟨v, B, X', hpost, hsteps⟩ | ⟨q, B, X', hpost, hsteps⟩
  · exact Or.inl ⟨v, vm₁, B, X₁.warmed, X', hpost, fun target h => hstep₁ _ fun acts => by rw [doInvoke_state]; exact hsteps.trans h⟩
  · exact Or.inr ⟨q, vm₁, B, X₁.warmed, X', hpost, hstep₁ _ fun acts => by rw [doInvoke_state]; exact hsteps⟩
theorem vx_callVW (X : Stand p l e R s m args below meth c T locs cells slots) (hexec : p.tables.exec = Jvm.exec) {own C : String} {index : Nat} {y : MethodName} {bytes : ByteArray} {maxL : Nat} {ret : Option FieldType} {hh : List (Nat × Nat × Nat × Nat)}
    (hown : s.vm.findClass own = some m.cls) (hlink : (Cond.methodLink own index y).before args s = true) (hinst : (Cond.instanceMethod y).before args s = true) (hsel : (Cond.selects C y y).before args s = true)
    (hcode : (Cond.codeWith y bytes maxL ret hh).before args s = true) (hy : y.cls ≠ "java/lang/invoke/MethodHandle" ∧ y.cls ≠ "java/lang/invoke/VarHandle")
    {W9 : Nat} {Pre : Pt → Array Value → Prop} {Post : Pt → Array Value → Option Value → Pt → Prop} (hK : Back l R p e below s args y 3 W9 Pre Post)
    {b : Addr} {cellB : Cell} (hcell : T.heap[b]? = some cellB) (hobj : cellB.vm.isStatics = false) (hcls : s.vm.findClass C = some cellB.cls)
    {g : JFrame} (hg : g.method = m) (hsize : g.locals.size = c.maxLocals) {argsL rest : List Value} (hlen : ∀ sig, parseMethodDescriptor y.desc = some sig → argsL.length = sig.parameters.length)
    (hstack : g.stack = argsL.reverse ++ .ref b :: rest) (hW : 2 * g.monitorRoom + (rest.map fun v => v.category).sum ≤ W9) (hdg : decode c.code g.pc = .ok (.invokevirtual index, 3))
    (hpre : ∀ vm₁, s.WarmedH vm₁ → Pre ⟨T.setVm vm₁, locs, cells, slots⟩ (Value.ref b :: argsL).toArray) :
    ∃ (v : Option Value) (vm₁ : Vm) (B : Pt), s.WarmedH vm₁ ∧ Stand p l e R s m args below meth c B.U B.locs B.cells B.slots ∧ Post ⟨T.setVm vm₁, locs, cells, slots⟩ (Value.ref b :: argsL).toArray v B ∧
      ∀ target, Steps p.tables e below (B.U.setTop { g with pc := g.pc + 3, stack := v.toList ++ rest }) target → Steps p.tables e below (T.setTop g) target := by
  obtain ⟨mk, methM, hnamed, hmethM, hstM, habM⟩ := Cond.instanceMethod_spec hinst
  obtain ⟨m8, methM', cM, hn8, hmethM', -, -, -, -, -, -, hsigM⟩ := Cond.codeWith_spec hcode
  cases Option.some.inj (hn8.symm.trans hnamed)
  cases hmethM.symm.trans hmethM'
  obtain ⟨c2, r2, m2, q1, q2, q3, q4, kP, hkP, hkPi⟩ := Cond.selects_spec hsel
  cases hcls.symm.trans q1
  cases (State.methodFound?_of_named hnamed hy).symm.trans q2
  cases hnamed.symm.trans q3
  have hselP : selectMethod e.platform s.vm cellB.cls mk = .method mk := by rw [Launch.admits_selectMethod X.admits]; exact q4
  obtain ⟨vm₁, X₁, hstep₁⟩ := X.invokevirtual hexec hown hlink hnamed hmethM hstM hkP hkPi hy (a := b) (cell := cellB) hcell
    (fun z h => by rw [h] at hobj; cases hobj) hselP hmethM habM hkP hkPi (g := g) hg (argsL := argsL) (rest := rest) (hlen _ hsigM) hstack hdg
  obtain ⟨v, B, X', hpost, hsteps⟩ := hK m meth c ⟨T.setVm vm₁, locs, cells, slots⟩ { g with stack := rest } (.invokevirtual index) mk (Value.ref b :: argsL).toArray X₁ hg hsize hdg hW (X₁.named hnamed) (hpre vm₁ X₁.warmed)
  exact ⟨v, vm₁, B, X₁.warmed, X', hpost, fun target h => hstep₁ _ fun acts => by rw [doInvoke_state]; exact hsteps.trans h⟩
abbrev vx_CVW (R : Room) (s : State) (args : Array Value) (own C : String) (index : Nat) (y : MethodName) (bytes : ByteArray) (maxL : Nat) (ret : Option FieldType) (hh : List (Nat × Nat × Nat × Nat)) (ws : List Cond) (rm : Room) (mc ms n : Nat) : Prop :=
  (rm.cells = mc ∧ rm.slots = ms ∧ rm.frames + 1 ≤ R.frames ∧ 8 + (maxL + 11) + rm.locals ≤ R.locals ∧ (∀ w ∈ ws, ∀ (a' : Array Value) (U : State), s.WarmedH U.vm → w.before a' U = true) ∧ Cond.codeWith y bytes maxL ret hh ∈ ws) ∧
  (Cond.codeWith y bytes maxL ret hh).before args s = true ∧ (Cond.initialized y.cls).before args s = true ∧ (y.cls ≠ "java/lang/invoke/MethodHandle" ∧ y.cls ≠ "java/lang/invoke/VarHandle") ∧
  (∀ sig, parseMethodDescriptor y.desc = some sig → n = sig.parameters.length) ∧ (Cond.methodLink own index y).before args s = true ∧ (Cond.instanceMethod y).before args s = true ∧ (Cond.selects C y y).before args s = true
theorem vx_cwVW {own C : String} {index maxL mc ms : Nat} {y : MethodName} {bytes : ByteArray} {ret : Option FieldType} {hh : List (Nat × Nat × Nat × Nat)} {Ts ws ws' : List Cond} {rm : Room} (n : Nat) (ht : ∀ w ∈ Ts, w.before args s = true) (hT : GoodIn Ts (wsV own index C y ws)) (hw : ws = Cond.codeWith y bytes maxL ret hh :: ws') (hrc : rm.cells = mc) (hrs : rm.slots = ms)
    (hd : y.cls = C ∧ y.cls ≠ "java/lang/invoke/MethodHandle" ∧ y.cls ≠ "java/lang/invoke/VarHandle" ∧ (parseMethodDescriptor y.desc).map (fun d => d.parameters.length) = some n) (hR : rm.frames + 1 ≤ R.frames ∧ 8 + (maxL + 11) + rm.locals ≤ R.locals) :
    vx_CVW R s args own C index y bytes maxL ret hh ws rm mc ms n := by
  obtain ⟨hC, hd⟩ := hd
  subst hC
  have ok : ∀ w ∈ wsV own index y.cls y ws, w.before args s = true := fun w h => ht w (hT w h).1
  have hG : GoodIn Ts ws := fun w h => hT w (by unfold wsV; exact List.mem_append_right _ h)
  have hc : Cond.codeWith y bytes maxL ret hh ∈ ws := by rw [hw]; exact List.mem_cons_self
  refine ⟨⟨hrc, hrs, hR.1, hR.2, pay_in ht hG, hc⟩, ht _ (hG _ hc).1, ok _ (by simp [wsV]), ⟨hd.1, hd.2.1⟩, fun sig h => ?_, ok _ (by simp [wsV]), ok _ (by simp [wsV]), ok _ (by simp [wsV])⟩
  have h2 := hd.2.2
  rw [h] at h2
  exact (Option.some.inj h2).symm
theorem vx_runVW {y : MethodName} {bytes cc : ByteArray} {maxL nL mc ms n index : Nat} {ret : Option FieldType} {hh : List (Nat × Nat × Nat × Nat)} {ws : List Cond} {rm : Room} {Pc : Array Value → State → Prop} {Qc : Array Value → State → Outcome → State → Prop} {free : Addr → Prop} {Ts : List Cond} {own C : String} {b : Addr} {As rest : List Value} {g : JFrame}
    (S : CallFix p m c cc nL s args Ts own) (hM : Met l y ws rm Pc Qc mc ms free) (cw : vx_CVW R s args own C index y bytes maxL ret hh ws rm mc ms n) (hp : PreV s H C b Pc As)
    (hg : g.method = m) (hn : As.length = n) (hsize : g.locals.size = nL) (hstack : g.stack = As.reverse ++ .ref b :: rest) (hW : 2 * g.monitorRoom + (rest.map fun v => v.category).sum ≤ 8) (hdg : decode cc g.pc = .ok (.invokevirtual index, 3)) (hf : cells + mc ≤ R.cells ∧ slots + ms ≤ R.slots) :
    va_Run p l e R s m args below meth c H locs cells slots mc ms g rest (Qc (Value.ref b :: As).toArray) free := by
  obtain ⟨⟨hrc, hrs, hfr, hlo, hws, hcw⟩, hcode, hini, hy, hlen, hl, hin, hse⟩ := cw
  have hK : Back l R p e below s args y 3 8 (PreOf R mc ms Pc) (PostOf Qc mc ms free) := va_backW (hh := hh) (bytes := bytes) (maxL := maxL) (ret := ret) hM hp.1 hrc hrs hfr hlo hws hcw (fun a' U hW => word_at hW (Or.inl (by first | rfl | simp [Cond.onTables, Cond.keeps, Cond.steady])) hini)
  obtain ⟨hx, hb, hml, ho, -⟩ := S
  obtain ⟨-, ⟨cellB, hcB, hoB, hclB⟩, hPc⟩ := hp
  intro T hT X
  obtain ⟨v, vm₁, ⟨U', l2, c2, s2⟩, hW₁, X', ⟨g', mk, t, L, e1, e2, hq, h1, hL, h2, h3⟩, st⟩ := vx_callVW X hx (C := C) (hh := hh) (bytes := bytes) (maxL := maxL) (ret := ret) ho hl hin hse hcode hy hK (by rw [hT]; exact hcB) hoB hclB hg (hsize.trans hml.symm) (argsL := As) (rest := rest) (fun sig h => hn.trans (hlen sig h)) hstack hW (by rw [hb]; exact hdg)
    (fun vm₁ hW₁ => ⟨hf.1, hf.2, hPc (T.setVm vm₁) hT hW₁⟩)
  dsimp only [Pt.U, Pt.locs, Pt.cells, Pt.slots] at X' e1 e2 h1 h2 h3 st
  subst h1; subst h2; subst h3
  exact ⟨v, (T.setVm vm₁).calling g' mk (Value.ref b :: As).toArray, t, U', L, hT, X', hL, e1, e2, hq, st⟩
section
variable {y : MethodName} {bytes cc : ByteArray} {maxL nL mc ms n index : Nat} {ret : Option FieldType} {ws : List Cond} {rm : Room} {Pc : Array Value → State → Prop} {Qc : Array Value → State → Outcome → State → Prop} {XC : String → State → State → Prop} {free : Addr → Prop} {Ts : List Cond} {own C : String} {b : Addr} {As rest : List Value} {g : JFrame}
theorem vx_runVX {hh : List (Nat × Nat × Nat × Nat)} (S : CallFix p m c cc nL s args Ts own) (hM : vx_Met l y ws rm Pc Qc XC mc ms free) (cw : vx_CVW R s args own C index y bytes maxL ret hh ws rm mc ms n) (hp : PreV s H C b Pc As)
    (hg : g.method = m) (hn : As.length = n) (hsize : g.locals.size = nL) (hstack : g.stack = As.reverse ++ .ref b :: rest) (hW : 2 * g.monitorRoom + (rest.map fun v => v.category).sum ≤ 8) (hdg : decode cc g.pc = .ok (.invokevirtual index, 3)) (hf : cells + mc ≤ R.cells ∧ slots + ms ≤ R.slots) :
    vx_Run p l e R s m args below meth c H locs cells slots mc ms g rest (Qc (Value.ref b :: As).toArray) XC free := by
  obtain ⟨⟨hrc, hrs, hfr, hlo, hws, hcw⟩, hcode, hini, hy, hlen, hl, hin, hse⟩ := cw
  have hK : vx_Back l R p e below s args y 3 8 (PreOf R mc ms Pc) (PostOf Qc mc ms free) (vx_Post XC mc ms free) := vx_backW (hh := hh) (bytes := bytes) (maxL := maxL) (ret := ret) hM hp.1 hrc hrs hfr hlo hws hcw (fun a' U hW => word_at hW (Or.inl (by first | rfl | simp [Cond.onTables, Cond.keeps, Cond.steady])) hini)
  obtain ⟨hx, hb, hml, ho, -⟩ := S
  obtain ⟨-, ⟨cellB, hcB, hoB, hclB⟩, hPc⟩ := hp
  intro T hT X
  rcases vx_callVX X hx (C := C) (hh := hh) (bytes := bytes) (maxL := maxL) (ret := ret) ho hl hin hse hcode hy hK (by rw [hT]; exact hcB) hoB hclB hg (hsize.trans hml.symm) (argsL := As) (rest := rest) (fun sig h => hn.trans (hlen sig h)) hstack hW (by rw [hb]; exact hdg)
    (fun vm₁ hW₁ => ⟨hf.1, hf.2, hPc (T.setVm vm₁) hT hW₁⟩) with ⟨v, vm₁, ⟨U', l2, c2, s2⟩, hW₁, X', ⟨g', mk, t, L, e1, e2, hq, h1, hL, h2, h3⟩, st⟩ | ⟨q, vm₁, ⟨U', l2, c2, s2⟩, hW₁, X', ⟨g', mk, t, L, E, ce, e1, e2, hq, hce, hcv, hcl, h1, hL, h2, h3⟩, st⟩
  · dsimp only [Pt.U, Pt.locs, Pt.cells, Pt.slots] at X' e1 e2 h1 h2 h3 st
    subst h1; subst h2; subst h3
    exact Or.inl ⟨v, (T.setVm vm₁).calling g' mk (Value.ref b :: As).toArray, t, U', L, hT, X', hL, e1, e2, hq, st⟩
  · dsimp only [Pt.U, Pt.locs, Pt.cells, Pt.slots] at X' e1 e2 h1 h2 h3 st hcl
    subst h1; subst h2; subst h3
    exact Or.inr ⟨q, (T.setVm vm₁).calling g' mk (Value.ref b :: As).toArray, t, U', L, E, ce, hT, X', hL, e1, e2, hq, hce, hcv, vx_cls hW₁ hcl, st⟩
theorem vx_runSX {hh : List (Nat × Nat × Nat × Nat)} (S : CallFix p m c cc nL s args Ts own) (hM : vx_Met l y ws rm Pc Qc XC mc ms free) (cw : vx_CSW R s args own index y bytes maxL ret hh ws rm mc ms n) (hp : PreS s H Pc As)
    (hg : g.method = m) (hn : As.length = n) (hsize : g.locals.size = nL) (hstack : g.stack = As.reverse ++ rest) (hW : 2 * g.monitorRoom + (rest.map fun v => v.category).sum ≤ 8) (hdg : decode cc g.pc = .ok (.invokestatic index, 3)) (hf : cells + mc ≤ R.cells ∧ slots + ms ≤ R.slots) :
    vx_Run p l e R s m args below meth c H locs cells slots mc ms g rest (Qc As.toArray) XC free := by
  obtain ⟨⟨hrc, hrs, hfr, hlo, hws, hcw⟩, hcode, hini, hy, hlen, hl, hstt⟩ := cw
  have hK : vx_Back l R p e below s args y 3 8 (PreOf R mc ms Pc) (PostOf Qc mc ms free) (vx_Post XC mc ms free) := vx_backW (hh := hh) (bytes := bytes) (maxL := maxL) (ret := ret) hM hp.1 hrc hrs hfr hlo hws hcw (fun a' U hW => word_at hW (Or.inl (by first | rfl | simp [Cond.onTables, Cond.keeps, Cond.steady])) hini)
  obtain ⟨hx, hb, hml, ho, -⟩ := S
  intro T hT X
  rcases vx_callSX X hx (hh := hh) (bytes := bytes) (maxL := maxL) (ret := ret) ho hl hstt hini hcode hy hK hg (hsize.trans hml.symm) (argsL := As) (rest := rest) (fun sig h => hn.trans (hlen sig h)) hstack hW (by rw [hb]; exact hdg)
    (fun vm₁ hW₁ => ⟨hf.1, hf.2, hp.2 (T.setVm vm₁) hT hW₁⟩) with ⟨v, vm₁, ⟨U', l2, c2, s2⟩, hW₁, X', ⟨g', mk, t, L, e1, e2, hq, h1, hL, h2, h3⟩, st⟩ | ⟨q, vm₁, ⟨U', l2, c2, s2⟩, hW₁, X', ⟨g', mk, t, L, E, ce, e1, e2, hq, hce, hcv, hcl, h1, hL, h2, h3⟩, st⟩
  · dsimp only [Pt.U, Pt.locs, Pt.cells, Pt.slots] at X' e1 e2 h1 h2 h3 st
    subst h1; subst h2; subst h3
    exact Or.inl ⟨v, (T.setVm vm₁).calling g' mk As.toArray, t, U', L, hT, X', hL, e1, e2, hq, st⟩
  · dsimp only [Pt.U, Pt.locs, Pt.cells, Pt.slots] at X' e1 e2 h1 h2 h3 st hcl
    subst h1; subst h2; subst h3
    exact Or.inr ⟨q, (T.setVm vm₁).calling g' mk As.toArray, t, U', L, E, ce, hT, X', hL, e1, e2, hq, hce, hcv, vx_cls hW₁ hcl, st⟩
end
end VXH
theorem vx_ofWH {l : Launch} {y : MethodName} {ws ws' : List Cond} {rm : Room} {Pc : Array Value → State → Prop} {Qc : Array Value → State → Outcome → State → Prop} {XC : String → State → State → Prop} {mc ms : Nat} {free : Addr → Prop} {cc : ByteArray} {maxL : Nat} {ret : Option FieldType} {hh : List (Nat × Nat × Nat × Nat)}
    (hy : plainName y.cls = true) (hw : ws = Cond.codeWith y cc maxL ret hh :: ws')
    (body : ∀ p e s m args below meth c s₁, BodyLoose p l y (headSpec ws rm) cc maxL ret e s m args below meth c s₁ → c.maxLocals = maxL → Pc args s →
      W p l e (headSpec ws rm).room s m args below meth c s.heap [] 0 0 (vx_MQ below Qc XC args s mc ms free) (entryFrame m args maxL)) : vx_Met l y ws rm Pc Qc XC mc ms free := by
  refine MetFree.of_bodyS (code := cc) (maxLocals := maxL) (ret := ret) hy ?_ ?_
  · intro args s m h hn
    obtain ⟨m9, meth, c, hn9, h1, h2, h3, h4, -, h5, h6, -⟩ := Cond.codeWith_spec (atoms_spec (ws := ws) h _ (by rw [hw]; exact List.mem_cons_self))
    cases hn.symm.trans hn9
    exact ⟨meth, c, h1, h2, h3, h4, h5, h6⟩
  · intro p e s m args below meth c s₁ B hml hP _
    have hh0 : s₁.heap = s.heap := by rw [B.state]; rfl
    obtain ⟨t, a1, o, b1, b2, b3⟩ := body p e s m args below meth c s₁ B hml hP s₁ hh0 (Stand.of_body B)
    exact ⟨t, o, a1, b1, b2, b3⟩
/-! ===== END ===== -/
end
section
def RX0 : String := "PipeMoulds$Table"
def TX0 : u_T := fun k => match k with
  | 0 => ("PipeMoulds$Table", "cells", "[I", true)
  | 1 => ("PipeMoulds$Table", "columns", "I", true)
  | _ => ("PipeMoulds$Table", "rows", "I", false)
def tyX0 : Nat → FieldType := fun k => match k with
  | 0 => .array .int
  | 1 => .int
  | _ => .int
abbrev wsX00 : List Cond := u_ws RX0 TX0 3
theorem nmX0 : ∀ a, a < 3 → ∀ b, b < 3 → a ≠ b → (TX0 a).2.1 ≠ (TX0 b).2.1 := by decide +kernel
theorem tyX0_ok : ∀ k, k < 3 → parseFieldDescriptor (TX0 k).2.2.1 = some (tyX0 k) := by decide +kernel
abbrev cX0_init : ByteArray := prog_2_method_1_code
def yX0_init : MethodName := ⟨RX0, "<init>", "([III)V"⟩
abbrev cX0_copyFrom : ByteArray := prog_2_method_2_code
def yX0_copyFrom : MethodName := ⟨RX0, "copyFrom", "(LPipeMoulds$Table;)V"⟩
abbrev cX0_size : ByteArray := prog_2_method_3_code
def yX0_size : MethodName := ⟨RX0, "size", "()I"⟩
abbrev cX0_isFull : ByteArray := prog_2_method_4_code
def yX0_isFull : MethodName := ⟨RX0, "isFull", "()Z"⟩
abbrev cX0_width : ByteArray := prog_2_method_5_code
def yX0_width : MethodName := ⟨RX0, "width", "()I"⟩
abbrev cX0_hasRow : ByteArray := prog_2_method_6_code
def yX0_hasRow : MethodName := ⟨RX0, "hasRow", "(I)Z"⟩
abbrev cX0_hasColumn : ByteArray := prog_2_method_7_code
def yX0_hasColumn : MethodName := ⟨RX0, "hasColumn", "(I)Z"⟩
abbrev cX0_at : ByteArray := prog_2_method_8_code
def yX0_at : MethodName := ⟨RX0, "at", "(II)I"⟩
abbrev cX0_put : ByteArray := prog_2_method_9_code
def yX0_put : MethodName := ⟨RX0, "put", "(III)V"⟩
abbrev cX0_addRow : ByteArray := prog_2_method_10_code
def yX0_addRow : MethodName := ⟨RX0, "addRow", "()I"⟩
abbrev cX0_removeRow : ByteArray := prog_2_method_11_code
def yX0_removeRow : MethodName := ⟨RX0, "removeRow", "(I)V"⟩
abbrev cX0_sum : ByteArray := prog_2_method_12_code
def yX0_sum : MethodName := ⟨RX0, "sum", "(I)I"⟩
def RX1 : String := "PipeMoulds$Works"
def TX1 : u_T := fun k => match k with
  | 0 => ("PipeMoulds$Works", "moulds", "LPipeMoulds$Table;", true)
  | 1 => ("PipeMoulds$Works", "makers", "LPipeMoulds$Table;", true)
  | 2 => ("PipeMoulds$Works", "boards", "LPipeMoulds$Table;", true)
  | 3 => ("PipeMoulds$Works", "saggars", "LPipeMoulds$Table;", true)
  | 4 => ("PipeMoulds$Works", "orders", "LPipeMoulds$Table;", true)
  | 5 => ("PipeMoulds$Works", "drying", "[I", true)
  | 6 => ("PipeMoulds$Works", "whole", "[I", true)
  | 7 => ("PipeMoulds$Works", "day", "I", false)
  | 8 => ("PipeMoulds$Works", "clay", "I", false)
  | 9 => ("PipeMoulds$Works", "coals", "I", false)
  | 10 => ("PipeMoulds$Works", "coins", "I", false)
  | 11 => ("PipeMoulds$Works", "made", "I", false)
  | 12 => ("PipeMoulds$Works", "broken", "I", false)
  | 13 => ("PipeMoulds$Works", "served", "I", false)
  | 14 => ("PipeMoulds$Works", "lost", "I", false)
  | 15 => ("PipeMoulds$Works", "watched", "I", false)
  | _ => ("PipeMoulds$Works", "isWatchedServed", "Z", false)
def tyX1 : Nat → FieldType := fun k => match k with
  | 0 => .object "PipeMoulds$Table"
  | 1 => .object "PipeMoulds$Table"
  | 2 => .object "PipeMoulds$Table"
  | 3 => .object "PipeMoulds$Table"
  | 4 => .object "PipeMoulds$Table"
  | 5 => .array .int
  | 6 => .array .int
  | 7 => .int
  | 8 => .int
  | 9 => .int
  | 10 => .int
  | 11 => .int
  | 12 => .int
  | 13 => .int
  | 14 => .int
  | 15 => .int
  | _ => .boolean
abbrev wsX10 : List Cond := u_ws RX1 TX1 17
theorem nmX1 : ∀ a, a < 17 → ∀ b, b < 17 → a ≠ b → (TX1 a).2.1 ≠ (TX1 b).2.1 := by decide +kernel
theorem tyX1_ok : ∀ k, k < 17 → parseFieldDescriptor (TX1 k).2.2.1 = some (tyX1 k) := by decide +kernel
abbrev cX1_init : ByteArray := prog_3_method_1_code
def yX1_init : MethodName := ⟨RX1, "<init>", "()V"⟩
abbrev cX1_copyFrom : ByteArray := prog_3_method_2_code
def yX1_copyFrom : MethodName := ⟨RX1, "copyFrom", "(LPipeMoulds$Works;)V"⟩
abbrev cX1_addMould : ByteArray := prog_3_method_3_code
def yX1_addMould : MethodName := ⟨RX1, "addMould", "(II)I"⟩
abbrev cX1_addMaker : ByteArray := prog_3_method_4_code
def yX1_addMaker : MethodName := ⟨RX1, "addMaker", "(I)I"⟩
abbrev cX1_addOrder : ByteArray := prog_3_method_5_code
def yX1_addOrder : MethodName := ⟨RX1, "addOrder", "(IIII)I"⟩
abbrev cX1_pay : ByteArray := prog_3_method_6_code
def yX1_pay : MethodName := ⟨RX1, "pay", "(I)V"⟩
abbrev cX1_addClay : ByteArray := prog_3_method_7_code
def yX1_addClay : MethodName := ⟨RX1, "addClay", "(I)I"⟩
abbrev cX1_addCoals : ByteArray := prog_3_method_8_code
def yX1_addCoals : MethodName := ⟨RX1, "addCoals", "(I)I"⟩
abbrev cX1_driesBy : ByteArray := prog_3_method_9_code
def yX1_driesBy : MethodName := ⟨RX1, "driesBy", "(I)I"⟩
abbrev cX1_setDrying : ByteArray := prog_3_method_10_code
def yX1_setDrying : MethodName := ⟨RX1, "setDrying", "(II)V"⟩
abbrev cX1_wholeOf : ByteArray := prog_3_method_11_code
def yX1_wholeOf : MethodName := ⟨RX1, "wholeOf", "(I)I"⟩
abbrev cX1_addWhole : ByteArray := prog_3_method_12_code
def yX1_addWhole : MethodName := ⟨RX1, "addWhole", "(II)V"⟩
abbrev cX1_wholeInAll : ByteArray := prog_3_method_13_code
def yX1_wholeInAll : MethodName := ⟨RX1, "wholeInAll", "()I"⟩
abbrev cX1_flawOf : ByteArray := prog_3_method_14_code
def yX1_flawOf : MethodName := ⟨RX1, "flawOf", "(I)I"⟩
abbrev cX1_clayOf : ByteArray := prog_3_method_15_code
def yX1_clayOf : MethodName := ⟨RX1, "clayOf", "(I)I"⟩
abbrev cX1_makerAt : ByteArray := prog_3_method_16_code
def yX1_makerAt : MethodName := ⟨RX1, "makerAt", "(I)I"⟩
abbrev cX1_isAnotherAt : ByteArray := prog_3_method_17_code
def yX1_isAnotherAt : MethodName := ⟨RX1, "isAnotherAt", "(II)Z"⟩
abbrev cX1_aboutMould : ByteArray := prog_3_method_18_code
def yX1_aboutMould : MethodName := ⟨RX1, "aboutMould", "(II)I"⟩
abbrev cX1_counted : ByteArray := prog_3_method_19_code
def yX1_counted : MethodName := ⟨RX1, "counted", "(I)I"⟩
abbrev cX1_packPipes : ByteArray := prog_3_method_20_code
def yX1_packPipes : MethodName := ⟨RX1, "packPipes", "(III)I"⟩
abbrev cX1_areSaggarsEmpty : ByteArray := prog_3_method_21_code
def yX1_areSaggarsEmpty : MethodName := ⟨RX1, "areSaggarsEmpty", "()Z"⟩
abbrev cX1_stemsThatBreak : ByteArray := prog_3_method_22_code
def yX1_stemsThatBreak : MethodName := ⟨RX1, "stemsThatBreak", "(II)I"⟩
abbrev cX1_stemsThatBreakInAll : ByteArray := prog_3_method_23_code
def yX1_stemsThatBreakInAll : MethodName := ⟨RX1, "stemsThatBreakInAll", "(I)I"⟩
abbrev cX1_bestCoals : ByteArray := prog_3_method_24_code
def yX1_bestCoals : MethodName := ⟨RX1, "bestCoals", "()I"⟩
abbrev cX1_fireKiln : ByteArray := prog_3_method_25_code
def yX1_fireKiln : MethodName := ⟨RX1, "fireKiln", "(I)I"⟩
abbrev cX1_unloadFired : ByteArray := prog_3_method_26_code
def yX1_unloadFired : MethodName := ⟨RX1, "unloadFired", "(II)I"⟩
abbrev cX1_passDays : ByteArray := prog_3_method_27_code
def yX1_passDays : MethodName := ⟨RX1, "passDays", "(I)V"⟩
abbrev cX1_passDay : ByteArray := prog_3_method_28_code
def yX1_passDay : MethodName := ⟨RX1, "passDay", "()V"⟩
abbrev cX1_letWork : ByteArray := prog_3_method_29_code
def yX1_letWork : MethodName := ⟨RX1, "letWork", "(I)V"⟩
abbrev cX1_layOnBoards : ByteArray := prog_3_method_30_code
def yX1_layOnBoards : MethodName := ⟨RX1, "layOnBoards", "(II)V"⟩
abbrev cX1_wearMould : ByteArray := prog_3_method_31_code
def yX1_wearMould : MethodName := ⟨RX1, "wearMould", "(II)V"⟩
abbrev cX1_dry : ByteArray := prog_3_method_32_code
def yX1_dry : MethodName := ⟨RX1, "dry", "(LPipeMoulds$Table;I)V"⟩
abbrev cX1_lookAtOrders : ByteArray := prog_3_method_33_code
def yX1_lookAtOrders : MethodName := ⟨RX1, "lookAtOrders", "()V"⟩
abbrev cX1_lookAtOrder : ByteArray := prog_3_method_34_code
def yX1_lookAtOrder : MethodName := ⟨RX1, "lookAtOrder", "(I)Z"⟩
abbrev cX1_dismiss : ByteArray := prog_3_method_35_code
def yX1_dismiss : MethodName := ⟨RX1, "dismiss", "(IZ)V"⟩
abbrev cX1_daysTillServed : ByteArray := prog_3_method_36_code
def yX1_daysTillServed : MethodName := ⟨RX1, "daysTillServed", "(I)I"⟩
abbrev cX1_meanFlaw : ByteArray := prog_3_method_37_code
def yX1_meanFlaw : MethodName := ⟨RX1, "meanFlaw", "()D"⟩
abbrev cX1_checksum : ByteArray := prog_3_method_38_code
def yX1_checksum : MethodName := ⟨RX1, "checksum", "()J"⟩
abbrev cX1_withMoulds : ByteArray := prog_3_method_39_code
def yX1_withMoulds : MethodName := ⟨RX1, "withMoulds", "(J)J"⟩
abbrev cX1_withTable : ByteArray := prog_3_method_40_code
def yX1_withTable : MethodName := ⟨RX1, "withTable", "(JLPipeMoulds$Table;)J"⟩
def RX2 : String := "PipeMoulds"
def TX2 : u_T := fun k => match k with
  | 0 => ("PipeMoulds", "works", "LPipeMoulds$Works;", true)
  | _ => ("PipeMoulds", "foreseen", "LPipeMoulds$Works;", true)
def tyX2 : Nat → FieldType := fun k => match k with
  | 0 => .object "PipeMoulds$Works"
  | _ => .object "PipeMoulds$Works"
abbrev wsX20 : List Cond := u_ws RX2 TX2 2
theorem nmX2 : ∀ a, a < 2 → ∀ b, b < 2 → a ≠ b → (TX2 a).2.1 ≠ (TX2 b).2.1 := by decide +kernel
theorem tyX2_ok : ∀ k, k < 2 → parseFieldDescriptor (TX2 k).2.2.1 = some (tyX2 k) := by decide +kernel
abbrev cX2_init : ByteArray := prog_1_method_1_code
def yX2_init : MethodName := ⟨RX2, "<init>", "()V"⟩
abbrev cX2_mould : ByteArray := prog_1_method_2_code
def yX2_mould : MethodName := ⟨RX2, "mould", "(II)I"⟩
abbrev cX2_refit : ByteArray := prog_1_method_3_code
def yX2_refit : MethodName := ⟨RX2, "refit", "(I)I"⟩
abbrev cX2_maker : ByteArray := prog_1_method_4_code
def yX2_maker : MethodName := ⟨RX2, "maker", "(I)I"⟩
abbrev cX2_place : ByteArray := prog_1_method_5_code
def yX2_place : MethodName := ⟨RX2, "place", "(II)I"⟩
abbrev cX2_buy : ByteArray := prog_1_method_6_code
def yX2_buy : MethodName := ⟨RX2, "buy", "(II)I"⟩
abbrev cX2_setDry : ByteArray := prog_1_method_7_code
def yX2_setDry : MethodName := ⟨RX2, "setDry", "(II)I"⟩
abbrev cX2_pack : ByteArray := prog_1_method_8_code
def yX2_pack : MethodName := ⟨RX2, "pack", "(III)I"⟩
abbrev cX2_fire : ByteArray := prog_1_method_9_code
def yX2_fire : MethodName := ⟨RX2, "fire", "(I)I"⟩
abbrev cX2_order : ByteArray := prog_1_method_10_code
def yX2_order : MethodName := ⟨RX2, "order", "(IIII)I"⟩
abbrev cX2_about : ByteArray := prog_1_method_11_code
def yX2_about : MethodName := ⟨RX2, "about", "(II)I"⟩
abbrev cX2_told : ByteArray := prog_1_method_12_code
def yX2_told : MethodName := ⟨RX2, "told", "(II)I"⟩
abbrev cX2_batch : ByteArray := prog_1_method_13_code
def yX2_batch : MethodName := ⟨RX2, "batch", "(II)I"⟩
abbrev cX2_saggar : ByteArray := prog_1_method_14_code
def yX2_saggar : MethodName := ⟨RX2, "saggar", "(II)I"⟩
abbrev cX2_store : ByteArray := prog_1_method_15_code
def yX2_store : MethodName := ⟨RX2, "store", "(I)I"⟩
abbrev cX2_waits : ByteArray := prog_1_method_16_code
def yX2_waits : MethodName := ⟨RX2, "waits", "(II)I"⟩
abbrev cX2_count : ByteArray := prog_1_method_17_code
def yX2_count : MethodName := ⟨RX2, "count", "(I)I"⟩
abbrev cX2_pass : ByteArray := prog_1_method_18_code
def yX2_pass : MethodName := ⟨RX2, "pass", "(I)I"⟩
abbrev cX2_breaks : ByteArray := prog_1_method_19_code
def yX2_breaks : MethodName := ⟨RX2, "breaks", "(II)I"⟩
abbrev cX2_advise : ByteArray := prog_1_method_20_code
def yX2_advise : MethodName := ⟨RX2, "advise", "()I"⟩
abbrev cX2_ready : ByteArray := prog_1_method_21_code
def yX2_ready : MethodName := ⟨RX2, "ready", "(I)I"⟩
abbrev cX2_foresee : ByteArray := prog_1_method_22_code
def yX2_foresee : MethodName := ⟨RX2, "foresee", "(II)I"⟩
abbrev cX2_mean : ByteArray := prog_1_method_23_code
def yX2_mean : MethodName := ⟨RX2, "mean", "()D"⟩
abbrev cX2_digest : ByteArray := prog_1_method_24_code
def yX2_digest : MethodName := ⟨RX2, "digest", "()J"⟩
abbrev cX2_isWithin : ByteArray := prog_1_method_25_code
def yX2_isWithin : MethodName := ⟨RX2, "isWithin", "(III)Z"⟩
abbrev cX2_isLength : ByteArray := prog_1_method_26_code
def yX2_isLength : MethodName := ⟨RX2, "isLength", "(I)Z"⟩
abbrev cX2_cellOf : ByteArray := prog_1_method_27_code
def yX2_cellOf : MethodName := ⟨RX2, "cellOf", "(LPipeMoulds$Table;II)I"⟩
abbrev cX2_requireIndex : ByteArray := prog_1_method_28_code
def yX2_requireIndex : MethodName := ⟨RX2, "requireIndex", "(Z)V"⟩
abbrev cX2_requireArgument : ByteArray := prog_1_method_29_code
def yX2_requireArgument : MethodName := ⟨RX2, "requireArgument", "(Z)V"⟩
abbrev cX2_requireState : ByteArray := prog_1_method_30_code
def yX2_requireState : MethodName := ⟨RX2, "requireState", "(Z)V"⟩
def RX3 : String := "PipeMouldsModel$State"
def TX3 : u_T := fun k => match k with
  | 0 => ("PipeMouldsModel$State", "day", "I", false)
  | 1 => ("PipeMouldsModel$State", "clay", "I", false)
  | 2 => ("PipeMouldsModel$State", "coals", "I", false)
  | 3 => ("PipeMouldsModel$State", "coins", "I", false)
  | 4 => ("PipeMouldsModel$State", "made", "I", false)
  | 5 => ("PipeMouldsModel$State", "broken", "I", false)
  | 6 => ("PipeMouldsModel$State", "served", "I", false)
  | 7 => ("PipeMouldsModel$State", "lost", "I", false)
  | 8 => ("PipeMouldsModel$State", "tight", "[I", true)
  | 9 => ("PipeMouldsModel$State", "worn", "[I", true)
  | 10 => ("PipeMouldsModel$State", "batches", "I", false)
  | 11 => ("PipeMouldsModel$State", "ware", "[[I", true)
  | 12 => ("PipeMouldsModel$State", "store", "[I", true)
  | 13 => ("PipeMouldsModel$State", "orders", "I", false)
  | 14 => ("PipeMouldsModel$State", "order", "[[I", true)
  | 15 => ("PipeMouldsModel$State", "watched", "I", false)
  | 16 => ("PipeMouldsModel$State", "end", "I", false)
  | _ => ("PipeMouldsModel$State", "this$0", "LPipeMouldsModel;", true)
def tyX3 : Nat → FieldType := fun k => match k with
  | 0 => .int
  | 1 => .int
  | 2 => .int
  | 3 => .int
  | 4 => .int
  | 5 => .int
  | 6 => .int
  | 7 => .int
  | 8 => .array .int
  | 9 => .array .int
  | 10 => .int
  | 11 => .array (.array .int)
  | 12 => .array .int
  | 13 => .int
  | 14 => .array (.array .int)
  | 15 => .int
  | 16 => .int
  | _ => .object "PipeMouldsModel"
abbrev wsX30 : List Cond := u_ws RX3 TX3 18
theorem nmX3 : ∀ a, a < 18 → ∀ b, b < 18 → a ≠ b → (TX3 a).2.1 ≠ (TX3 b).2.1 := by decide +kernel
theorem tyX3_ok : ∀ k, k < 18 → parseFieldDescriptor (TX3 k).2.2.1 = some (tyX3 k) := by decide +kernel
abbrev cX3_init : ByteArray := prog_6_method_1_code
def yX3_init : MethodName := ⟨RX3, "<init>", "(LPipeMouldsModel;)V"⟩
abbrev cX3_become : ByteArray := prog_6_method_2_code
def yX3_become : MethodName := ⟨RX3, "become", "(LPipeMouldsModel$State;)LPipeMouldsModel$State;"⟩
abbrev cX3_flaw : ByteArray := prog_6_method_3_code
def yX3_flaw : MethodName := ⟨RX3, "flaw", "(I)I"⟩
abbrev cX3_saggar : ByteArray := prog_6_method_4_code
def yX3_saggar : MethodName := ⟨RX3, "saggar", "(I)[I"⟩
abbrev cX3_put : ByteArray := prog_6_method_5_code
def yX3_put : MethodName := ⟨RX3, "put", "([IIIII)V"⟩
abbrev cX3_make : ByteArray := prog_6_method_6_code
def yX3_make : MethodName := ⟨RX3, "make", "(I)V"⟩
abbrev cX3_serve : ByteArray := prog_6_method_7_code
def yX3_serve : MethodName := ⟨RX3, "serve", "()V"⟩
abbrev cX3_pass : ByteArray := prog_6_method_8_code
def yX3_pass : MethodName := ⟨RX3, "pass", "()V"⟩
abbrev cX3_pass_ : ByteArray := prog_6_method_9_code
def yX3_pass_ : MethodName := ⟨RX3, "pass", "(I)V"⟩
abbrev cX3_takeBatch : ByteArray := prog_6_method_10_code
def yX3_takeBatch : MethodName := ⟨RX3, "takeBatch", "(I)V"⟩
abbrev cX3_breaks : ByteArray := prog_6_method_11_code
def yX3_breaks : MethodName := ⟨RX3, "breaks", "(II)I"⟩
abbrev cX3_pipes : ByteArray := prog_6_method_12_code
def yX3_pipes : MethodName := ⟨RX3, "pipes", "(II)I"⟩
abbrev cX3_inSaggars : ByteArray := prog_6_method_13_code
def yX3_inSaggars : MethodName := ⟨RX3, "inSaggars", "()I"⟩
abbrev cX3_stored : ByteArray := prog_6_method_14_code
def yX3_stored : MethodName := ⟨RX3, "stored", "()I"⟩
abbrev cX3_counted : ByteArray := prog_6_method_15_code
def yX3_counted : MethodName := ⟨RX3, "counted", "(I)I"⟩
def RX4 : String := "PipeMouldsModel"
def TX4 : u_T := fun k => match k with
  | 0 => ("PipeMouldsModel", "thrown", "I", false)
  | 1 => ("PipeMouldsModel", "dry", "[I", true)
  | 2 => ("PipeMouldsModel", "moulds", "I", false)
  | 3 => ("PipeMouldsModel", "length", "[I", true)
  | 4 => ("PipeMouldsModel", "makers", "I", false)
  | 5 => ("PipeMouldsModel", "skill", "[I", true)
  | 6 => ("PipeMouldsModel", "at", "[I", true)
  | 7 => ("PipeMouldsModel", "s", "LPipeMouldsModel$State;", true)
  | _ => ("PipeMouldsModel", "ahead", "LPipeMouldsModel$State;", true)
def tyX4 : Nat → FieldType := fun k => match k with
  | 0 => .int
  | 1 => .array .int
  | 2 => .int
  | 3 => .array .int
  | 4 => .int
  | 5 => .array .int
  | 6 => .array .int
  | 7 => .object "PipeMouldsModel$State"
  | _ => .object "PipeMouldsModel$State"
abbrev wsX40 : List Cond := u_ws RX4 TX4 9
theorem nmX4 : ∀ a, a < 9 → ∀ b, b < 9 → a ≠ b → (TX4 a).2.1 ≠ (TX4 b).2.1 := by decide +kernel
theorem tyX4_ok : ∀ k, k < 9 → parseFieldDescriptor (TX4 k).2.2.1 = some (tyX4 k) := by decide +kernel
abbrev cX4_init : ByteArray := prog_5_method_1_code
def yX4_init : MethodName := ⟨RX4, "<init>", "()V"⟩
abbrev cX4_thrown : ByteArray := prog_5_method_2_code
def yX4_thrown : MethodName := ⟨RX4, "thrown", "()I"⟩
abbrev cX4_no : ByteArray := prog_5_method_3_code
def yX4_no : MethodName := ⟨RX4, "no", "(I)I"⟩
abbrev cX4_isIn : ByteArray := prog_5_method_4_code
def yX4_isIn : MethodName := ⟨RX4, "isIn", "(III)Z"⟩
abbrev cX4_isLength : ByteArray := prog_5_method_5_code
def yX4_isLength : MethodName := ⟨RX4, "isLength", "(I)Z"⟩
abbrev cX4_isMould : ByteArray := prog_5_method_6_code
def yX4_isMould : MethodName := ⟨RX4, "isMould", "(I)Z"⟩
abbrev cX4_isMaker : ByteArray := prog_5_method_7_code
def yX4_isMaker : MethodName := ⟨RX4, "isMaker", "(I)Z"⟩
abbrev cX4_isBatch : ByteArray := prog_5_method_8_code
def yX4_isBatch : MethodName := ⟨RX4, "isBatch", "(I)Z"⟩
abbrev cX4_isSaggar : ByteArray := prog_5_method_9_code
def yX4_isSaggar : MethodName := ⟨RX4, "isSaggar", "(I)Z"⟩
abbrev cX4_clayOf : ByteArray := prog_5_method_10_code
def yX4_clayOf : MethodName := ⟨RX4, "clayOf", "(I)I"⟩
abbrev cX4_mould : ByteArray := prog_5_method_11_code
def yX4_mould : MethodName := ⟨RX4, "mould", "(II)I"⟩
abbrev cX4_refit : ByteArray := prog_5_method_12_code
def yX4_refit : MethodName := ⟨RX4, "refit", "(I)I"⟩
abbrev cX4_maker : ByteArray := prog_5_method_13_code
def yX4_maker : MethodName := ⟨RX4, "maker", "(I)I"⟩
abbrev cX4_makerAt : ByteArray := prog_5_method_14_code
def yX4_makerAt : MethodName := ⟨RX4, "makerAt", "(I)I"⟩
abbrev cX4_place : ByteArray := prog_5_method_15_code
def yX4_place : MethodName := ⟨RX4, "place", "(II)I"⟩
abbrev cX4_buy : ByteArray := prog_5_method_16_code
def yX4_buy : MethodName := ⟨RX4, "buy", "(II)I"⟩
abbrev cX4_setDry : ByteArray := prog_5_method_17_code
def yX4_setDry : MethodName := ⟨RX4, "setDry", "(II)I"⟩
abbrev cX4_pack : ByteArray := prog_5_method_18_code
def yX4_pack : MethodName := ⟨RX4, "pack", "(III)I"⟩
abbrev cX4_fire : ByteArray := prog_5_method_19_code
def yX4_fire : MethodName := ⟨RX4, "fire", "(I)I"⟩
abbrev cX4_order : ByteArray := prog_5_method_20_code
def yX4_order : MethodName := ⟨RX4, "order", "(IIII)I"⟩
abbrev cX4_mouldTold : ByteArray := prog_5_method_21_code
def yX4_mouldTold : MethodName := ⟨RX4, "mouldTold", "(II)I"⟩
abbrev cX4_about : ByteArray := prog_5_method_22_code
def yX4_about : MethodName := ⟨RX4, "about", "(II)I"⟩
abbrev cX4_makerTold : ByteArray := prog_5_method_23_code
def yX4_makerTold : MethodName := ⟨RX4, "makerTold", "(II)I"⟩
abbrev cX4_told : ByteArray := prog_5_method_24_code
def yX4_told : MethodName := ⟨RX4, "told", "(II)I"⟩
abbrev cX4_batch : ByteArray := prog_5_method_25_code
def yX4_batch : MethodName := ⟨RX4, "batch", "(II)I"⟩
abbrev cX4_saggar : ByteArray := prog_5_method_26_code
def yX4_saggar : MethodName := ⟨RX4, "saggar", "(II)I"⟩
abbrev cX4_store : ByteArray := prog_5_method_27_code
def yX4_store : MethodName := ⟨RX4, "store", "(I)I"⟩
abbrev cX4_isWaiting : ByteArray := prog_5_method_28_code
def yX4_isWaiting : MethodName := ⟨RX4, "isWaiting", "(I)Z"⟩
abbrev cX4_waits : ByteArray := prog_5_method_29_code
def yX4_waits : MethodName := ⟨RX4, "waits", "(II)I"⟩
abbrev cX4_count : ByteArray := prog_5_method_30_code
def yX4_count : MethodName := ⟨RX4, "count", "(I)I"⟩
abbrev cX4_pass : ByteArray := prog_5_method_31_code
def yX4_pass : MethodName := ⟨RX4, "pass", "(I)I"⟩
abbrev cX4_breaks : ByteArray := prog_5_method_32_code
def yX4_breaks : MethodName := ⟨RX4, "breaks", "(II)I"⟩
abbrev cX4_advise : ByteArray := prog_5_method_33_code
def yX4_advise : MethodName := ⟨RX4, "advise", "()I"⟩
abbrev cX4_ready : ByteArray := prog_5_method_34_code
def yX4_ready : MethodName := ⟨RX4, "ready", "(I)I"⟩
abbrev cX4_foresee : ByteArray := prog_5_method_35_code
def yX4_foresee : MethodName := ⟨RX4, "foresee", "(II)I"⟩
abbrev cX4_mean : ByteArray := prog_5_method_36_code
def yX4_mean : MethodName := ⟨RX4, "mean", "()D"⟩
abbrev cX4_digest : ByteArray := prog_5_method_37_code
def yX4_digest : MethodName := ⟨RX4, "digest", "()J"⟩
def RL : String := "PipeMouldsLaw"
abbrev cL_mould : ByteArray := method_3_code
def yL_mould : MethodName := ⟨RL, "mould", "(LPipeMoulds;II[J)I"⟩
abbrev cL_refit : ByteArray := method_4_code
def yL_refit : MethodName := ⟨RL, "refit", "(LPipeMoulds;I[J)I"⟩
abbrev cL_maker : ByteArray := method_5_code
def yL_maker : MethodName := ⟨RL, "maker", "(LPipeMoulds;I[J)I"⟩
abbrev cL_place : ByteArray := method_6_code
def yL_place : MethodName := ⟨RL, "place", "(LPipeMoulds;II[J)I"⟩
abbrev cL_buy : ByteArray := method_7_code
def yL_buy : MethodName := ⟨RL, "buy", "(LPipeMoulds;II[J)I"⟩
abbrev cL_setDry : ByteArray := method_8_code
def yL_setDry : MethodName := ⟨RL, "setDry", "(LPipeMoulds;II[J)I"⟩
abbrev cL_pack : ByteArray := method_9_code
def yL_pack : MethodName := ⟨RL, "pack", "(LPipeMoulds;III[J)I"⟩
abbrev cL_fire : ByteArray := method_10_code
def yL_fire : MethodName := ⟨RL, "fire", "(LPipeMoulds;I[J)I"⟩
abbrev cL_order : ByteArray := method_11_code
def yL_order : MethodName := ⟨RL, "order", "(LPipeMoulds;IIII[J)I"⟩
abbrev cL_about : ByteArray := method_12_code
def yL_about : MethodName := ⟨RL, "about", "(LPipeMoulds;II[J)I"⟩
abbrev cL_told : ByteArray := method_13_code
def yL_told : MethodName := ⟨RL, "told", "(LPipeMoulds;II[J)I"⟩
abbrev cL_batch : ByteArray := method_14_code
def yL_batch : MethodName := ⟨RL, "batch", "(LPipeMoulds;II[J)I"⟩
abbrev cL_saggar : ByteArray := method_15_code
def yL_saggar : MethodName := ⟨RL, "saggar", "(LPipeMoulds;II[J)I"⟩
abbrev cL_store : ByteArray := method_16_code
def yL_store : MethodName := ⟨RL, "store", "(LPipeMoulds;I[J)I"⟩
abbrev cL_waits : ByteArray := method_17_code
def yL_waits : MethodName := ⟨RL, "waits", "(LPipeMoulds;II[J)I"⟩
abbrev cL_count : ByteArray := method_18_code
def yL_count : MethodName := ⟨RL, "count", "(LPipeMoulds;I[J)I"⟩
abbrev cL_pass : ByteArray := method_19_code
def yL_pass : MethodName := ⟨RL, "pass", "(LPipeMoulds;I[J)I"⟩
abbrev cL_breaks : ByteArray := method_20_code
def yL_breaks : MethodName := ⟨RL, "breaks", "(LPipeMoulds;II[J)I"⟩
abbrev cL_ready : ByteArray := method_21_code
def yL_ready : MethodName := ⟨RL, "ready", "(LPipeMoulds;I[J)I"⟩
abbrev cL_foresee : ByteArray := method_22_code
def yL_foresee : MethodName := ⟨RL, "foresee", "(LPipeMoulds;II[J)I"⟩
abbrev cL_law : ByteArray := code
def yL_law : MethodName := ⟨RL, "law", "([I)Z"⟩
end
section
theorem dX0_init_0 : decode cX0_init 0 = .ok (.aload_n 0, 1) := by decide +kernel
theorem dX0_init_1 : decode cX0_init 1 = .ok (.invokespecial 3, 3) := by decide +kernel
theorem dX0_init_4 : decode cX0_init 4 = .ok (.aload_n 0, 1) := by decide +kernel
theorem dX0_init_5 : decode cX0_init 5 = .ok (.aload_n 1, 1) := by decide +kernel
theorem dX0_init_6 : decode cX0_init 6 = .ok (.putfield 9, 3) := by decide +kernel
theorem dX0_init_9 : decode cX0_init 9 = .ok (.aload_n 0, 1) := by decide +kernel
theorem dX0_init_10 : decode cX0_init 10 = .ok (.iload_n 2, 1) := by decide +kernel
theorem dX0_init_11 : decode cX0_init 11 = .ok (.putfield 15, 3) := by decide +kernel
theorem dX0_init_14 : decode cX0_init 14 = .ok (.aload_n 0, 1) := by decide +kernel
theorem dX0_init_15 : decode cX0_init 15 = .ok (.iload_n 3, 1) := by decide +kernel
theorem dX0_init_16 : decode cX0_init 16 = .ok (.putfield 19, 3) := by decide +kernel
theorem dX0_init_19 : decode cX0_init 19 = .ok (.return_, 1) := by decide +kernel
theorem dX0_copyFrom_0 : decode cX0_copyFrom 0 = .ok (.aload_n 1, 1) := by decide +kernel
theorem dX0_copyFrom_1 : decode cX0_copyFrom 1 = .ok (.getfield 9, 3) := by decide +kernel
theorem dX0_copyFrom_4 : decode cX0_copyFrom 4 = .ok (.iconst 0, 1) := by decide +kernel
theorem dX0_copyFrom_5 : decode cX0_copyFrom 5 = .ok (.aload_n 0, 1) := by decide +kernel
theorem dX0_copyFrom_6 : decode cX0_copyFrom 6 = .ok (.getfield 9, 3) := by decide +kernel
theorem dX0_copyFrom_9 : decode cX0_copyFrom 9 = .ok (.iconst 0, 1) := by decide +kernel
theorem dX0_copyFrom_10 : decode cX0_copyFrom 10 = .ok (.aload_n 0, 1) := by decide +kernel
theorem dX0_copyFrom_11 : decode cX0_copyFrom 11 = .ok (.getfield 9, 3) := by decide +kernel
theorem dX0_copyFrom_14 : decode cX0_copyFrom 14 = .ok (.arraylength, 1) := by decide +kernel
theorem dX0_copyFrom_15 : decode cX0_copyFrom 15 = .ok (.aload_n 1, 1) := by decide +kernel
theorem dX0_copyFrom_16 : decode cX0_copyFrom 16 = .ok (.getfield 9, 3) := by decide +kernel
theorem dX0_copyFrom_19 : decode cX0_copyFrom 19 = .ok (.arraylength, 1) := by decide +kernel
theorem dX0_copyFrom_20 : decode cX0_copyFrom 20 = .ok (.invokestatic 22, 3) := by decide +kernel
theorem dX0_copyFrom_23 : decode cX0_copyFrom 23 = .ok (.invokestatic 28, 3) := by decide +kernel
theorem dX0_copyFrom_26 : decode cX0_copyFrom 26 = .ok (.aload_n 0, 1) := by decide +kernel
theorem dX0_copyFrom_27 : decode cX0_copyFrom 27 = .ok (.aload_n 1, 1) := by decide +kernel
theorem dX0_copyFrom_28 : decode cX0_copyFrom 28 = .ok (.getfield 19, 3) := by decide +kernel
theorem dX0_copyFrom_31 : decode cX0_copyFrom 31 = .ok (.putfield 19, 3) := by decide +kernel
theorem dX0_copyFrom_34 : decode cX0_copyFrom 34 = .ok (.return_, 1) := by decide +kernel
theorem dX0_size_0 : decode cX0_size 0 = .ok (.aload_n 0, 1) := by decide +kernel
theorem dX0_size_1 : decode cX0_size 1 = .ok (.getfield 19, 3) := by decide +kernel
theorem dX0_size_4 : decode cX0_size 4 = .ok (.ireturn, 1) := by decide +kernel
theorem dX0_isFull_0 : decode cX0_isFull 0 = .ok (.aload_n 0, 1) := by decide +kernel
theorem dX0_isFull_1 : decode cX0_isFull 1 = .ok (.getfield 19, 3) := by decide +kernel
theorem dX0_isFull_4 : decode cX0_isFull 4 = .ok (.iconst 1, 1) := by decide +kernel
theorem dX0_isFull_5 : decode cX0_isFull 5 = .ok (.iadd, 1) := by decide +kernel
theorem dX0_isFull_6 : decode cX0_isFull 6 = .ok (.aload_n 0, 1) := by decide +kernel
theorem dX0_isFull_7 : decode cX0_isFull 7 = .ok (.getfield 15, 3) := by decide +kernel
theorem dX0_isFull_10 : decode cX0_isFull 10 = .ok (.imul, 1) := by decide +kernel
theorem dX0_isFull_11 : decode cX0_isFull 11 = .ok (.aload_n 0, 1) := by decide +kernel
theorem dX0_isFull_12 : decode cX0_isFull 12 = .ok (.getfield 9, 3) := by decide +kernel
theorem dX0_isFull_15 : decode cX0_isFull 15 = .ok (.arraylength, 1) := by decide +kernel
theorem dX0_isFull_16 : decode cX0_isFull 16 = .ok (.if_icmp .le 7, 3) := by decide +kernel
theorem dX0_isFull_19 : decode cX0_isFull 19 = .ok (.iconst 1, 1) := by decide +kernel
theorem dX0_isFull_20 : decode cX0_isFull 20 = .ok (.goto 4, 3) := by decide +kernel
theorem dX0_isFull_23 : decode cX0_isFull 23 = .ok (.iconst 0, 1) := by decide +kernel
theorem dX0_isFull_24 : decode cX0_isFull 24 = .ok (.ireturn, 1) := by decide +kernel
theorem dX0_width_0 : decode cX0_width 0 = .ok (.aload_n 0, 1) := by decide +kernel
theorem dX0_width_1 : decode cX0_width 1 = .ok (.getfield 15, 3) := by decide +kernel
theorem dX0_width_4 : decode cX0_width 4 = .ok (.ireturn, 1) := by decide +kernel
theorem dX0_hasRow_0 : decode cX0_hasRow 0 = .ok (.iload_n 1, 1) := by decide +kernel
theorem dX0_hasRow_1 : decode cX0_hasRow 1 = .ok (.ifCond .lt 15, 3) := by decide +kernel
theorem dX0_hasRow_4 : decode cX0_hasRow 4 = .ok (.iload_n 1, 1) := by decide +kernel
theorem dX0_hasRow_5 : decode cX0_hasRow 5 = .ok (.aload_n 0, 1) := by decide +kernel
theorem dX0_hasRow_6 : decode cX0_hasRow 6 = .ok (.getfield 19, 3) := by decide +kernel
theorem dX0_hasRow_9 : decode cX0_hasRow 9 = .ok (.if_icmp .ge 7, 3) := by decide +kernel
theorem dX0_hasRow_12 : decode cX0_hasRow 12 = .ok (.iconst 1, 1) := by decide +kernel
theorem dX0_hasRow_13 : decode cX0_hasRow 13 = .ok (.goto 4, 3) := by decide +kernel
theorem dX0_hasRow_16 : decode cX0_hasRow 16 = .ok (.iconst 0, 1) := by decide +kernel
theorem dX0_hasRow_17 : decode cX0_hasRow 17 = .ok (.ireturn, 1) := by decide +kernel
theorem dX0_hasColumn_0 : decode cX0_hasColumn 0 = .ok (.iload_n 1, 1) := by decide +kernel
theorem dX0_hasColumn_1 : decode cX0_hasColumn 1 = .ok (.ifCond .lt 15, 3) := by decide +kernel
theorem dX0_hasColumn_4 : decode cX0_hasColumn 4 = .ok (.iload_n 1, 1) := by decide +kernel
theorem dX0_hasColumn_5 : decode cX0_hasColumn 5 = .ok (.aload_n 0, 1) := by decide +kernel
theorem dX0_hasColumn_6 : decode cX0_hasColumn 6 = .ok (.getfield 15, 3) := by decide +kernel
theorem dX0_hasColumn_9 : decode cX0_hasColumn 9 = .ok (.if_icmp .ge 7, 3) := by decide +kernel
theorem dX0_hasColumn_12 : decode cX0_hasColumn 12 = .ok (.iconst 1, 1) := by decide +kernel
theorem dX0_hasColumn_13 : decode cX0_hasColumn 13 = .ok (.goto 4, 3) := by decide +kernel
theorem dX0_hasColumn_16 : decode cX0_hasColumn 16 = .ok (.iconst 0, 1) := by decide +kernel
theorem dX0_hasColumn_17 : decode cX0_hasColumn 17 = .ok (.ireturn, 1) := by decide +kernel
theorem dX0_at_0 : decode cX0_at 0 = .ok (.iload_n 1, 1) := by decide +kernel
theorem dX0_at_1 : decode cX0_at 1 = .ok (.aload_n 0, 1) := by decide +kernel
theorem dX0_at_2 : decode cX0_at 2 = .ok (.getfield 15, 3) := by decide +kernel
theorem dX0_at_5 : decode cX0_at 5 = .ok (.imul, 1) := by decide +kernel
theorem dX0_at_6 : decode cX0_at 6 = .ok (.iload_n 2, 1) := by decide +kernel
theorem dX0_at_7 : decode cX0_at 7 = .ok (.iadd, 1) := by decide +kernel
theorem dX0_at_8 : decode cX0_at 8 = .ok (.istore_n 3, 1) := by decide +kernel
theorem dX0_at_9 : decode cX0_at 9 = .ok (.iload_n 1, 1) := by decide +kernel
theorem dX0_at_10 : decode cX0_at 10 = .ok (.ifCond .lt 36, 3) := by decide +kernel
theorem dX0_at_13 : decode cX0_at 13 = .ok (.iload_n 1, 1) := by decide +kernel
theorem dX0_at_14 : decode cX0_at 14 = .ok (.aload_n 0, 1) := by decide +kernel
theorem dX0_at_15 : decode cX0_at 15 = .ok (.getfield 19, 3) := by decide +kernel
theorem dX0_at_18 : decode cX0_at 18 = .ok (.if_icmp .ge 28, 3) := by decide +kernel
theorem dX0_at_21 : decode cX0_at 21 = .ok (.iload_n 2, 1) := by decide +kernel
theorem dX0_at_22 : decode cX0_at 22 = .ok (.ifCond .lt 24, 3) := by decide +kernel
theorem dX0_at_25 : decode cX0_at 25 = .ok (.iload_n 2, 1) := by decide +kernel
theorem dX0_at_26 : decode cX0_at 26 = .ok (.aload_n 0, 1) := by decide +kernel
theorem dX0_at_27 : decode cX0_at 27 = .ok (.getfield 15, 3) := by decide +kernel
theorem dX0_at_30 : decode cX0_at 30 = .ok (.if_icmp .ge 16, 3) := by decide +kernel
theorem dX0_at_33 : decode cX0_at 33 = .ok (.iload_n 3, 1) := by decide +kernel
theorem dX0_at_34 : decode cX0_at 34 = .ok (.ifCond .lt 12, 3) := by decide +kernel
theorem dX0_at_37 : decode cX0_at 37 = .ok (.iload_n 3, 1) := by decide +kernel
theorem dX0_at_38 : decode cX0_at 38 = .ok (.aload_n 0, 1) := by decide +kernel
theorem dX0_at_39 : decode cX0_at 39 = .ok (.getfield 9, 3) := by decide +kernel
theorem dX0_at_42 : decode cX0_at 42 = .ok (.arraylength, 1) := by decide +kernel
theorem dX0_at_43 : decode cX0_at 43 = .ok (.if_icmp .lt 5, 3) := by decide +kernel
theorem dX0_at_46 : decode cX0_at 46 = .ok (.iconst 0, 1) := by decide +kernel
theorem dX0_at_47 : decode cX0_at 47 = .ok (.ireturn, 1) := by decide +kernel
theorem dX0_at_48 : decode cX0_at 48 = .ok (.aload_n 0, 1) := by decide +kernel
theorem dX0_at_49 : decode cX0_at 49 = .ok (.getfield 9, 3) := by decide +kernel
theorem dX0_at_52 : decode cX0_at 52 = .ok (.iload_n 3, 1) := by decide +kernel
theorem dX0_at_53 : decode cX0_at 53 = .ok (.iaload, 1) := by decide +kernel
theorem dX0_at_54 : decode cX0_at 54 = .ok (.ireturn, 1) := by decide +kernel
theorem dX0_put_0 : decode cX0_put 0 = .ok (.iload_n 1, 1) := by decide +kernel
theorem dX0_put_1 : decode cX0_put 1 = .ok (.aload_n 0, 1) := by decide +kernel
theorem dX0_put_2 : decode cX0_put 2 = .ok (.getfield 15, 3) := by decide +kernel
theorem dX0_put_5 : decode cX0_put 5 = .ok (.imul, 1) := by decide +kernel
theorem dX0_put_6 : decode cX0_put 6 = .ok (.iload_n 2, 1) := by decide +kernel
theorem dX0_put_7 : decode cX0_put 7 = .ok (.iadd, 1) := by decide +kernel
theorem dX0_put_8 : decode cX0_put 8 = .ok (.istore 4, 2) := by decide +kernel
theorem dX0_put_10 : decode cX0_put 10 = .ok (.iload_n 1, 1) := by decide +kernel
theorem dX0_put_11 : decode cX0_put 11 = .ok (.ifCond .lt 38, 3) := by decide +kernel
theorem dX0_put_14 : decode cX0_put 14 = .ok (.iload_n 1, 1) := by decide +kernel
theorem dX0_put_15 : decode cX0_put 15 = .ok (.aload_n 0, 1) := by decide +kernel
theorem dX0_put_16 : decode cX0_put 16 = .ok (.getfield 19, 3) := by decide +kernel
theorem dX0_put_19 : decode cX0_put 19 = .ok (.if_icmp .ge 30, 3) := by decide +kernel
theorem dX0_put_22 : decode cX0_put 22 = .ok (.iload_n 2, 1) := by decide +kernel
theorem dX0_put_23 : decode cX0_put 23 = .ok (.ifCond .lt 26, 3) := by decide +kernel
theorem dX0_put_26 : decode cX0_put 26 = .ok (.iload_n 2, 1) := by decide +kernel
theorem dX0_put_27 : decode cX0_put 27 = .ok (.aload_n 0, 1) := by decide +kernel
theorem dX0_put_28 : decode cX0_put 28 = .ok (.getfield 15, 3) := by decide +kernel
theorem dX0_put_31 : decode cX0_put 31 = .ok (.if_icmp .ge 18, 3) := by decide +kernel
theorem dX0_put_34 : decode cX0_put 34 = .ok (.iload 4, 2) := by decide +kernel
theorem dX0_put_36 : decode cX0_put 36 = .ok (.ifCond .lt 13, 3) := by decide +kernel
theorem dX0_put_39 : decode cX0_put 39 = .ok (.iload 4, 2) := by decide +kernel
theorem dX0_put_41 : decode cX0_put 41 = .ok (.aload_n 0, 1) := by decide +kernel
theorem dX0_put_42 : decode cX0_put 42 = .ok (.getfield 9, 3) := by decide +kernel
theorem dX0_put_45 : decode cX0_put 45 = .ok (.arraylength, 1) := by decide +kernel
theorem dX0_put_46 : decode cX0_put 46 = .ok (.if_icmp .lt 4, 3) := by decide +kernel
theorem dX0_put_49 : decode cX0_put 49 = .ok (.return_, 1) := by decide +kernel
theorem dX0_put_50 : decode cX0_put 50 = .ok (.aload_n 0, 1) := by decide +kernel
theorem dX0_put_51 : decode cX0_put 51 = .ok (.getfield 9, 3) := by decide +kernel
theorem dX0_put_54 : decode cX0_put 54 = .ok (.iload 4, 2) := by decide +kernel
theorem dX0_put_56 : decode cX0_put 56 = .ok (.iload_n 3, 1) := by decide +kernel
theorem dX0_put_57 : decode cX0_put 57 = .ok (.iastore, 1) := by decide +kernel
theorem dX0_put_58 : decode cX0_put 58 = .ok (.return_, 1) := by decide +kernel
theorem dX0_addRow_0 : decode cX0_addRow 0 = .ok (.aload_n 0, 1) := by decide +kernel
theorem dX0_addRow_1 : decode cX0_addRow 1 = .ok (.invokevirtual 34, 3) := by decide +kernel
theorem dX0_addRow_4 : decode cX0_addRow 4 = .ok (.ifCond .eq 5, 3) := by decide +kernel
theorem dX0_addRow_7 : decode cX0_addRow 7 = .ok (.iconst (-1), 1) := by decide +kernel
theorem dX0_addRow_8 : decode cX0_addRow 8 = .ok (.ireturn, 1) := by decide +kernel
theorem dX0_addRow_9 : decode cX0_addRow 9 = .ok (.aload_n 0, 1) := by decide +kernel
theorem dX0_addRow_10 : decode cX0_addRow 10 = .ok (.dup, 1) := by decide +kernel
theorem dX0_addRow_11 : decode cX0_addRow 11 = .ok (.getfield 19, 3) := by decide +kernel
theorem dX0_addRow_14 : decode cX0_addRow 14 = .ok (.iconst 1, 1) := by decide +kernel
theorem dX0_addRow_15 : decode cX0_addRow 15 = .ok (.iadd, 1) := by decide +kernel
theorem dX0_addRow_16 : decode cX0_addRow 16 = .ok (.putfield 19, 3) := by decide +kernel
theorem dX0_addRow_19 : decode cX0_addRow 19 = .ok (.aload_n 0, 1) := by decide +kernel
theorem dX0_addRow_20 : decode cX0_addRow 20 = .ok (.getfield 19, 3) := by decide +kernel
theorem dX0_addRow_23 : decode cX0_addRow 23 = .ok (.iconst 1, 1) := by decide +kernel
theorem dX0_addRow_24 : decode cX0_addRow 24 = .ok (.isub, 1) := by decide +kernel
theorem dX0_addRow_25 : decode cX0_addRow 25 = .ok (.ireturn, 1) := by decide +kernel
theorem dX0_removeRow_0 : decode cX0_removeRow 0 = .ok (.iload_n 1, 1) := by decide +kernel
theorem dX0_removeRow_1 : decode cX0_removeRow 1 = .ok (.ifCond .lt 11, 3) := by decide +kernel
theorem dX0_removeRow_4 : decode cX0_removeRow 4 = .ok (.iload_n 1, 1) := by decide +kernel
theorem dX0_removeRow_5 : decode cX0_removeRow 5 = .ok (.aload_n 0, 1) := by decide +kernel
theorem dX0_removeRow_6 : decode cX0_removeRow 6 = .ok (.getfield 19, 3) := by decide +kernel
theorem dX0_removeRow_9 : decode cX0_removeRow 9 = .ok (.if_icmp .lt 4, 3) := by decide +kernel
theorem dX0_removeRow_12 : decode cX0_removeRow 12 = .ok (.return_, 1) := by decide +kernel
theorem dX0_removeRow_13 : decode cX0_removeRow 13 = .ok (.aload_n 0, 1) := by decide +kernel
theorem dX0_removeRow_14 : decode cX0_removeRow 14 = .ok (.dup, 1) := by decide +kernel
theorem dX0_removeRow_15 : decode cX0_removeRow 15 = .ok (.getfield 19, 3) := by decide +kernel
theorem dX0_removeRow_18 : decode cX0_removeRow 18 = .ok (.iconst 1, 1) := by decide +kernel
theorem dX0_removeRow_19 : decode cX0_removeRow 19 = .ok (.isub, 1) := by decide +kernel
theorem dX0_removeRow_20 : decode cX0_removeRow 20 = .ok (.putfield 19, 3) := by decide +kernel
theorem dX0_removeRow_23 : decode cX0_removeRow 23 = .ok (.aload_n 0, 1) := by decide +kernel
theorem dX0_removeRow_24 : decode cX0_removeRow 24 = .ok (.getfield 19, 3) := by decide +kernel
theorem dX0_removeRow_27 : decode cX0_removeRow 27 = .ok (.aload_n 0, 1) := by decide +kernel
theorem dX0_removeRow_28 : decode cX0_removeRow 28 = .ok (.getfield 15, 3) := by decide +kernel
theorem dX0_removeRow_31 : decode cX0_removeRow 31 = .ok (.imul, 1) := by decide +kernel
theorem dX0_removeRow_32 : decode cX0_removeRow 32 = .ok (.aload_n 0, 1) := by decide +kernel
theorem dX0_removeRow_33 : decode cX0_removeRow 33 = .ok (.getfield 9, 3) := by decide +kernel
theorem dX0_removeRow_36 : decode cX0_removeRow 36 = .ok (.arraylength, 1) := by decide +kernel
theorem dX0_removeRow_37 : decode cX0_removeRow 37 = .ok (.aload_n 0, 1) := by decide +kernel
theorem dX0_removeRow_38 : decode cX0_removeRow 38 = .ok (.getfield 15, 3) := by decide +kernel
theorem dX0_removeRow_41 : decode cX0_removeRow 41 = .ok (.isub, 1) := by decide +kernel
theorem dX0_removeRow_42 : decode cX0_removeRow 42 = .ok (.invokestatic 22, 3) := by decide +kernel
theorem dX0_removeRow_45 : decode cX0_removeRow 45 = .ok (.istore_n 2, 1) := by decide +kernel
theorem dX0_removeRow_46 : decode cX0_removeRow 46 = .ok (.iload_n 1, 1) := by decide +kernel
theorem dX0_removeRow_47 : decode cX0_removeRow 47 = .ok (.aload_n 0, 1) := by decide +kernel
theorem dX0_removeRow_48 : decode cX0_removeRow 48 = .ok (.getfield 15, 3) := by decide +kernel
theorem dX0_removeRow_51 : decode cX0_removeRow 51 = .ok (.imul, 1) := by decide +kernel
theorem dX0_removeRow_52 : decode cX0_removeRow 52 = .ok (.istore_n 3, 1) := by decide +kernel
theorem dX0_removeRow_53 : decode cX0_removeRow 53 = .ok (.iload_n 3, 1) := by decide +kernel
theorem dX0_removeRow_54 : decode cX0_removeRow 54 = .ok (.iload_n 2, 1) := by decide +kernel
theorem dX0_removeRow_55 : decode cX0_removeRow 55 = .ok (.if_icmp .ge 26, 3) := by decide +kernel
theorem dX0_removeRow_58 : decode cX0_removeRow 58 = .ok (.aload_n 0, 1) := by decide +kernel
theorem dX0_removeRow_59 : decode cX0_removeRow 59 = .ok (.getfield 9, 3) := by decide +kernel
theorem dX0_removeRow_62 : decode cX0_removeRow 62 = .ok (.iload_n 3, 1) := by decide +kernel
theorem dX0_removeRow_63 : decode cX0_removeRow 63 = .ok (.aload_n 0, 1) := by decide +kernel
theorem dX0_removeRow_64 : decode cX0_removeRow 64 = .ok (.getfield 9, 3) := by decide +kernel
theorem dX0_removeRow_67 : decode cX0_removeRow 67 = .ok (.iload_n 3, 1) := by decide +kernel
theorem dX0_removeRow_68 : decode cX0_removeRow 68 = .ok (.aload_n 0, 1) := by decide +kernel
theorem dX0_removeRow_69 : decode cX0_removeRow 69 = .ok (.getfield 15, 3) := by decide +kernel
theorem dX0_removeRow_72 : decode cX0_removeRow 72 = .ok (.iadd, 1) := by decide +kernel
theorem dX0_removeRow_73 : decode cX0_removeRow 73 = .ok (.iaload, 1) := by decide +kernel
theorem dX0_removeRow_74 : decode cX0_removeRow 74 = .ok (.iastore, 1) := by decide +kernel
theorem dX0_removeRow_75 : decode cX0_removeRow 75 = .ok (.iinc 3 1, 3) := by decide +kernel
theorem dX0_removeRow_78 : decode cX0_removeRow 78 = .ok (.goto (-25), 3) := by decide +kernel
theorem dX0_removeRow_81 : decode cX0_removeRow 81 = .ok (.return_, 1) := by decide +kernel
theorem dX0_sum_0 : decode cX0_sum 0 = .ok (.iconst 0, 1) := by decide +kernel
theorem dX0_sum_1 : decode cX0_sum 1 = .ok (.istore_n 2, 1) := by decide +kernel
theorem dX0_sum_2 : decode cX0_sum 2 = .ok (.iconst 0, 1) := by decide +kernel
theorem dX0_sum_3 : decode cX0_sum 3 = .ok (.istore_n 3, 1) := by decide +kernel
theorem dX0_sum_4 : decode cX0_sum 4 = .ok (.iload_n 3, 1) := by decide +kernel
theorem dX0_sum_5 : decode cX0_sum 5 = .ok (.aload_n 0, 1) := by decide +kernel
theorem dX0_sum_6 : decode cX0_sum 6 = .ok (.getfield 19, 3) := by decide +kernel
theorem dX0_sum_9 : decode cX0_sum 9 = .ok (.if_icmp .ge 18, 3) := by decide +kernel
theorem dX0_sum_12 : decode cX0_sum 12 = .ok (.iload_n 2, 1) := by decide +kernel
theorem dX0_sum_13 : decode cX0_sum 13 = .ok (.aload_n 0, 1) := by decide +kernel
theorem dX0_sum_14 : decode cX0_sum 14 = .ok (.iload_n 3, 1) := by decide +kernel
theorem dX0_sum_15 : decode cX0_sum 15 = .ok (.iload_n 1, 1) := by decide +kernel
theorem dX0_sum_16 : decode cX0_sum 16 = .ok (.invokevirtual 38, 3) := by decide +kernel
theorem dX0_sum_19 : decode cX0_sum 19 = .ok (.iadd, 1) := by decide +kernel
theorem dX0_sum_20 : decode cX0_sum 20 = .ok (.istore_n 2, 1) := by decide +kernel
theorem dX0_sum_21 : decode cX0_sum 21 = .ok (.iinc 3 1, 3) := by decide +kernel
theorem dX0_sum_24 : decode cX0_sum 24 = .ok (.goto (-20), 3) := by decide +kernel
theorem dX0_sum_27 : decode cX0_sum 27 = .ok (.iload_n 2, 1) := by decide +kernel
theorem dX0_sum_28 : decode cX0_sum 28 = .ok (.ireturn, 1) := by decide +kernel
theorem dX2_init_0 : decode cX2_init 0 = .ok (.aload_n 0, 1) := by decide +kernel
theorem dX2_init_1 : decode cX2_init 1 = .ok (.invokespecial 1, 3) := by decide +kernel
theorem dX2_init_4 : decode cX2_init 4 = .ok (.aload_n 0, 1) := by decide +kernel
theorem dX2_init_5 : decode cX2_init 5 = .ok (.new 7, 3) := by decide +kernel
theorem dX2_init_8 : decode cX2_init 8 = .ok (.dup, 1) := by decide +kernel
theorem dX2_init_9 : decode cX2_init 9 = .ok (.invokespecial 9, 3) := by decide +kernel
theorem dX2_init_12 : decode cX2_init 12 = .ok (.putfield 10, 3) := by decide +kernel
theorem dX2_init_15 : decode cX2_init 15 = .ok (.aload_n 0, 1) := by decide +kernel
theorem dX2_init_16 : decode cX2_init 16 = .ok (.new 7, 3) := by decide +kernel
theorem dX2_init_19 : decode cX2_init 19 = .ok (.dup, 1) := by decide +kernel
theorem dX2_init_20 : decode cX2_init 20 = .ok (.invokespecial 9, 3) := by decide +kernel
theorem dX2_init_23 : decode cX2_init 23 = .ok (.putfield 16, 3) := by decide +kernel
theorem dX2_init_26 : decode cX2_init 26 = .ok (.return_, 1) := by decide +kernel
theorem dX2_mould_0 : decode cX2_mould 0 = .ok (.iload_n 1, 1) := by decide +kernel
theorem dX2_mould_1 : decode cX2_mould 1 = .ok (.invokestatic 19, 3) := by decide +kernel
theorem dX2_mould_4 : decode cX2_mould 4 = .ok (.invokestatic 23, 3) := by decide +kernel
theorem dX2_mould_7 : decode cX2_mould 7 = .ok (.iload_n 2, 1) := by decide +kernel
theorem dX2_mould_8 : decode cX2_mould 8 = .ok (.iconst 0, 1) := by decide +kernel
theorem dX2_mould_9 : decode cX2_mould 9 = .ok (.bipush 9, 2) := by decide +kernel
theorem dX2_mould_11 : decode cX2_mould 11 = .ok (.invokestatic 27, 3) := by decide +kernel
theorem dX2_mould_14 : decode cX2_mould 14 = .ok (.invokestatic 23, 3) := by decide +kernel
theorem dX2_mould_17 : decode cX2_mould 17 = .ok (.aload_n 0, 1) := by decide +kernel
theorem dX2_mould_18 : decode cX2_mould 18 = .ok (.getfield 10, 3) := by decide +kernel
theorem dX2_mould_21 : decode cX2_mould 21 = .ok (.getfield 31, 3) := by decide +kernel
theorem dX2_mould_24 : decode cX2_mould 24 = .ok (.invokevirtual 35, 3) := by decide +kernel
theorem dX2_mould_27 : decode cX2_mould 27 = .ok (.ifCond .ne 7, 3) := by decide +kernel
theorem dX2_mould_30 : decode cX2_mould 30 = .ok (.iconst 1, 1) := by decide +kernel
theorem dX2_mould_31 : decode cX2_mould 31 = .ok (.goto 4, 3) := by decide +kernel
theorem dX2_mould_34 : decode cX2_mould 34 = .ok (.iconst 0, 1) := by decide +kernel
theorem dX2_mould_35 : decode cX2_mould 35 = .ok (.invokestatic 41, 3) := by decide +kernel
theorem dX2_mould_38 : decode cX2_mould 38 = .ok (.aload_n 0, 1) := by decide +kernel
theorem dX2_mould_39 : decode cX2_mould 39 = .ok (.getfield 10, 3) := by decide +kernel
theorem dX2_mould_42 : decode cX2_mould 42 = .ok (.iload_n 1, 1) := by decide +kernel
theorem dX2_mould_43 : decode cX2_mould 43 = .ok (.iload_n 2, 1) := by decide +kernel
theorem dX2_mould_44 : decode cX2_mould 44 = .ok (.invokevirtual 44, 3) := by decide +kernel
theorem dX2_mould_47 : decode cX2_mould 47 = .ok (.ireturn, 1) := by decide +kernel
theorem dX2_refit_0 : decode cX2_refit 0 = .ok (.aload_n 0, 1) := by decide +kernel
theorem dX2_refit_1 : decode cX2_refit 1 = .ok (.getfield 10, 3) := by decide +kernel
theorem dX2_refit_4 : decode cX2_refit 4 = .ok (.getfield 31, 3) := by decide +kernel
theorem dX2_refit_7 : decode cX2_refit 7 = .ok (.iload_n 1, 1) := by decide +kernel
theorem dX2_refit_8 : decode cX2_refit 8 = .ok (.invokevirtual 48, 3) := by decide +kernel
theorem dX2_refit_11 : decode cX2_refit 11 = .ok (.invokestatic 51, 3) := by decide +kernel
theorem dX2_refit_14 : decode cX2_refit 14 = .ok (.aload_n 0, 1) := by decide +kernel
theorem dX2_refit_15 : decode cX2_refit 15 = .ok (.getfield 10, 3) := by decide +kernel
theorem dX2_refit_18 : decode cX2_refit 18 = .ok (.getfield 31, 3) := by decide +kernel
theorem dX2_refit_21 : decode cX2_refit 21 = .ok (.iload_n 1, 1) := by decide +kernel
theorem dX2_refit_22 : decode cX2_refit 22 = .ok (.iconst 1, 1) := by decide +kernel
theorem dX2_refit_23 : decode cX2_refit 23 = .ok (.invokevirtual 54, 3) := by decide +kernel
theorem dX2_refit_26 : decode cX2_refit 26 = .ok (.istore_n 2, 1) := by decide +kernel
theorem dX2_refit_27 : decode cX2_refit 27 = .ok (.iload_n 2, 1) := by decide +kernel
theorem dX2_refit_28 : decode cX2_refit 28 = .ok (.bipush 9, 2) := by decide +kernel
theorem dX2_refit_30 : decode cX2_refit 30 = .ok (.if_icmp .eq 18, 3) := by decide +kernel
theorem dX2_refit_33 : decode cX2_refit 33 = .ok (.aload_n 0, 1) := by decide +kernel
theorem dX2_refit_34 : decode cX2_refit 34 = .ok (.getfield 10, 3) := by decide +kernel
theorem dX2_refit_37 : decode cX2_refit 37 = .ok (.getfield 57, 3) := by decide +kernel
theorem dX2_refit_40 : decode cX2_refit 40 = .ok (.iconst 2, 1) := by decide +kernel
theorem dX2_refit_41 : decode cX2_refit 41 = .ok (.if_icmp .lt 7, 3) := by decide +kernel
theorem dX2_refit_44 : decode cX2_refit 44 = .ok (.iconst 1, 1) := by decide +kernel
theorem dX2_refit_45 : decode cX2_refit 45 = .ok (.goto 4, 3) := by decide +kernel
theorem dX2_refit_48 : decode cX2_refit 48 = .ok (.iconst 0, 1) := by decide +kernel
theorem dX2_refit_49 : decode cX2_refit 49 = .ok (.invokestatic 41, 3) := by decide +kernel
theorem dX2_refit_52 : decode cX2_refit 52 = .ok (.aload_n 0, 1) := by decide +kernel
theorem dX2_refit_53 : decode cX2_refit 53 = .ok (.getfield 10, 3) := by decide +kernel
theorem dX2_refit_56 : decode cX2_refit 56 = .ok (.iconst 2, 1) := by decide +kernel
theorem dX2_refit_57 : decode cX2_refit 57 = .ok (.invokevirtual 61, 3) := by decide +kernel
theorem dX2_refit_60 : decode cX2_refit 60 = .ok (.aload_n 0, 1) := by decide +kernel
theorem dX2_refit_61 : decode cX2_refit 61 = .ok (.getfield 10, 3) := by decide +kernel
theorem dX2_refit_64 : decode cX2_refit 64 = .ok (.getfield 31, 3) := by decide +kernel
theorem dX2_refit_67 : decode cX2_refit 67 = .ok (.iload_n 1, 1) := by decide +kernel
theorem dX2_refit_68 : decode cX2_refit 68 = .ok (.iconst 1, 1) := by decide +kernel
theorem dX2_refit_69 : decode cX2_refit 69 = .ok (.bipush 9, 2) := by decide +kernel
theorem dX2_refit_71 : decode cX2_refit 71 = .ok (.invokevirtual 65, 3) := by decide +kernel
theorem dX2_refit_74 : decode cX2_refit 74 = .ok (.iload_n 2, 1) := by decide +kernel
theorem dX2_refit_75 : decode cX2_refit 75 = .ok (.ireturn, 1) := by decide +kernel
theorem dX2_maker_0 : decode cX2_maker 0 = .ok (.iload_n 1, 1) := by decide +kernel
theorem dX2_maker_1 : decode cX2_maker 1 = .ok (.iconst 1, 1) := by decide +kernel
theorem dX2_maker_2 : decode cX2_maker 2 = .ok (.bipush 9, 2) := by decide +kernel
theorem dX2_maker_4 : decode cX2_maker 4 = .ok (.invokestatic 27, 3) := by decide +kernel
theorem dX2_maker_7 : decode cX2_maker 7 = .ok (.invokestatic 23, 3) := by decide +kernel
theorem dX2_maker_10 : decode cX2_maker 10 = .ok (.aload_n 0, 1) := by decide +kernel
theorem dX2_maker_11 : decode cX2_maker 11 = .ok (.getfield 10, 3) := by decide +kernel
theorem dX2_maker_14 : decode cX2_maker 14 = .ok (.getfield 69, 3) := by decide +kernel
theorem dX2_maker_17 : decode cX2_maker 17 = .ok (.invokevirtual 35, 3) := by decide +kernel
theorem dX2_maker_20 : decode cX2_maker 20 = .ok (.ifCond .ne 7, 3) := by decide +kernel
theorem dX2_maker_23 : decode cX2_maker 23 = .ok (.iconst 1, 1) := by decide +kernel
theorem dX2_maker_24 : decode cX2_maker 24 = .ok (.goto 4, 3) := by decide +kernel
theorem dX2_maker_27 : decode cX2_maker 27 = .ok (.iconst 0, 1) := by decide +kernel
theorem dX2_maker_28 : decode cX2_maker 28 = .ok (.invokestatic 41, 3) := by decide +kernel
theorem dX2_maker_31 : decode cX2_maker 31 = .ok (.aload_n 0, 1) := by decide +kernel
theorem dX2_maker_32 : decode cX2_maker 32 = .ok (.getfield 10, 3) := by decide +kernel
theorem dX2_maker_35 : decode cX2_maker 35 = .ok (.iload_n 1, 1) := by decide +kernel
theorem dX2_maker_36 : decode cX2_maker 36 = .ok (.invokevirtual 72, 3) := by decide +kernel
theorem dX2_maker_39 : decode cX2_maker 39 = .ok (.ireturn, 1) := by decide +kernel
theorem dX2_place_0 : decode cX2_place 0 = .ok (.aload_n 0, 1) := by decide +kernel
theorem dX2_place_1 : decode cX2_place 1 = .ok (.getfield 10, 3) := by decide +kernel
theorem dX2_place_4 : decode cX2_place 4 = .ok (.getfield 69, 3) := by decide +kernel
theorem dX2_place_7 : decode cX2_place 7 = .ok (.iload_n 1, 1) := by decide +kernel
theorem dX2_place_8 : decode cX2_place 8 = .ok (.invokevirtual 48, 3) := by decide +kernel
theorem dX2_place_11 : decode cX2_place 11 = .ok (.invokestatic 51, 3) := by decide +kernel
theorem dX2_place_14 : decode cX2_place 14 = .ok (.iload_n 2, 1) := by decide +kernel
theorem dX2_place_15 : decode cX2_place 15 = .ok (.iconst (-1), 1) := by decide +kernel
theorem dX2_place_16 : decode cX2_place 16 = .ok (.if_icmp .eq 17, 3) := by decide +kernel
theorem dX2_place_19 : decode cX2_place 19 = .ok (.aload_n 0, 1) := by decide +kernel
theorem dX2_place_20 : decode cX2_place 20 = .ok (.getfield 10, 3) := by decide +kernel
theorem dX2_place_23 : decode cX2_place 23 = .ok (.getfield 31, 3) := by decide +kernel
theorem dX2_place_26 : decode cX2_place 26 = .ok (.iload_n 2, 1) := by decide +kernel
theorem dX2_place_27 : decode cX2_place 27 = .ok (.invokevirtual 48, 3) := by decide +kernel
theorem dX2_place_30 : decode cX2_place 30 = .ok (.ifCond .eq 7, 3) := by decide +kernel
theorem dX2_place_33 : decode cX2_place 33 = .ok (.iconst 1, 1) := by decide +kernel
theorem dX2_place_34 : decode cX2_place 34 = .ok (.goto 4, 3) := by decide +kernel
theorem dX2_place_37 : decode cX2_place 37 = .ok (.iconst 0, 1) := by decide +kernel
theorem dX2_place_38 : decode cX2_place 38 = .ok (.invokestatic 51, 3) := by decide +kernel
theorem dX2_place_41 : decode cX2_place 41 = .ok (.aload_n 0, 1) := by decide +kernel
theorem dX2_place_42 : decode cX2_place 42 = .ok (.getfield 10, 3) := by decide +kernel
theorem dX2_place_45 : decode cX2_place 45 = .ok (.iload_n 2, 1) := by decide +kernel
theorem dX2_place_46 : decode cX2_place 46 = .ok (.iload_n 1, 1) := by decide +kernel
theorem dX2_place_47 : decode cX2_place 47 = .ok (.invokevirtual 76, 3) := by decide +kernel
theorem dX2_place_50 : decode cX2_place 50 = .ok (.ifCond .ne 7, 3) := by decide +kernel
theorem dX2_place_53 : decode cX2_place 53 = .ok (.iconst 1, 1) := by decide +kernel
theorem dX2_place_54 : decode cX2_place 54 = .ok (.goto 4, 3) := by decide +kernel
theorem dX2_place_57 : decode cX2_place 57 = .ok (.iconst 0, 1) := by decide +kernel
theorem dX2_place_58 : decode cX2_place 58 = .ok (.invokestatic 41, 3) := by decide +kernel
theorem dX2_place_61 : decode cX2_place 61 = .ok (.aload_n 0, 1) := by decide +kernel
theorem dX2_place_62 : decode cX2_place 62 = .ok (.getfield 10, 3) := by decide +kernel
theorem dX2_place_65 : decode cX2_place 65 = .ok (.getfield 69, 3) := by decide +kernel
theorem dX2_place_68 : decode cX2_place 68 = .ok (.iload_n 1, 1) := by decide +kernel
theorem dX2_place_69 : decode cX2_place 69 = .ok (.iconst 1, 1) := by decide +kernel
theorem dX2_place_70 : decode cX2_place 70 = .ok (.invokevirtual 54, 3) := by decide +kernel
theorem dX2_place_73 : decode cX2_place 73 = .ok (.istore_n 3, 1) := by decide +kernel
theorem dX2_place_74 : decode cX2_place 74 = .ok (.aload_n 0, 1) := by decide +kernel
theorem dX2_place_75 : decode cX2_place 75 = .ok (.getfield 10, 3) := by decide +kernel
theorem dX2_place_78 : decode cX2_place 78 = .ok (.getfield 69, 3) := by decide +kernel
theorem dX2_place_81 : decode cX2_place 81 = .ok (.iload_n 1, 1) := by decide +kernel
theorem dX2_place_82 : decode cX2_place 82 = .ok (.iconst 1, 1) := by decide +kernel
theorem dX2_place_83 : decode cX2_place 83 = .ok (.iload_n 2, 1) := by decide +kernel
theorem dX2_place_84 : decode cX2_place 84 = .ok (.invokevirtual 65, 3) := by decide +kernel
theorem dX2_place_87 : decode cX2_place 87 = .ok (.iload_n 3, 1) := by decide +kernel
theorem dX2_place_88 : decode cX2_place 88 = .ok (.ireturn, 1) := by decide +kernel
theorem dX2_buy_0 : decode cX2_buy 0 = .ok (.iload_n 1, 1) := by decide +kernel
theorem dX2_buy_1 : decode cX2_buy 1 = .ok (.iconst 0, 1) := by decide +kernel
theorem dX2_buy_2 : decode cX2_buy 2 = .ok (.iconst 1, 1) := by decide +kernel
theorem dX2_buy_3 : decode cX2_buy 3 = .ok (.invokestatic 27, 3) := by decide +kernel
theorem dX2_buy_6 : decode cX2_buy 6 = .ok (.invokestatic 51, 3) := by decide +kernel
theorem dX2_buy_9 : decode cX2_buy 9 = .ok (.iload_n 2, 1) := by decide +kernel
theorem dX2_buy_10 : decode cX2_buy 10 = .ok (.iconst 1, 1) := by decide +kernel
theorem dX2_buy_11 : decode cX2_buy 11 = .ok (.sipush 200, 3) := by decide +kernel
theorem dX2_buy_14 : decode cX2_buy 14 = .ok (.invokestatic 27, 3) := by decide +kernel
theorem dX2_buy_17 : decode cX2_buy 17 = .ok (.invokestatic 23, 3) := by decide +kernel
theorem dX2_buy_20 : decode cX2_buy 20 = .ok (.iload_n 1, 1) := by decide +kernel
theorem dX2_buy_21 : decode cX2_buy 21 = .ok (.ifCond .ne 11, 3) := by decide +kernel
theorem dX2_buy_24 : decode cX2_buy 24 = .ok (.iload_n 2, 1) := by decide +kernel
theorem dX2_buy_25 : decode cX2_buy 25 = .ok (.iconst 3, 1) := by decide +kernel
theorem dX2_buy_26 : decode cX2_buy 26 = .ok (.iadd, 1) := by decide +kernel
theorem dX2_buy_27 : decode cX2_buy 27 = .ok (.iconst 4, 1) := by decide +kernel
theorem dX2_buy_28 : decode cX2_buy 28 = .ok (.idiv, 1) := by decide +kernel
theorem dX2_buy_29 : decode cX2_buy 29 = .ok (.goto 4, 3) := by decide +kernel
theorem dX2_buy_32 : decode cX2_buy 32 = .ok (.iload_n 2, 1) := by decide +kernel
theorem dX2_buy_33 : decode cX2_buy 33 = .ok (.istore_n 3, 1) := by decide +kernel
theorem dX2_buy_34 : decode cX2_buy 34 = .ok (.aload_n 0, 1) := by decide +kernel
theorem dX2_buy_35 : decode cX2_buy 35 = .ok (.getfield 10, 3) := by decide +kernel
theorem dX2_buy_38 : decode cX2_buy 38 = .ok (.getfield 57, 3) := by decide +kernel
theorem dX2_buy_41 : decode cX2_buy 41 = .ok (.iload_n 3, 1) := by decide +kernel
theorem dX2_buy_42 : decode cX2_buy 42 = .ok (.if_icmp .lt 7, 3) := by decide +kernel
theorem dX2_buy_45 : decode cX2_buy 45 = .ok (.iconst 1, 1) := by decide +kernel
theorem dX2_buy_46 : decode cX2_buy 46 = .ok (.goto 4, 3) := by decide +kernel
theorem dX2_buy_49 : decode cX2_buy 49 = .ok (.iconst 0, 1) := by decide +kernel
theorem dX2_buy_50 : decode cX2_buy 50 = .ok (.invokestatic 41, 3) := by decide +kernel
theorem dX2_buy_53 : decode cX2_buy 53 = .ok (.aload_n 0, 1) := by decide +kernel
theorem dX2_buy_54 : decode cX2_buy 54 = .ok (.getfield 10, 3) := by decide +kernel
theorem dX2_buy_57 : decode cX2_buy 57 = .ok (.iload_n 3, 1) := by decide +kernel
theorem dX2_buy_58 : decode cX2_buy 58 = .ok (.invokevirtual 61, 3) := by decide +kernel
theorem dX2_buy_61 : decode cX2_buy 61 = .ok (.iload_n 1, 1) := by decide +kernel
theorem dX2_buy_62 : decode cX2_buy 62 = .ok (.ifCond .ne 14, 3) := by decide +kernel
theorem dX2_buy_65 : decode cX2_buy 65 = .ok (.aload_n 0, 1) := by decide +kernel
theorem dX2_buy_66 : decode cX2_buy 66 = .ok (.getfield 10, 3) := by decide +kernel
theorem dX2_buy_69 : decode cX2_buy 69 = .ok (.iload_n 2, 1) := by decide +kernel
theorem dX2_buy_70 : decode cX2_buy 70 = .ok (.invokevirtual 80, 3) := by decide +kernel
theorem dX2_buy_73 : decode cX2_buy 73 = .ok (.goto 11, 3) := by decide +kernel
theorem dX2_buy_76 : decode cX2_buy 76 = .ok (.aload_n 0, 1) := by decide +kernel
theorem dX2_buy_77 : decode cX2_buy 77 = .ok (.getfield 10, 3) := by decide +kernel
theorem dX2_buy_80 : decode cX2_buy 80 = .ok (.iload_n 2, 1) := by decide +kernel
theorem dX2_buy_81 : decode cX2_buy 81 = .ok (.invokevirtual 83, 3) := by decide +kernel
theorem dX2_buy_84 : decode cX2_buy 84 = .ok (.ireturn, 1) := by decide +kernel
theorem dX2_setDry_0 : decode cX2_setDry 0 = .ok (.iload_n 1, 1) := by decide +kernel
theorem dX2_setDry_1 : decode cX2_setDry 1 = .ok (.iconst 0, 1) := by decide +kernel
theorem dX2_setDry_2 : decode cX2_setDry 2 = .ok (.bipush 6, 2) := by decide +kernel
theorem dX2_setDry_4 : decode cX2_setDry 4 = .ok (.invokestatic 27, 3) := by decide +kernel
theorem dX2_setDry_7 : decode cX2_setDry 7 = .ok (.invokestatic 51, 3) := by decide +kernel
theorem dX2_setDry_10 : decode cX2_setDry 10 = .ok (.iload_n 2, 1) := by decide +kernel
theorem dX2_setDry_11 : decode cX2_setDry 11 = .ok (.iconst 0, 1) := by decide +kernel
theorem dX2_setDry_12 : decode cX2_setDry 12 = .ok (.iconst 3, 1) := by decide +kernel
theorem dX2_setDry_13 : decode cX2_setDry 13 = .ok (.invokestatic 27, 3) := by decide +kernel
theorem dX2_setDry_16 : decode cX2_setDry 16 = .ok (.invokestatic 23, 3) := by decide +kernel
theorem dX2_setDry_19 : decode cX2_setDry 19 = .ok (.aload_n 0, 1) := by decide +kernel
theorem dX2_setDry_20 : decode cX2_setDry 20 = .ok (.getfield 10, 3) := by decide +kernel
theorem dX2_setDry_23 : decode cX2_setDry 23 = .ok (.iload_n 1, 1) := by decide +kernel
theorem dX2_setDry_24 : decode cX2_setDry 24 = .ok (.invokevirtual 86, 3) := by decide +kernel
theorem dX2_setDry_27 : decode cX2_setDry 27 = .ok (.istore_n 3, 1) := by decide +kernel
theorem dX2_setDry_28 : decode cX2_setDry 28 = .ok (.aload_n 0, 1) := by decide +kernel
theorem dX2_setDry_29 : decode cX2_setDry 29 = .ok (.getfield 10, 3) := by decide +kernel
theorem dX2_setDry_32 : decode cX2_setDry 32 = .ok (.iload_n 1, 1) := by decide +kernel
theorem dX2_setDry_33 : decode cX2_setDry 33 = .ok (.iload_n 2, 1) := by decide +kernel
theorem dX2_setDry_34 : decode cX2_setDry 34 = .ok (.invokevirtual 89, 3) := by decide +kernel
theorem dX2_setDry_37 : decode cX2_setDry 37 = .ok (.iload_n 3, 1) := by decide +kernel
theorem dX2_setDry_38 : decode cX2_setDry 38 = .ok (.ireturn, 1) := by decide +kernel
theorem dX2_pack_0 : decode cX2_pack 0 = .ok (.aload_n 0, 1) := by decide +kernel
theorem dX2_pack_1 : decode cX2_pack 1 = .ok (.getfield 10, 3) := by decide +kernel
theorem dX2_pack_4 : decode cX2_pack 4 = .ok (.getfield 93, 3) := by decide +kernel
theorem dX2_pack_7 : decode cX2_pack 7 = .ok (.iload_n 1, 1) := by decide +kernel
theorem dX2_pack_8 : decode cX2_pack 8 = .ok (.invokevirtual 48, 3) := by decide +kernel
theorem dX2_pack_11 : decode cX2_pack 11 = .ok (.invokestatic 51, 3) := by decide +kernel
theorem dX2_pack_14 : decode cX2_pack 14 = .ok (.aload_n 0, 1) := by decide +kernel
theorem dX2_pack_15 : decode cX2_pack 15 = .ok (.getfield 10, 3) := by decide +kernel
theorem dX2_pack_18 : decode cX2_pack 18 = .ok (.getfield 96, 3) := by decide +kernel
theorem dX2_pack_21 : decode cX2_pack 21 = .ok (.iload_n 2, 1) := by decide +kernel
theorem dX2_pack_22 : decode cX2_pack 22 = .ok (.invokevirtual 48, 3) := by decide +kernel
theorem dX2_pack_25 : decode cX2_pack 25 = .ok (.invokestatic 51, 3) := by decide +kernel
theorem dX2_pack_28 : decode cX2_pack 28 = .ok (.iload_n 3, 1) := by decide +kernel
theorem dX2_pack_29 : decode cX2_pack 29 = .ok (.iconst 1, 1) := by decide +kernel
theorem dX2_pack_30 : decode cX2_pack 30 = .ok (.bipush 24, 2) := by decide +kernel
theorem dX2_pack_32 : decode cX2_pack 32 = .ok (.invokestatic 27, 3) := by decide +kernel
theorem dX2_pack_35 : decode cX2_pack 35 = .ok (.invokestatic 23, 3) := by decide +kernel
theorem dX2_pack_38 : decode cX2_pack 38 = .ok (.aload_n 0, 1) := by decide +kernel
theorem dX2_pack_39 : decode cX2_pack 39 = .ok (.getfield 10, 3) := by decide +kernel
theorem dX2_pack_42 : decode cX2_pack 42 = .ok (.getfield 96, 3) := by decide +kernel
theorem dX2_pack_45 : decode cX2_pack 45 = .ok (.iload_n 2, 1) := by decide +kernel
theorem dX2_pack_46 : decode cX2_pack 46 = .ok (.iconst 1, 1) := by decide +kernel
theorem dX2_pack_47 : decode cX2_pack 47 = .ok (.invokevirtual 54, 3) := by decide +kernel
theorem dX2_pack_50 : decode cX2_pack 50 = .ok (.ifCond .ne 7, 3) := by decide +kernel
theorem dX2_pack_53 : decode cX2_pack 53 = .ok (.iconst 1, 1) := by decide +kernel
theorem dX2_pack_54 : decode cX2_pack 54 = .ok (.goto 4, 3) := by decide +kernel
theorem dX2_pack_57 : decode cX2_pack 57 = .ok (.iconst 0, 1) := by decide +kernel
theorem dX2_pack_58 : decode cX2_pack 58 = .ok (.invokestatic 41, 3) := by decide +kernel
theorem dX2_pack_61 : decode cX2_pack 61 = .ok (.aload_n 0, 1) := by decide +kernel
theorem dX2_pack_62 : decode cX2_pack 62 = .ok (.getfield 10, 3) := by decide +kernel
theorem dX2_pack_65 : decode cX2_pack 65 = .ok (.getfield 93, 3) := by decide +kernel
theorem dX2_pack_68 : decode cX2_pack 68 = .ok (.iload_n 1, 1) := by decide +kernel
theorem dX2_pack_69 : decode cX2_pack 69 = .ok (.iconst 1, 1) := by decide +kernel
theorem dX2_pack_70 : decode cX2_pack 70 = .ok (.invokevirtual 54, 3) := by decide +kernel
theorem dX2_pack_73 : decode cX2_pack 73 = .ok (.iload_n 3, 1) := by decide +kernel
theorem dX2_pack_74 : decode cX2_pack 74 = .ok (.if_icmp .lt 7, 3) := by decide +kernel
theorem dX2_pack_77 : decode cX2_pack 77 = .ok (.iconst 1, 1) := by decide +kernel
theorem dX2_pack_78 : decode cX2_pack 78 = .ok (.goto 4, 3) := by decide +kernel
theorem dX2_pack_81 : decode cX2_pack 81 = .ok (.iconst 0, 1) := by decide +kernel
theorem dX2_pack_82 : decode cX2_pack 82 = .ok (.invokestatic 41, 3) := by decide +kernel
theorem dX2_pack_85 : decode cX2_pack 85 = .ok (.aload_n 0, 1) := by decide +kernel
theorem dX2_pack_86 : decode cX2_pack 86 = .ok (.getfield 10, 3) := by decide +kernel
theorem dX2_pack_89 : decode cX2_pack 89 = .ok (.iload_n 1, 1) := by decide +kernel
theorem dX2_pack_90 : decode cX2_pack 90 = .ok (.iload_n 2, 1) := by decide +kernel
theorem dX2_pack_91 : decode cX2_pack 91 = .ok (.iload_n 3, 1) := by decide +kernel
theorem dX2_pack_92 : decode cX2_pack 92 = .ok (.invokevirtual 99, 3) := by decide +kernel
theorem dX2_pack_95 : decode cX2_pack 95 = .ok (.ireturn, 1) := by decide +kernel
theorem dX2_fire_0 : decode cX2_fire 0 = .ok (.iload_n 1, 1) := by decide +kernel
theorem dX2_fire_1 : decode cX2_fire 1 = .ok (.iconst 1, 1) := by decide +kernel
theorem dX2_fire_2 : decode cX2_fire 2 = .ok (.bipush 30, 2) := by decide +kernel
theorem dX2_fire_4 : decode cX2_fire 4 = .ok (.invokestatic 27, 3) := by decide +kernel
theorem dX2_fire_7 : decode cX2_fire 7 = .ok (.invokestatic 23, 3) := by decide +kernel
theorem dX2_fire_10 : decode cX2_fire 10 = .ok (.aload_n 0, 1) := by decide +kernel
theorem dX2_fire_11 : decode cX2_fire 11 = .ok (.getfield 10, 3) := by decide +kernel
theorem dX2_fire_14 : decode cX2_fire 14 = .ok (.getfield 103, 3) := by decide +kernel
theorem dX2_fire_17 : decode cX2_fire 17 = .ok (.iload_n 1, 1) := by decide +kernel
theorem dX2_fire_18 : decode cX2_fire 18 = .ok (.if_icmp .lt 17, 3) := by decide +kernel
theorem dX2_fire_21 : decode cX2_fire 21 = .ok (.aload_n 0, 1) := by decide +kernel
theorem dX2_fire_22 : decode cX2_fire 22 = .ok (.getfield 10, 3) := by decide +kernel
theorem dX2_fire_25 : decode cX2_fire 25 = .ok (.invokevirtual 106, 3) := by decide +kernel
theorem dX2_fire_28 : decode cX2_fire 28 = .ok (.ifCond .ne 7, 3) := by decide +kernel
theorem dX2_fire_31 : decode cX2_fire 31 = .ok (.iconst 1, 1) := by decide +kernel
theorem dX2_fire_32 : decode cX2_fire 32 = .ok (.goto 4, 3) := by decide +kernel
theorem dX2_fire_35 : decode cX2_fire 35 = .ok (.iconst 0, 1) := by decide +kernel
theorem dX2_fire_36 : decode cX2_fire 36 = .ok (.invokestatic 41, 3) := by decide +kernel
theorem dX2_fire_39 : decode cX2_fire 39 = .ok (.aload_n 0, 1) := by decide +kernel
theorem dX2_fire_40 : decode cX2_fire 40 = .ok (.getfield 10, 3) := by decide +kernel
theorem dX2_fire_43 : decode cX2_fire 43 = .ok (.iload_n 1, 1) := by decide +kernel
theorem dX2_fire_44 : decode cX2_fire 44 = .ok (.invokevirtual 109, 3) := by decide +kernel
theorem dX2_fire_47 : decode cX2_fire 47 = .ok (.ireturn, 1) := by decide +kernel
theorem dX2_order_0 : decode cX2_order 0 = .ok (.iload_n 1, 1) := by decide +kernel
theorem dX2_order_1 : decode cX2_order 1 = .ok (.invokestatic 19, 3) := by decide +kernel
theorem dX2_order_4 : decode cX2_order 4 = .ok (.invokestatic 23, 3) := by decide +kernel
theorem dX2_order_7 : decode cX2_order 7 = .ok (.iload_n 2, 1) := by decide +kernel
theorem dX2_order_8 : decode cX2_order 8 = .ok (.iconst 1, 1) := by decide +kernel
theorem dX2_order_9 : decode cX2_order 9 = .ok (.bipush 99, 2) := by decide +kernel
theorem dX2_order_11 : decode cX2_order 11 = .ok (.invokestatic 27, 3) := by decide +kernel
theorem dX2_order_14 : decode cX2_order 14 = .ok (.invokestatic 23, 3) := by decide +kernel
theorem dX2_order_17 : decode cX2_order 17 = .ok (.iload_n 3, 1) := by decide +kernel
theorem dX2_order_18 : decode cX2_order 18 = .ok (.iconst 0, 1) := by decide +kernel
theorem dX2_order_19 : decode cX2_order 19 = .ok (.bipush 30, 2) := by decide +kernel
theorem dX2_order_21 : decode cX2_order 21 = .ok (.invokestatic 27, 3) := by decide +kernel
theorem dX2_order_24 : decode cX2_order 24 = .ok (.invokestatic 23, 3) := by decide +kernel
theorem dX2_order_27 : decode cX2_order 27 = .ok (.iload 4, 2) := by decide +kernel
theorem dX2_order_29 : decode cX2_order 29 = .ok (.iconst 1, 1) := by decide +kernel
theorem dX2_order_30 : decode cX2_order 30 = .ok (.bipush 99, 2) := by decide +kernel
theorem dX2_order_32 : decode cX2_order 32 = .ok (.invokestatic 27, 3) := by decide +kernel
theorem dX2_order_35 : decode cX2_order 35 = .ok (.invokestatic 23, 3) := by decide +kernel
theorem dX2_order_38 : decode cX2_order 38 = .ok (.aload_n 0, 1) := by decide +kernel
theorem dX2_order_39 : decode cX2_order 39 = .ok (.getfield 10, 3) := by decide +kernel
theorem dX2_order_42 : decode cX2_order 42 = .ok (.getfield 112, 3) := by decide +kernel
theorem dX2_order_45 : decode cX2_order 45 = .ok (.invokevirtual 35, 3) := by decide +kernel
theorem dX2_order_48 : decode cX2_order 48 = .ok (.ifCond .ne 7, 3) := by decide +kernel
theorem dX2_order_51 : decode cX2_order 51 = .ok (.iconst 1, 1) := by decide +kernel
theorem dX2_order_52 : decode cX2_order 52 = .ok (.goto 4, 3) := by decide +kernel
theorem dX2_order_55 : decode cX2_order 55 = .ok (.iconst 0, 1) := by decide +kernel
theorem dX2_order_56 : decode cX2_order 56 = .ok (.invokestatic 41, 3) := by decide +kernel
theorem dX2_order_59 : decode cX2_order 59 = .ok (.aload_n 0, 1) := by decide +kernel
theorem dX2_order_60 : decode cX2_order 60 = .ok (.getfield 10, 3) := by decide +kernel
theorem dX2_order_63 : decode cX2_order 63 = .ok (.iload_n 1, 1) := by decide +kernel
theorem dX2_order_64 : decode cX2_order 64 = .ok (.iload_n 2, 1) := by decide +kernel
theorem dX2_order_65 : decode cX2_order 65 = .ok (.iload_n 3, 1) := by decide +kernel
theorem dX2_order_66 : decode cX2_order 66 = .ok (.iload 4, 2) := by decide +kernel
theorem dX2_order_68 : decode cX2_order 68 = .ok (.invokevirtual 115, 3) := by decide +kernel
theorem dX2_order_71 : decode cX2_order 71 = .ok (.ireturn, 1) := by decide +kernel
theorem dX2_about_0 : decode cX2_about 0 = .ok (.aload_n 0, 1) := by decide +kernel
theorem dX2_about_1 : decode cX2_about 1 = .ok (.getfield 10, 3) := by decide +kernel
theorem dX2_about_4 : decode cX2_about 4 = .ok (.getfield 31, 3) := by decide +kernel
theorem dX2_about_7 : decode cX2_about 7 = .ok (.iload_n 1, 1) := by decide +kernel
theorem dX2_about_8 : decode cX2_about 8 = .ok (.invokevirtual 48, 3) := by decide +kernel
theorem dX2_about_11 : decode cX2_about 11 = .ok (.invokestatic 51, 3) := by decide +kernel
theorem dX2_about_14 : decode cX2_about 14 = .ok (.iload_n 2, 1) := by decide +kernel
theorem dX2_about_15 : decode cX2_about 15 = .ok (.iconst 0, 1) := by decide +kernel
theorem dX2_about_16 : decode cX2_about 16 = .ok (.iconst 5, 1) := by decide +kernel
theorem dX2_about_17 : decode cX2_about 17 = .ok (.invokestatic 27, 3) := by decide +kernel
theorem dX2_about_20 : decode cX2_about 20 = .ok (.invokestatic 51, 3) := by decide +kernel
theorem dX2_about_23 : decode cX2_about 23 = .ok (.aload_n 0, 1) := by decide +kernel
theorem dX2_about_24 : decode cX2_about 24 = .ok (.getfield 10, 3) := by decide +kernel
theorem dX2_about_27 : decode cX2_about 27 = .ok (.iload_n 1, 1) := by decide +kernel
theorem dX2_about_28 : decode cX2_about 28 = .ok (.iload_n 2, 1) := by decide +kernel
theorem dX2_about_29 : decode cX2_about 29 = .ok (.invokevirtual 119, 3) := by decide +kernel
theorem dX2_about_32 : decode cX2_about 32 = .ok (.ireturn, 1) := by decide +kernel
theorem dX2_told_0 : decode cX2_told 0 = .ok (.aload_n 0, 1) := by decide +kernel
theorem dX2_told_1 : decode cX2_told 1 = .ok (.getfield 10, 3) := by decide +kernel
theorem dX2_told_4 : decode cX2_told 4 = .ok (.getfield 69, 3) := by decide +kernel
theorem dX2_told_7 : decode cX2_told 7 = .ok (.iload_n 1, 1) := by decide +kernel
theorem dX2_told_8 : decode cX2_told 8 = .ok (.iload_n 2, 1) := by decide +kernel
theorem dX2_told_9 : decode cX2_told 9 = .ok (.invokestatic 122, 3) := by decide +kernel
theorem dX2_told_12 : decode cX2_told 12 = .ok (.ireturn, 1) := by decide +kernel
theorem dX2_batch_0 : decode cX2_batch 0 = .ok (.aload_n 0, 1) := by decide +kernel
theorem dX2_batch_1 : decode cX2_batch 1 = .ok (.getfield 10, 3) := by decide +kernel
theorem dX2_batch_4 : decode cX2_batch 4 = .ok (.getfield 93, 3) := by decide +kernel
theorem dX2_batch_7 : decode cX2_batch 7 = .ok (.iload_n 1, 1) := by decide +kernel
theorem dX2_batch_8 : decode cX2_batch 8 = .ok (.iload_n 2, 1) := by decide +kernel
theorem dX2_batch_9 : decode cX2_batch 9 = .ok (.invokestatic 122, 3) := by decide +kernel
theorem dX2_batch_12 : decode cX2_batch 12 = .ok (.ireturn, 1) := by decide +kernel
theorem dX2_saggar_0 : decode cX2_saggar 0 = .ok (.aload_n 0, 1) := by decide +kernel
theorem dX2_saggar_1 : decode cX2_saggar 1 = .ok (.getfield 10, 3) := by decide +kernel
theorem dX2_saggar_4 : decode cX2_saggar 4 = .ok (.getfield 96, 3) := by decide +kernel
theorem dX2_saggar_7 : decode cX2_saggar 7 = .ok (.iload_n 1, 1) := by decide +kernel
theorem dX2_saggar_8 : decode cX2_saggar 8 = .ok (.iload_n 2, 1) := by decide +kernel
theorem dX2_saggar_9 : decode cX2_saggar 9 = .ok (.invokestatic 122, 3) := by decide +kernel
theorem dX2_saggar_12 : decode cX2_saggar 12 = .ok (.ireturn, 1) := by decide +kernel
theorem dX2_store_0 : decode cX2_store 0 = .ok (.iload_n 1, 1) := by decide +kernel
theorem dX2_store_1 : decode cX2_store 1 = .ok (.invokestatic 19, 3) := by decide +kernel
theorem dX2_store_4 : decode cX2_store 4 = .ok (.invokestatic 51, 3) := by decide +kernel
theorem dX2_store_7 : decode cX2_store 7 = .ok (.aload_n 0, 1) := by decide +kernel
theorem dX2_store_8 : decode cX2_store 8 = .ok (.getfield 10, 3) := by decide +kernel
theorem dX2_store_11 : decode cX2_store 11 = .ok (.iload_n 1, 1) := by decide +kernel
theorem dX2_store_12 : decode cX2_store 12 = .ok (.invokevirtual 126, 3) := by decide +kernel
theorem dX2_store_15 : decode cX2_store 15 = .ok (.ireturn, 1) := by decide +kernel
theorem dX2_waits_0 : decode cX2_waits 0 = .ok (.aload_n 0, 1) := by decide +kernel
theorem dX2_waits_1 : decode cX2_waits 1 = .ok (.getfield 10, 3) := by decide +kernel
theorem dX2_waits_4 : decode cX2_waits 4 = .ok (.getfield 112, 3) := by decide +kernel
theorem dX2_waits_7 : decode cX2_waits 7 = .ok (.iload_n 1, 1) := by decide +kernel
theorem dX2_waits_8 : decode cX2_waits 8 = .ok (.iload_n 2, 1) := by decide +kernel
theorem dX2_waits_9 : decode cX2_waits 9 = .ok (.invokestatic 122, 3) := by decide +kernel
theorem dX2_waits_12 : decode cX2_waits 12 = .ok (.ireturn, 1) := by decide +kernel
theorem dX2_count_0 : decode cX2_count 0 = .ok (.iload_n 1, 1) := by decide +kernel
theorem dX2_count_1 : decode cX2_count 1 = .ok (.iconst 0, 1) := by decide +kernel
theorem dX2_count_2 : decode cX2_count 2 = .ok (.bipush 11, 2) := by decide +kernel
theorem dX2_count_4 : decode cX2_count 4 = .ok (.invokestatic 27, 3) := by decide +kernel
theorem dX2_count_7 : decode cX2_count 7 = .ok (.invokestatic 51, 3) := by decide +kernel
theorem dX2_count_10 : decode cX2_count 10 = .ok (.aload_n 0, 1) := by decide +kernel
theorem dX2_count_11 : decode cX2_count 11 = .ok (.getfield 10, 3) := by decide +kernel
theorem dX2_count_14 : decode cX2_count 14 = .ok (.iload_n 1, 1) := by decide +kernel
theorem dX2_count_15 : decode cX2_count 15 = .ok (.invokevirtual 129, 3) := by decide +kernel
theorem dX2_count_18 : decode cX2_count 18 = .ok (.ireturn, 1) := by decide +kernel
theorem dX2_pass_0 : decode cX2_pass 0 = .ok (.iload_n 1, 1) := by decide +kernel
theorem dX2_pass_1 : decode cX2_pass 1 = .ok (.iconst 1, 1) := by decide +kernel
theorem dX2_pass_2 : decode cX2_pass 2 = .ok (.bipush 40, 2) := by decide +kernel
theorem dX2_pass_4 : decode cX2_pass 4 = .ok (.invokestatic 27, 3) := by decide +kernel
theorem dX2_pass_7 : decode cX2_pass 7 = .ok (.invokestatic 23, 3) := by decide +kernel
theorem dX2_pass_10 : decode cX2_pass 10 = .ok (.aload_n 0, 1) := by decide +kernel
theorem dX2_pass_11 : decode cX2_pass 11 = .ok (.getfield 10, 3) := by decide +kernel
theorem dX2_pass_14 : decode cX2_pass 14 = .ok (.getfield 132, 3) := by decide +kernel
theorem dX2_pass_17 : decode cX2_pass 17 = .ok (.istore_n 2, 1) := by decide +kernel
theorem dX2_pass_18 : decode cX2_pass 18 = .ok (.aload_n 0, 1) := by decide +kernel
theorem dX2_pass_19 : decode cX2_pass 19 = .ok (.getfield 10, 3) := by decide +kernel
theorem dX2_pass_22 : decode cX2_pass 22 = .ok (.iload_n 1, 1) := by decide +kernel
theorem dX2_pass_23 : decode cX2_pass 23 = .ok (.invokevirtual 135, 3) := by decide +kernel
theorem dX2_pass_26 : decode cX2_pass 26 = .ok (.aload_n 0, 1) := by decide +kernel
theorem dX2_pass_27 : decode cX2_pass 27 = .ok (.getfield 10, 3) := by decide +kernel
theorem dX2_pass_30 : decode cX2_pass 30 = .ok (.getfield 132, 3) := by decide +kernel
theorem dX2_pass_33 : decode cX2_pass 33 = .ok (.iload_n 2, 1) := by decide +kernel
theorem dX2_pass_34 : decode cX2_pass 34 = .ok (.isub, 1) := by decide +kernel
theorem dX2_pass_35 : decode cX2_pass 35 = .ok (.ireturn, 1) := by decide +kernel
theorem dX2_breaks_0 : decode cX2_breaks 0 = .ok (.aload_n 0, 1) := by decide +kernel
theorem dX2_breaks_1 : decode cX2_breaks 1 = .ok (.getfield 10, 3) := by decide +kernel
theorem dX2_breaks_4 : decode cX2_breaks 4 = .ok (.getfield 96, 3) := by decide +kernel
theorem dX2_breaks_7 : decode cX2_breaks 7 = .ok (.iload_n 1, 1) := by decide +kernel
theorem dX2_breaks_8 : decode cX2_breaks 8 = .ok (.invokevirtual 48, 3) := by decide +kernel
theorem dX2_breaks_11 : decode cX2_breaks 11 = .ok (.invokestatic 51, 3) := by decide +kernel
theorem dX2_breaks_14 : decode cX2_breaks 14 = .ok (.iload_n 2, 1) := by decide +kernel
theorem dX2_breaks_15 : decode cX2_breaks 15 = .ok (.iconst 1, 1) := by decide +kernel
theorem dX2_breaks_16 : decode cX2_breaks 16 = .ok (.bipush 30, 2) := by decide +kernel
theorem dX2_breaks_18 : decode cX2_breaks 18 = .ok (.invokestatic 27, 3) := by decide +kernel
theorem dX2_breaks_21 : decode cX2_breaks 21 = .ok (.invokestatic 23, 3) := by decide +kernel
theorem dX2_breaks_24 : decode cX2_breaks 24 = .ok (.aload_n 0, 1) := by decide +kernel
theorem dX2_breaks_25 : decode cX2_breaks 25 = .ok (.getfield 10, 3) := by decide +kernel
theorem dX2_breaks_28 : decode cX2_breaks 28 = .ok (.iload_n 1, 1) := by decide +kernel
theorem dX2_breaks_29 : decode cX2_breaks 29 = .ok (.iload_n 2, 1) := by decide +kernel
theorem dX2_breaks_30 : decode cX2_breaks 30 = .ok (.invokevirtual 138, 3) := by decide +kernel
theorem dX2_breaks_33 : decode cX2_breaks 33 = .ok (.ireturn, 1) := by decide +kernel
theorem dX2_advise_0 : decode cX2_advise 0 = .ok (.aload_n 0, 1) := by decide +kernel
theorem dX2_advise_1 : decode cX2_advise 1 = .ok (.getfield 10, 3) := by decide +kernel
theorem dX2_advise_4 : decode cX2_advise 4 = .ok (.invokevirtual 106, 3) := by decide +kernel
theorem dX2_advise_7 : decode cX2_advise 7 = .ok (.ifCond .eq 7, 3) := by decide +kernel
theorem dX2_advise_10 : decode cX2_advise 10 = .ok (.iconst (-1), 1) := by decide +kernel
theorem dX2_advise_11 : decode cX2_advise 11 = .ok (.goto 10, 3) := by decide +kernel
theorem dX2_advise_14 : decode cX2_advise 14 = .ok (.aload_n 0, 1) := by decide +kernel
theorem dX2_advise_15 : decode cX2_advise 15 = .ok (.getfield 10, 3) := by decide +kernel
theorem dX2_advise_18 : decode cX2_advise 18 = .ok (.invokevirtual 141, 3) := by decide +kernel
theorem dX2_advise_21 : decode cX2_advise 21 = .ok (.ireturn, 1) := by decide +kernel
theorem dX2_ready_0 : decode cX2_ready 0 = .ok (.aload_n 0, 1) := by decide +kernel
theorem dX2_ready_1 : decode cX2_ready 1 = .ok (.getfield 10, 3) := by decide +kernel
theorem dX2_ready_4 : decode cX2_ready 4 = .ok (.getfield 112, 3) := by decide +kernel
theorem dX2_ready_7 : decode cX2_ready 7 = .ok (.iload_n 1, 1) := by decide +kernel
theorem dX2_ready_8 : decode cX2_ready 8 = .ok (.invokevirtual 48, 3) := by decide +kernel
theorem dX2_ready_11 : decode cX2_ready 11 = .ok (.invokestatic 51, 3) := by decide +kernel
theorem dX2_ready_14 : decode cX2_ready 14 = .ok (.aload_n 0, 1) := by decide +kernel
theorem dX2_ready_15 : decode cX2_ready 15 = .ok (.getfield 16, 3) := by decide +kernel
theorem dX2_ready_18 : decode cX2_ready 18 = .ok (.aload_n 0, 1) := by decide +kernel
theorem dX2_ready_19 : decode cX2_ready 19 = .ok (.getfield 10, 3) := by decide +kernel
theorem dX2_ready_22 : decode cX2_ready 22 = .ok (.invokevirtual 145, 3) := by decide +kernel
theorem dX2_ready_25 : decode cX2_ready 25 = .ok (.aload_n 0, 1) := by decide +kernel
theorem dX2_ready_26 : decode cX2_ready 26 = .ok (.getfield 16, 3) := by decide +kernel
theorem dX2_ready_29 : decode cX2_ready 29 = .ok (.iload_n 1, 1) := by decide +kernel
theorem dX2_ready_30 : decode cX2_ready 30 = .ok (.invokevirtual 149, 3) := by decide +kernel
theorem dX2_ready_33 : decode cX2_ready 33 = .ok (.ireturn, 1) := by decide +kernel
theorem dX2_foresee_0 : decode cX2_foresee 0 = .ok (.iload_n 1, 1) := by decide +kernel
theorem dX2_foresee_1 : decode cX2_foresee 1 = .ok (.iconst 1, 1) := by decide +kernel
theorem dX2_foresee_2 : decode cX2_foresee 2 = .ok (.bipush 40, 2) := by decide +kernel
theorem dX2_foresee_4 : decode cX2_foresee 4 = .ok (.invokestatic 27, 3) := by decide +kernel
theorem dX2_foresee_7 : decode cX2_foresee 7 = .ok (.invokestatic 23, 3) := by decide +kernel
theorem dX2_foresee_10 : decode cX2_foresee 10 = .ok (.iload_n 2, 1) := by decide +kernel
theorem dX2_foresee_11 : decode cX2_foresee 11 = .ok (.iconst 0, 1) := by decide +kernel
theorem dX2_foresee_12 : decode cX2_foresee 12 = .ok (.bipush 11, 2) := by decide +kernel
theorem dX2_foresee_14 : decode cX2_foresee 14 = .ok (.invokestatic 27, 3) := by decide +kernel
theorem dX2_foresee_17 : decode cX2_foresee 17 = .ok (.invokestatic 51, 3) := by decide +kernel
theorem dX2_foresee_20 : decode cX2_foresee 20 = .ok (.aload_n 0, 1) := by decide +kernel
theorem dX2_foresee_21 : decode cX2_foresee 21 = .ok (.getfield 16, 3) := by decide +kernel
theorem dX2_foresee_24 : decode cX2_foresee 24 = .ok (.aload_n 0, 1) := by decide +kernel
theorem dX2_foresee_25 : decode cX2_foresee 25 = .ok (.getfield 10, 3) := by decide +kernel
theorem dX2_foresee_28 : decode cX2_foresee 28 = .ok (.invokevirtual 145, 3) := by decide +kernel
theorem dX2_foresee_31 : decode cX2_foresee 31 = .ok (.aload_n 0, 1) := by decide +kernel
theorem dX2_foresee_32 : decode cX2_foresee 32 = .ok (.getfield 16, 3) := by decide +kernel
theorem dX2_foresee_35 : decode cX2_foresee 35 = .ok (.iload_n 1, 1) := by decide +kernel
theorem dX2_foresee_36 : decode cX2_foresee 36 = .ok (.invokevirtual 135, 3) := by decide +kernel
theorem dX2_foresee_39 : decode cX2_foresee 39 = .ok (.aload_n 0, 1) := by decide +kernel
theorem dX2_foresee_40 : decode cX2_foresee 40 = .ok (.getfield 16, 3) := by decide +kernel
theorem dX2_foresee_43 : decode cX2_foresee 43 = .ok (.iload_n 2, 1) := by decide +kernel
theorem dX2_foresee_44 : decode cX2_foresee 44 = .ok (.invokevirtual 129, 3) := by decide +kernel
theorem dX2_foresee_47 : decode cX2_foresee 47 = .ok (.ireturn, 1) := by decide +kernel
theorem dX2_mean_0 : decode cX2_mean 0 = .ok (.aload_n 0, 1) := by decide +kernel
theorem dX2_mean_1 : decode cX2_mean 1 = .ok (.getfield 10, 3) := by decide +kernel
theorem dX2_mean_4 : decode cX2_mean 4 = .ok (.invokevirtual 152, 3) := by decide +kernel
theorem dX2_mean_7 : decode cX2_mean 7 = .ok (.dreturn, 1) := by decide +kernel
theorem dX2_digest_0 : decode cX2_digest 0 = .ok (.aload_n 0, 1) := by decide +kernel
theorem dX2_digest_1 : decode cX2_digest 1 = .ok (.getfield 10, 3) := by decide +kernel
theorem dX2_digest_4 : decode cX2_digest 4 = .ok (.invokevirtual 156, 3) := by decide +kernel
theorem dX2_digest_7 : decode cX2_digest 7 = .ok (.lreturn, 1) := by decide +kernel
theorem dX2_isWithin_0 : decode cX2_isWithin 0 = .ok (.iload_n 0, 1) := by decide +kernel
theorem dX2_isWithin_1 : decode cX2_isWithin 1 = .ok (.iload_n 1, 1) := by decide +kernel
theorem dX2_isWithin_2 : decode cX2_isWithin 2 = .ok (.if_icmp .lt 12, 3) := by decide +kernel
theorem dX2_isWithin_5 : decode cX2_isWithin 5 = .ok (.iload_n 0, 1) := by decide +kernel
theorem dX2_isWithin_6 : decode cX2_isWithin 6 = .ok (.iload_n 2, 1) := by decide +kernel
theorem dX2_isWithin_7 : decode cX2_isWithin 7 = .ok (.if_icmp .gt 7, 3) := by decide +kernel
theorem dX2_isWithin_10 : decode cX2_isWithin 10 = .ok (.iconst 1, 1) := by decide +kernel
theorem dX2_isWithin_11 : decode cX2_isWithin 11 = .ok (.goto 4, 3) := by decide +kernel
theorem dX2_isWithin_14 : decode cX2_isWithin 14 = .ok (.iconst 0, 1) := by decide +kernel
theorem dX2_isWithin_15 : decode cX2_isWithin 15 = .ok (.ireturn, 1) := by decide +kernel
theorem dX2_isLength_0 : decode cX2_isLength 0 = .ok (.iload_n 0, 1) := by decide +kernel
theorem dX2_isLength_1 : decode cX2_isLength 1 = .ok (.iconst 4, 1) := by decide +kernel
theorem dX2_isLength_2 : decode cX2_isLength 2 = .ok (.bipush 24, 2) := by decide +kernel
theorem dX2_isLength_4 : decode cX2_isLength 4 = .ok (.invokestatic 27, 3) := by decide +kernel
theorem dX2_isLength_7 : decode cX2_isLength 7 = .ok (.ireturn, 1) := by decide +kernel
theorem dX2_cellOf_0 : decode cX2_cellOf 0 = .ok (.aload_n 0, 1) := by decide +kernel
theorem dX2_cellOf_1 : decode cX2_cellOf 1 = .ok (.iload_n 1, 1) := by decide +kernel
theorem dX2_cellOf_2 : decode cX2_cellOf 2 = .ok (.invokevirtual 48, 3) := by decide +kernel
theorem dX2_cellOf_5 : decode cX2_cellOf 5 = .ok (.invokestatic 51, 3) := by decide +kernel
theorem dX2_cellOf_8 : decode cX2_cellOf 8 = .ok (.aload_n 0, 1) := by decide +kernel
theorem dX2_cellOf_9 : decode cX2_cellOf 9 = .ok (.iload_n 2, 1) := by decide +kernel
theorem dX2_cellOf_10 : decode cX2_cellOf 10 = .ok (.invokevirtual 160, 3) := by decide +kernel
theorem dX2_cellOf_13 : decode cX2_cellOf 13 = .ok (.invokestatic 51, 3) := by decide +kernel
theorem dX2_cellOf_16 : decode cX2_cellOf 16 = .ok (.aload_n 0, 1) := by decide +kernel
theorem dX2_cellOf_17 : decode cX2_cellOf 17 = .ok (.iload_n 1, 1) := by decide +kernel
theorem dX2_cellOf_18 : decode cX2_cellOf 18 = .ok (.iload_n 2, 1) := by decide +kernel
theorem dX2_cellOf_19 : decode cX2_cellOf 19 = .ok (.invokevirtual 54, 3) := by decide +kernel
theorem dX2_cellOf_22 : decode cX2_cellOf 22 = .ok (.ireturn, 1) := by decide +kernel
theorem dX2_requireIndex_0 : decode cX2_requireIndex 0 = .ok (.iload_n 0, 1) := by decide +kernel
theorem dX2_requireIndex_1 : decode cX2_requireIndex 1 = .ok (.ifCond .ne 13, 3) := by decide +kernel
theorem dX2_requireIndex_4 : decode cX2_requireIndex 4 = .ok (.new 163, 3) := by decide +kernel
theorem dX2_requireIndex_7 : decode cX2_requireIndex 7 = .ok (.dup, 1) := by decide +kernel
theorem dX2_requireIndex_8 : decode cX2_requireIndex 8 = .ok (.ldc 165, 2) := by decide +kernel
theorem dX2_requireIndex_10 : decode cX2_requireIndex 10 = .ok (.invokespecial 167, 3) := by decide +kernel
theorem dX2_requireIndex_13 : decode cX2_requireIndex 13 = .ok (.athrow, 1) := by decide +kernel
theorem dX2_requireIndex_14 : decode cX2_requireIndex 14 = .ok (.return_, 1) := by decide +kernel
theorem dX2_requireArgument_0 : decode cX2_requireArgument 0 = .ok (.iload_n 0, 1) := by decide +kernel
theorem dX2_requireArgument_1 : decode cX2_requireArgument 1 = .ok (.ifCond .ne 13, 3) := by decide +kernel
theorem dX2_requireArgument_4 : decode cX2_requireArgument 4 = .ok (.new 170, 3) := by decide +kernel
theorem dX2_requireArgument_7 : decode cX2_requireArgument 7 = .ok (.dup, 1) := by decide +kernel
theorem dX2_requireArgument_8 : decode cX2_requireArgument 8 = .ok (.ldc 172, 2) := by decide +kernel
theorem dX2_requireArgument_10 : decode cX2_requireArgument 10 = .ok (.invokespecial 174, 3) := by decide +kernel
theorem dX2_requireArgument_13 : decode cX2_requireArgument 13 = .ok (.athrow, 1) := by decide +kernel
theorem dX2_requireArgument_14 : decode cX2_requireArgument 14 = .ok (.return_, 1) := by decide +kernel
theorem dX2_requireState_0 : decode cX2_requireState 0 = .ok (.iload_n 0, 1) := by decide +kernel
theorem dX2_requireState_1 : decode cX2_requireState 1 = .ok (.ifCond .ne 13, 3) := by decide +kernel
theorem dX2_requireState_4 : decode cX2_requireState 4 = .ok (.new 175, 3) := by decide +kernel
theorem dX2_requireState_7 : decode cX2_requireState 7 = .ok (.dup, 1) := by decide +kernel
theorem dX2_requireState_8 : decode cX2_requireState 8 = .ok (.ldc 177, 2) := by decide +kernel
theorem dX2_requireState_10 : decode cX2_requireState 10 = .ok (.invokespecial 179, 3) := by decide +kernel
theorem dX2_requireState_13 : decode cX2_requireState 13 = .ok (.athrow, 1) := by decide +kernel
theorem dX2_requireState_14 : decode cX2_requireState 14 = .ok (.return_, 1) := by decide +kernel
end
section
theorem dX1_init_0 : decode cX1_init 0 = .ok (.aload_n 0, 1) := by decide +kernel
theorem dX1_init_1 : decode cX1_init 1 = .ok (.invokespecial 3, 3) := by decide +kernel
theorem dX1_init_4 : decode cX1_init 4 = .ok (.aload_n 0, 1) := by decide +kernel
theorem dX1_init_5 : decode cX1_init 5 = .ok (.new 9, 3) := by decide +kernel
theorem dX1_init_8 : decode cX1_init 8 = .ok (.dup, 1) := by decide +kernel
theorem dX1_init_9 : decode cX1_init 9 = .ok (.bipush 18, 2) := by decide +kernel
theorem dX1_init_11 : decode cX1_init 11 = .ok (.newarray .int, 2) := by decide +kernel
theorem dX1_init_13 : decode cX1_init 13 = .ok (.iconst 3, 1) := by decide +kernel
theorem dX1_init_14 : decode cX1_init 14 = .ok (.iconst 0, 1) := by decide +kernel
theorem dX1_init_15 : decode cX1_init 15 = .ok (.invokespecial 11, 3) := by decide +kernel
theorem dX1_init_18 : decode cX1_init 18 = .ok (.putfield 14, 3) := by decide +kernel
theorem dX1_init_21 : decode cX1_init 21 = .ok (.aload_n 0, 1) := by decide +kernel
theorem dX1_init_22 : decode cX1_init 22 = .ok (.new 9, 3) := by decide +kernel
theorem dX1_init_25 : decode cX1_init 25 = .ok (.dup, 1) := by decide +kernel
theorem dX1_init_26 : decode cX1_init 26 = .ok (.bipush 10, 2) := by decide +kernel
theorem dX1_init_28 : decode cX1_init 28 = .ok (.newarray .int, 2) := by decide +kernel
theorem dX1_init_30 : decode cX1_init 30 = .ok (.iconst 2, 1) := by decide +kernel
theorem dX1_init_31 : decode cX1_init 31 = .ok (.iconst 0, 1) := by decide +kernel
theorem dX1_init_32 : decode cX1_init 32 = .ok (.invokespecial 11, 3) := by decide +kernel
theorem dX1_init_35 : decode cX1_init 35 = .ok (.putfield 20, 3) := by decide +kernel
theorem dX1_init_38 : decode cX1_init 38 = .ok (.aload_n 0, 1) := by decide +kernel
theorem dX1_init_39 : decode cX1_init 39 = .ok (.new 9, 3) := by decide +kernel
theorem dX1_init_42 : decode cX1_init 42 = .ok (.dup, 1) := by decide +kernel
theorem dX1_init_43 : decode cX1_init 43 = .ok (.bipush 40, 2) := by decide +kernel
theorem dX1_init_45 : decode cX1_init 45 = .ok (.newarray .int, 2) := by decide +kernel
theorem dX1_init_47 : decode cX1_init 47 = .ok (.iconst 4, 1) := by decide +kernel
theorem dX1_init_48 : decode cX1_init 48 = .ok (.iconst 0, 1) := by decide +kernel
theorem dX1_init_49 : decode cX1_init 49 = .ok (.invokespecial 11, 3) := by decide +kernel
theorem dX1_init_52 : decode cX1_init 52 = .ok (.putfield 23, 3) := by decide +kernel
theorem dX1_init_55 : decode cX1_init 55 = .ok (.aload_n 0, 1) := by decide +kernel
theorem dX1_init_56 : decode cX1_init 56 = .ok (.new 9, 3) := by decide +kernel
theorem dX1_init_59 : decode cX1_init 59 = .ok (.dup, 1) := by decide +kernel
theorem dX1_init_60 : decode cX1_init 60 = .ok (.bipush 24, 2) := by decide +kernel
theorem dX1_init_62 : decode cX1_init 62 = .ok (.newarray .int, 2) := by decide +kernel
theorem dX1_init_64 : decode cX1_init 64 = .ok (.iconst 4, 1) := by decide +kernel
theorem dX1_init_65 : decode cX1_init 65 = .ok (.bipush 6, 2) := by decide +kernel
theorem dX1_init_67 : decode cX1_init 67 = .ok (.invokespecial 11, 3) := by decide +kernel
theorem dX1_init_70 : decode cX1_init 70 = .ok (.putfield 26, 3) := by decide +kernel
theorem dX1_init_73 : decode cX1_init 73 = .ok (.aload_n 0, 1) := by decide +kernel
theorem dX1_init_74 : decode cX1_init 74 = .ok (.new 9, 3) := by decide +kernel
theorem dX1_init_77 : decode cX1_init 77 = .ok (.dup, 1) := by decide +kernel
theorem dX1_init_78 : decode cX1_init 78 = .ok (.bipush 32, 2) := by decide +kernel
theorem dX1_init_80 : decode cX1_init 80 = .ok (.newarray .int, 2) := by decide +kernel
theorem dX1_init_82 : decode cX1_init 82 = .ok (.iconst 4, 1) := by decide +kernel
theorem dX1_init_83 : decode cX1_init 83 = .ok (.iconst 0, 1) := by decide +kernel
theorem dX1_init_84 : decode cX1_init 84 = .ok (.invokespecial 11, 3) := by decide +kernel
theorem dX1_init_87 : decode cX1_init 87 = .ok (.putfield 29, 3) := by decide +kernel
theorem dX1_init_90 : decode cX1_init 90 = .ok (.aload_n 0, 1) := by decide +kernel
theorem dX1_init_91 : decode cX1_init 91 = .ok (.bipush 7, 2) := by decide +kernel
theorem dX1_init_93 : decode cX1_init 93 = .ok (.newarray .int, 2) := by decide +kernel
theorem dX1_init_95 : decode cX1_init 95 = .ok (.putfield 32, 3) := by decide +kernel
theorem dX1_init_98 : decode cX1_init 98 = .ok (.aload_n 0, 1) := by decide +kernel
theorem dX1_init_99 : decode cX1_init 99 = .ok (.bipush 25, 2) := by decide +kernel
theorem dX1_init_101 : decode cX1_init 101 = .ok (.newarray .int, 2) := by decide +kernel
theorem dX1_init_103 : decode cX1_init 103 = .ok (.putfield 36, 3) := by decide +kernel
theorem dX1_init_106 : decode cX1_init 106 = .ok (.iconst 0, 1) := by decide +kernel
theorem dX1_init_107 : decode cX1_init 107 = .ok (.istore_n 1, 1) := by decide +kernel
theorem dX1_init_108 : decode cX1_init 108 = .ok (.iload_n 1, 1) := by decide +kernel
theorem dX1_init_109 : decode cX1_init 109 = .ok (.aload_n 0, 1) := by decide +kernel
theorem dX1_init_110 : decode cX1_init 110 = .ok (.getfield 32, 3) := by decide +kernel
theorem dX1_init_113 : decode cX1_init 113 = .ok (.arraylength, 1) := by decide +kernel
theorem dX1_init_114 : decode cX1_init 114 = .ok (.if_icmp .ge 16, 3) := by decide +kernel
theorem dX1_init_117 : decode cX1_init 117 = .ok (.aload_n 0, 1) := by decide +kernel
theorem dX1_init_118 : decode cX1_init 118 = .ok (.getfield 32, 3) := by decide +kernel
theorem dX1_init_121 : decode cX1_init 121 = .ok (.iload_n 1, 1) := by decide +kernel
theorem dX1_init_122 : decode cX1_init 122 = .ok (.iconst 1, 1) := by decide +kernel
theorem dX1_init_123 : decode cX1_init 123 = .ok (.iastore, 1) := by decide +kernel
theorem dX1_init_124 : decode cX1_init 124 = .ok (.iinc 1 1, 3) := by decide +kernel
theorem dX1_init_127 : decode cX1_init 127 = .ok (.goto (-19), 3) := by decide +kernel
theorem dX1_init_130 : decode cX1_init 130 = .ok (.aload_n 0, 1) := by decide +kernel
theorem dX1_init_131 : decode cX1_init 131 = .ok (.sipush 200, 3) := by decide +kernel
theorem dX1_init_134 : decode cX1_init 134 = .ok (.putfield 39, 3) := by decide +kernel
theorem dX1_init_137 : decode cX1_init 137 = .ok (.aload_n 0, 1) := by decide +kernel
theorem dX1_init_138 : decode cX1_init 138 = .ok (.bipush 20, 2) := by decide +kernel
theorem dX1_init_140 : decode cX1_init 140 = .ok (.putfield 43, 3) := by decide +kernel
theorem dX1_init_143 : decode cX1_init 143 = .ok (.aload_n 0, 1) := by decide +kernel
theorem dX1_init_144 : decode cX1_init 144 = .ok (.bipush 30, 2) := by decide +kernel
theorem dX1_init_146 : decode cX1_init 146 = .ok (.putfield 46, 3) := by decide +kernel
theorem dX1_init_149 : decode cX1_init 149 = .ok (.aload_n 0, 1) := by decide +kernel
theorem dX1_init_150 : decode cX1_init 150 = .ok (.iconst (-1), 1) := by decide +kernel
theorem dX1_init_151 : decode cX1_init 151 = .ok (.putfield 49, 3) := by decide +kernel
theorem dX1_init_154 : decode cX1_init 154 = .ok (.return_, 1) := by decide +kernel
theorem dX1_copyFrom_0 : decode cX1_copyFrom 0 = .ok (.aload_n 0, 1) := by decide +kernel
theorem dX1_copyFrom_1 : decode cX1_copyFrom 1 = .ok (.getfield 14, 3) := by decide +kernel
theorem dX1_copyFrom_4 : decode cX1_copyFrom 4 = .ok (.aload_n 1, 1) := by decide +kernel
theorem dX1_copyFrom_5 : decode cX1_copyFrom 5 = .ok (.getfield 14, 3) := by decide +kernel
theorem dX1_copyFrom_8 : decode cX1_copyFrom 8 = .ok (.invokevirtual 52, 3) := by decide +kernel
theorem dX1_copyFrom_11 : decode cX1_copyFrom 11 = .ok (.aload_n 0, 1) := by decide +kernel
theorem dX1_copyFrom_12 : decode cX1_copyFrom 12 = .ok (.getfield 20, 3) := by decide +kernel
theorem dX1_copyFrom_15 : decode cX1_copyFrom 15 = .ok (.aload_n 1, 1) := by decide +kernel
theorem dX1_copyFrom_16 : decode cX1_copyFrom 16 = .ok (.getfield 20, 3) := by decide +kernel
theorem dX1_copyFrom_19 : decode cX1_copyFrom 19 = .ok (.invokevirtual 52, 3) := by decide +kernel
theorem dX1_copyFrom_22 : decode cX1_copyFrom 22 = .ok (.aload_n 0, 1) := by decide +kernel
theorem dX1_copyFrom_23 : decode cX1_copyFrom 23 = .ok (.getfield 23, 3) := by decide +kernel
theorem dX1_copyFrom_26 : decode cX1_copyFrom 26 = .ok (.aload_n 1, 1) := by decide +kernel
theorem dX1_copyFrom_27 : decode cX1_copyFrom 27 = .ok (.getfield 23, 3) := by decide +kernel
theorem dX1_copyFrom_30 : decode cX1_copyFrom 30 = .ok (.invokevirtual 52, 3) := by decide +kernel
theorem dX1_copyFrom_33 : decode cX1_copyFrom 33 = .ok (.aload_n 0, 1) := by decide +kernel
theorem dX1_copyFrom_34 : decode cX1_copyFrom 34 = .ok (.getfield 26, 3) := by decide +kernel
theorem dX1_copyFrom_37 : decode cX1_copyFrom 37 = .ok (.aload_n 1, 1) := by decide +kernel
theorem dX1_copyFrom_38 : decode cX1_copyFrom 38 = .ok (.getfield 26, 3) := by decide +kernel
theorem dX1_copyFrom_41 : decode cX1_copyFrom 41 = .ok (.invokevirtual 52, 3) := by decide +kernel
theorem dX1_copyFrom_44 : decode cX1_copyFrom 44 = .ok (.aload_n 0, 1) := by decide +kernel
theorem dX1_copyFrom_45 : decode cX1_copyFrom 45 = .ok (.getfield 29, 3) := by decide +kernel
theorem dX1_copyFrom_48 : decode cX1_copyFrom 48 = .ok (.aload_n 1, 1) := by decide +kernel
theorem dX1_copyFrom_49 : decode cX1_copyFrom 49 = .ok (.getfield 29, 3) := by decide +kernel
theorem dX1_copyFrom_52 : decode cX1_copyFrom 52 = .ok (.invokevirtual 52, 3) := by decide +kernel
theorem dX1_copyFrom_55 : decode cX1_copyFrom 55 = .ok (.aload_n 1, 1) := by decide +kernel
theorem dX1_copyFrom_56 : decode cX1_copyFrom 56 = .ok (.getfield 32, 3) := by decide +kernel
theorem dX1_copyFrom_59 : decode cX1_copyFrom 59 = .ok (.iconst 0, 1) := by decide +kernel
theorem dX1_copyFrom_60 : decode cX1_copyFrom 60 = .ok (.aload_n 0, 1) := by decide +kernel
theorem dX1_copyFrom_61 : decode cX1_copyFrom 61 = .ok (.getfield 32, 3) := by decide +kernel
theorem dX1_copyFrom_64 : decode cX1_copyFrom 64 = .ok (.iconst 0, 1) := by decide +kernel
theorem dX1_copyFrom_65 : decode cX1_copyFrom 65 = .ok (.bipush 7, 2) := by decide +kernel
theorem dX1_copyFrom_67 : decode cX1_copyFrom 67 = .ok (.invokestatic 56, 3) := by decide +kernel
theorem dX1_copyFrom_70 : decode cX1_copyFrom 70 = .ok (.aload_n 1, 1) := by decide +kernel
theorem dX1_copyFrom_71 : decode cX1_copyFrom 71 = .ok (.getfield 36, 3) := by decide +kernel
theorem dX1_copyFrom_74 : decode cX1_copyFrom 74 = .ok (.iconst 0, 1) := by decide +kernel
theorem dX1_copyFrom_75 : decode cX1_copyFrom 75 = .ok (.aload_n 0, 1) := by decide +kernel
theorem dX1_copyFrom_76 : decode cX1_copyFrom 76 = .ok (.getfield 36, 3) := by decide +kernel
theorem dX1_copyFrom_79 : decode cX1_copyFrom 79 = .ok (.iconst 0, 1) := by decide +kernel
theorem dX1_copyFrom_80 : decode cX1_copyFrom 80 = .ok (.bipush 25, 2) := by decide +kernel
theorem dX1_copyFrom_82 : decode cX1_copyFrom 82 = .ok (.invokestatic 56, 3) := by decide +kernel
theorem dX1_copyFrom_85 : decode cX1_copyFrom 85 = .ok (.aload_n 0, 1) := by decide +kernel
theorem dX1_copyFrom_86 : decode cX1_copyFrom 86 = .ok (.aload_n 1, 1) := by decide +kernel
theorem dX1_copyFrom_87 : decode cX1_copyFrom 87 = .ok (.getfield 62, 3) := by decide +kernel
theorem dX1_copyFrom_90 : decode cX1_copyFrom 90 = .ok (.putfield 62, 3) := by decide +kernel
theorem dX1_copyFrom_93 : decode cX1_copyFrom 93 = .ok (.aload_n 0, 1) := by decide +kernel
theorem dX1_copyFrom_94 : decode cX1_copyFrom 94 = .ok (.aload_n 1, 1) := by decide +kernel
theorem dX1_copyFrom_95 : decode cX1_copyFrom 95 = .ok (.getfield 39, 3) := by decide +kernel
theorem dX1_copyFrom_98 : decode cX1_copyFrom 98 = .ok (.putfield 39, 3) := by decide +kernel
theorem dX1_copyFrom_101 : decode cX1_copyFrom 101 = .ok (.aload_n 0, 1) := by decide +kernel
theorem dX1_copyFrom_102 : decode cX1_copyFrom 102 = .ok (.aload_n 1, 1) := by decide +kernel
theorem dX1_copyFrom_103 : decode cX1_copyFrom 103 = .ok (.getfield 43, 3) := by decide +kernel
theorem dX1_copyFrom_106 : decode cX1_copyFrom 106 = .ok (.putfield 43, 3) := by decide +kernel
theorem dX1_copyFrom_109 : decode cX1_copyFrom 109 = .ok (.aload_n 0, 1) := by decide +kernel
theorem dX1_copyFrom_110 : decode cX1_copyFrom 110 = .ok (.aload_n 1, 1) := by decide +kernel
theorem dX1_copyFrom_111 : decode cX1_copyFrom 111 = .ok (.getfield 46, 3) := by decide +kernel
theorem dX1_copyFrom_114 : decode cX1_copyFrom 114 = .ok (.putfield 46, 3) := by decide +kernel
theorem dX1_copyFrom_117 : decode cX1_copyFrom 117 = .ok (.aload_n 0, 1) := by decide +kernel
theorem dX1_copyFrom_118 : decode cX1_copyFrom 118 = .ok (.aload_n 1, 1) := by decide +kernel
theorem dX1_copyFrom_119 : decode cX1_copyFrom 119 = .ok (.getfield 65, 3) := by decide +kernel
theorem dX1_copyFrom_122 : decode cX1_copyFrom 122 = .ok (.putfield 65, 3) := by decide +kernel
theorem dX1_copyFrom_125 : decode cX1_copyFrom 125 = .ok (.aload_n 0, 1) := by decide +kernel
theorem dX1_copyFrom_126 : decode cX1_copyFrom 126 = .ok (.aload_n 1, 1) := by decide +kernel
theorem dX1_copyFrom_127 : decode cX1_copyFrom 127 = .ok (.getfield 68, 3) := by decide +kernel
theorem dX1_copyFrom_130 : decode cX1_copyFrom 130 = .ok (.putfield 68, 3) := by decide +kernel
theorem dX1_copyFrom_133 : decode cX1_copyFrom 133 = .ok (.aload_n 0, 1) := by decide +kernel
theorem dX1_copyFrom_134 : decode cX1_copyFrom 134 = .ok (.aload_n 1, 1) := by decide +kernel
theorem dX1_copyFrom_135 : decode cX1_copyFrom 135 = .ok (.getfield 71, 3) := by decide +kernel
theorem dX1_copyFrom_138 : decode cX1_copyFrom 138 = .ok (.putfield 71, 3) := by decide +kernel
theorem dX1_copyFrom_141 : decode cX1_copyFrom 141 = .ok (.aload_n 0, 1) := by decide +kernel
theorem dX1_copyFrom_142 : decode cX1_copyFrom 142 = .ok (.aload_n 1, 1) := by decide +kernel
theorem dX1_copyFrom_143 : decode cX1_copyFrom 143 = .ok (.getfield 74, 3) := by decide +kernel
theorem dX1_copyFrom_146 : decode cX1_copyFrom 146 = .ok (.putfield 74, 3) := by decide +kernel
theorem dX1_copyFrom_149 : decode cX1_copyFrom 149 = .ok (.aload_n 0, 1) := by decide +kernel
theorem dX1_copyFrom_150 : decode cX1_copyFrom 150 = .ok (.iconst (-1), 1) := by decide +kernel
theorem dX1_copyFrom_151 : decode cX1_copyFrom 151 = .ok (.putfield 49, 3) := by decide +kernel
theorem dX1_copyFrom_154 : decode cX1_copyFrom 154 = .ok (.aload_n 0, 1) := by decide +kernel
theorem dX1_copyFrom_155 : decode cX1_copyFrom 155 = .ok (.iconst 0, 1) := by decide +kernel
theorem dX1_copyFrom_156 : decode cX1_copyFrom 156 = .ok (.putfield 77, 3) := by decide +kernel
theorem dX1_copyFrom_159 : decode cX1_copyFrom 159 = .ok (.return_, 1) := by decide +kernel
theorem dX1_addMould_0 : decode cX1_addMould 0 = .ok (.aload_n 0, 1) := by decide +kernel
theorem dX1_addMould_1 : decode cX1_addMould 1 = .ok (.getfield 14, 3) := by decide +kernel
theorem dX1_addMould_4 : decode cX1_addMould 4 = .ok (.invokevirtual 81, 3) := by decide +kernel
theorem dX1_addMould_7 : decode cX1_addMould 7 = .ok (.istore_n 3, 1) := by decide +kernel
theorem dX1_addMould_8 : decode cX1_addMould 8 = .ok (.aload_n 0, 1) := by decide +kernel
theorem dX1_addMould_9 : decode cX1_addMould 9 = .ok (.getfield 14, 3) := by decide +kernel
theorem dX1_addMould_12 : decode cX1_addMould 12 = .ok (.iload_n 3, 1) := by decide +kernel
theorem dX1_addMould_13 : decode cX1_addMould 13 = .ok (.iconst 0, 1) := by decide +kernel
theorem dX1_addMould_14 : decode cX1_addMould 14 = .ok (.iload_n 1, 1) := by decide +kernel
theorem dX1_addMould_15 : decode cX1_addMould 15 = .ok (.invokevirtual 85, 3) := by decide +kernel
theorem dX1_addMould_18 : decode cX1_addMould 18 = .ok (.aload_n 0, 1) := by decide +kernel
theorem dX1_addMould_19 : decode cX1_addMould 19 = .ok (.getfield 14, 3) := by decide +kernel
theorem dX1_addMould_22 : decode cX1_addMould 22 = .ok (.iload_n 3, 1) := by decide +kernel
theorem dX1_addMould_23 : decode cX1_addMould 23 = .ok (.iconst 1, 1) := by decide +kernel
theorem dX1_addMould_24 : decode cX1_addMould 24 = .ok (.iload_n 2, 1) := by decide +kernel
theorem dX1_addMould_25 : decode cX1_addMould 25 = .ok (.invokevirtual 85, 3) := by decide +kernel
theorem dX1_addMould_28 : decode cX1_addMould 28 = .ok (.aload_n 0, 1) := by decide +kernel
theorem dX1_addMould_29 : decode cX1_addMould 29 = .ok (.getfield 14, 3) := by decide +kernel
theorem dX1_addMould_32 : decode cX1_addMould 32 = .ok (.iload_n 3, 1) := by decide +kernel
theorem dX1_addMould_33 : decode cX1_addMould 33 = .ok (.iconst 2, 1) := by decide +kernel
theorem dX1_addMould_34 : decode cX1_addMould 34 = .ok (.iconst 0, 1) := by decide +kernel
theorem dX1_addMould_35 : decode cX1_addMould 35 = .ok (.invokevirtual 85, 3) := by decide +kernel
theorem dX1_addMould_38 : decode cX1_addMould 38 = .ok (.iload_n 3, 1) := by decide +kernel
theorem dX1_addMould_39 : decode cX1_addMould 39 = .ok (.ireturn, 1) := by decide +kernel
theorem dX1_addMaker_0 : decode cX1_addMaker 0 = .ok (.aload_n 0, 1) := by decide +kernel
theorem dX1_addMaker_1 : decode cX1_addMaker 1 = .ok (.getfield 20, 3) := by decide +kernel
theorem dX1_addMaker_4 : decode cX1_addMaker 4 = .ok (.invokevirtual 81, 3) := by decide +kernel
theorem dX1_addMaker_7 : decode cX1_addMaker 7 = .ok (.istore_n 2, 1) := by decide +kernel
theorem dX1_addMaker_8 : decode cX1_addMaker 8 = .ok (.aload_n 0, 1) := by decide +kernel
theorem dX1_addMaker_9 : decode cX1_addMaker 9 = .ok (.getfield 20, 3) := by decide +kernel
theorem dX1_addMaker_12 : decode cX1_addMaker 12 = .ok (.iload_n 2, 1) := by decide +kernel
theorem dX1_addMaker_13 : decode cX1_addMaker 13 = .ok (.iconst 0, 1) := by decide +kernel
theorem dX1_addMaker_14 : decode cX1_addMaker 14 = .ok (.iload_n 1, 1) := by decide +kernel
theorem dX1_addMaker_15 : decode cX1_addMaker 15 = .ok (.invokevirtual 85, 3) := by decide +kernel
theorem dX1_addMaker_18 : decode cX1_addMaker 18 = .ok (.aload_n 0, 1) := by decide +kernel
theorem dX1_addMaker_19 : decode cX1_addMaker 19 = .ok (.getfield 20, 3) := by decide +kernel
theorem dX1_addMaker_22 : decode cX1_addMaker 22 = .ok (.iload_n 2, 1) := by decide +kernel
theorem dX1_addMaker_23 : decode cX1_addMaker 23 = .ok (.iconst 1, 1) := by decide +kernel
theorem dX1_addMaker_24 : decode cX1_addMaker 24 = .ok (.iconst (-1), 1) := by decide +kernel
theorem dX1_addMaker_25 : decode cX1_addMaker 25 = .ok (.invokevirtual 85, 3) := by decide +kernel
theorem dX1_addMaker_28 : decode cX1_addMaker 28 = .ok (.iload_n 2, 1) := by decide +kernel
theorem dX1_addMaker_29 : decode cX1_addMaker 29 = .ok (.ireturn, 1) := by decide +kernel
theorem dX1_addOrder_0 : decode cX1_addOrder 0 = .ok (.aload_n 0, 1) := by decide +kernel
theorem dX1_addOrder_1 : decode cX1_addOrder 1 = .ok (.getfield 29, 3) := by decide +kernel
theorem dX1_addOrder_4 : decode cX1_addOrder 4 = .ok (.invokevirtual 81, 3) := by decide +kernel
theorem dX1_addOrder_7 : decode cX1_addOrder 7 = .ok (.istore 5, 2) := by decide +kernel
theorem dX1_addOrder_9 : decode cX1_addOrder 9 = .ok (.aload_n 0, 1) := by decide +kernel
theorem dX1_addOrder_10 : decode cX1_addOrder 10 = .ok (.getfield 29, 3) := by decide +kernel
theorem dX1_addOrder_13 : decode cX1_addOrder 13 = .ok (.iload 5, 2) := by decide +kernel
theorem dX1_addOrder_15 : decode cX1_addOrder 15 = .ok (.iconst 0, 1) := by decide +kernel
theorem dX1_addOrder_16 : decode cX1_addOrder 16 = .ok (.iload_n 1, 1) := by decide +kernel
theorem dX1_addOrder_17 : decode cX1_addOrder 17 = .ok (.invokevirtual 85, 3) := by decide +kernel
theorem dX1_addOrder_20 : decode cX1_addOrder 20 = .ok (.aload_n 0, 1) := by decide +kernel
theorem dX1_addOrder_21 : decode cX1_addOrder 21 = .ok (.getfield 29, 3) := by decide +kernel
theorem dX1_addOrder_24 : decode cX1_addOrder 24 = .ok (.iload 5, 2) := by decide +kernel
theorem dX1_addOrder_26 : decode cX1_addOrder 26 = .ok (.iconst 1, 1) := by decide +kernel
theorem dX1_addOrder_27 : decode cX1_addOrder 27 = .ok (.iload_n 2, 1) := by decide +kernel
theorem dX1_addOrder_28 : decode cX1_addOrder 28 = .ok (.invokevirtual 85, 3) := by decide +kernel
theorem dX1_addOrder_31 : decode cX1_addOrder 31 = .ok (.aload_n 0, 1) := by decide +kernel
theorem dX1_addOrder_32 : decode cX1_addOrder 32 = .ok (.getfield 29, 3) := by decide +kernel
theorem dX1_addOrder_35 : decode cX1_addOrder 35 = .ok (.iload 5, 2) := by decide +kernel
theorem dX1_addOrder_37 : decode cX1_addOrder 37 = .ok (.iconst 2, 1) := by decide +kernel
theorem dX1_addOrder_38 : decode cX1_addOrder 38 = .ok (.iload_n 3, 1) := by decide +kernel
theorem dX1_addOrder_39 : decode cX1_addOrder 39 = .ok (.invokevirtual 85, 3) := by decide +kernel
theorem dX1_addOrder_42 : decode cX1_addOrder 42 = .ok (.aload_n 0, 1) := by decide +kernel
theorem dX1_addOrder_43 : decode cX1_addOrder 43 = .ok (.getfield 29, 3) := by decide +kernel
theorem dX1_addOrder_46 : decode cX1_addOrder 46 = .ok (.iload 5, 2) := by decide +kernel
theorem dX1_addOrder_48 : decode cX1_addOrder 48 = .ok (.iconst 3, 1) := by decide +kernel
theorem dX1_addOrder_49 : decode cX1_addOrder 49 = .ok (.iload 4, 2) := by decide +kernel
theorem dX1_addOrder_51 : decode cX1_addOrder 51 = .ok (.invokevirtual 85, 3) := by decide +kernel
theorem dX1_addOrder_54 : decode cX1_addOrder 54 = .ok (.aload_n 0, 1) := by decide +kernel
theorem dX1_addOrder_55 : decode cX1_addOrder 55 = .ok (.getfield 29, 3) := by decide +kernel
theorem dX1_addOrder_58 : decode cX1_addOrder 58 = .ok (.invokevirtual 89, 3) := by decide +kernel
theorem dX1_addOrder_61 : decode cX1_addOrder 61 = .ok (.ireturn, 1) := by decide +kernel
theorem dX1_pay_0 : decode cX1_pay 0 = .ok (.aload_n 0, 1) := by decide +kernel
theorem dX1_pay_1 : decode cX1_pay 1 = .ok (.dup, 1) := by decide +kernel
theorem dX1_pay_2 : decode cX1_pay 2 = .ok (.getfield 46, 3) := by decide +kernel
theorem dX1_pay_5 : decode cX1_pay 5 = .ok (.iload_n 1, 1) := by decide +kernel
theorem dX1_pay_6 : decode cX1_pay 6 = .ok (.isub, 1) := by decide +kernel
theorem dX1_pay_7 : decode cX1_pay 7 = .ok (.putfield 46, 3) := by decide +kernel
theorem dX1_pay_10 : decode cX1_pay 10 = .ok (.return_, 1) := by decide +kernel
theorem dX1_addClay_0 : decode cX1_addClay 0 = .ok (.aload_n 0, 1) := by decide +kernel
theorem dX1_addClay_1 : decode cX1_addClay 1 = .ok (.dup, 1) := by decide +kernel
theorem dX1_addClay_2 : decode cX1_addClay 2 = .ok (.getfield 39, 3) := by decide +kernel
theorem dX1_addClay_5 : decode cX1_addClay 5 = .ok (.iload_n 1, 1) := by decide +kernel
theorem dX1_addClay_6 : decode cX1_addClay 6 = .ok (.iadd, 1) := by decide +kernel
theorem dX1_addClay_7 : decode cX1_addClay 7 = .ok (.putfield 39, 3) := by decide +kernel
theorem dX1_addClay_10 : decode cX1_addClay 10 = .ok (.aload_n 0, 1) := by decide +kernel
theorem dX1_addClay_11 : decode cX1_addClay 11 = .ok (.getfield 39, 3) := by decide +kernel
theorem dX1_addClay_14 : decode cX1_addClay 14 = .ok (.ireturn, 1) := by decide +kernel
theorem dX1_addCoals_0 : decode cX1_addCoals 0 = .ok (.aload_n 0, 1) := by decide +kernel
theorem dX1_addCoals_1 : decode cX1_addCoals 1 = .ok (.dup, 1) := by decide +kernel
theorem dX1_addCoals_2 : decode cX1_addCoals 2 = .ok (.getfield 43, 3) := by decide +kernel
theorem dX1_addCoals_5 : decode cX1_addCoals 5 = .ok (.iload_n 1, 1) := by decide +kernel
theorem dX1_addCoals_6 : decode cX1_addCoals 6 = .ok (.iadd, 1) := by decide +kernel
theorem dX1_addCoals_7 : decode cX1_addCoals 7 = .ok (.putfield 43, 3) := by decide +kernel
theorem dX1_addCoals_10 : decode cX1_addCoals 10 = .ok (.aload_n 0, 1) := by decide +kernel
theorem dX1_addCoals_11 : decode cX1_addCoals 11 = .ok (.getfield 43, 3) := by decide +kernel
theorem dX1_addCoals_14 : decode cX1_addCoals 14 = .ok (.ireturn, 1) := by decide +kernel
theorem dX1_driesBy_0 : decode cX1_driesBy 0 = .ok (.iload_n 1, 1) := by decide +kernel
theorem dX1_driesBy_1 : decode cX1_driesBy 1 = .ok (.ifCond .lt 21, 3) := by decide +kernel
theorem dX1_driesBy_4 : decode cX1_driesBy 4 = .ok (.iload_n 1, 1) := by decide +kernel
theorem dX1_driesBy_5 : decode cX1_driesBy 5 = .ok (.aload_n 0, 1) := by decide +kernel
theorem dX1_driesBy_6 : decode cX1_driesBy 6 = .ok (.getfield 32, 3) := by decide +kernel
theorem dX1_driesBy_9 : decode cX1_driesBy 9 = .ok (.arraylength, 1) := by decide +kernel
theorem dX1_driesBy_10 : decode cX1_driesBy 10 = .ok (.if_icmp .ge 12, 3) := by decide +kernel
theorem dX1_driesBy_13 : decode cX1_driesBy 13 = .ok (.aload_n 0, 1) := by decide +kernel
theorem dX1_driesBy_14 : decode cX1_driesBy 14 = .ok (.getfield 32, 3) := by decide +kernel
theorem dX1_driesBy_17 : decode cX1_driesBy 17 = .ok (.iload_n 1, 1) := by decide +kernel
theorem dX1_driesBy_18 : decode cX1_driesBy 18 = .ok (.iaload, 1) := by decide +kernel
theorem dX1_driesBy_19 : decode cX1_driesBy 19 = .ok (.goto 4, 3) := by decide +kernel
theorem dX1_driesBy_22 : decode cX1_driesBy 22 = .ok (.iconst 0, 1) := by decide +kernel
theorem dX1_driesBy_23 : decode cX1_driesBy 23 = .ok (.ireturn, 1) := by decide +kernel
theorem dX1_setDrying_0 : decode cX1_setDrying 0 = .ok (.iload_n 1, 1) := by decide +kernel
theorem dX1_setDrying_1 : decode cX1_setDrying 1 = .ok (.ifCond .lt 19, 3) := by decide +kernel
theorem dX1_setDrying_4 : decode cX1_setDrying 4 = .ok (.iload_n 1, 1) := by decide +kernel
theorem dX1_setDrying_5 : decode cX1_setDrying 5 = .ok (.aload_n 0, 1) := by decide +kernel
theorem dX1_setDrying_6 : decode cX1_setDrying 6 = .ok (.getfield 32, 3) := by decide +kernel
theorem dX1_setDrying_9 : decode cX1_setDrying 9 = .ok (.arraylength, 1) := by decide +kernel
theorem dX1_setDrying_10 : decode cX1_setDrying 10 = .ok (.if_icmp .ge 10, 3) := by decide +kernel
theorem dX1_setDrying_13 : decode cX1_setDrying 13 = .ok (.aload_n 0, 1) := by decide +kernel
theorem dX1_setDrying_14 : decode cX1_setDrying 14 = .ok (.getfield 32, 3) := by decide +kernel
theorem dX1_setDrying_17 : decode cX1_setDrying 17 = .ok (.iload_n 1, 1) := by decide +kernel
theorem dX1_setDrying_18 : decode cX1_setDrying 18 = .ok (.iload_n 2, 1) := by decide +kernel
theorem dX1_setDrying_19 : decode cX1_setDrying 19 = .ok (.iastore, 1) := by decide +kernel
theorem dX1_setDrying_20 : decode cX1_setDrying 20 = .ok (.return_, 1) := by decide +kernel
theorem dX1_wholeOf_0 : decode cX1_wholeOf 0 = .ok (.iload_n 1, 1) := by decide +kernel
theorem dX1_wholeOf_1 : decode cX1_wholeOf 1 = .ok (.ifCond .lt 21, 3) := by decide +kernel
theorem dX1_wholeOf_4 : decode cX1_wholeOf 4 = .ok (.iload_n 1, 1) := by decide +kernel
theorem dX1_wholeOf_5 : decode cX1_wholeOf 5 = .ok (.aload_n 0, 1) := by decide +kernel
theorem dX1_wholeOf_6 : decode cX1_wholeOf 6 = .ok (.getfield 36, 3) := by decide +kernel
theorem dX1_wholeOf_9 : decode cX1_wholeOf 9 = .ok (.arraylength, 1) := by decide +kernel
theorem dX1_wholeOf_10 : decode cX1_wholeOf 10 = .ok (.if_icmp .ge 12, 3) := by decide +kernel
theorem dX1_wholeOf_13 : decode cX1_wholeOf 13 = .ok (.aload_n 0, 1) := by decide +kernel
theorem dX1_wholeOf_14 : decode cX1_wholeOf 14 = .ok (.getfield 36, 3) := by decide +kernel
theorem dX1_wholeOf_17 : decode cX1_wholeOf 17 = .ok (.iload_n 1, 1) := by decide +kernel
theorem dX1_wholeOf_18 : decode cX1_wholeOf 18 = .ok (.iaload, 1) := by decide +kernel
theorem dX1_wholeOf_19 : decode cX1_wholeOf 19 = .ok (.goto 4, 3) := by decide +kernel
theorem dX1_wholeOf_22 : decode cX1_wholeOf 22 = .ok (.iconst 0, 1) := by decide +kernel
theorem dX1_wholeOf_23 : decode cX1_wholeOf 23 = .ok (.ireturn, 1) := by decide +kernel
theorem dX1_addWhole_0 : decode cX1_addWhole 0 = .ok (.iload_n 1, 1) := by decide +kernel
theorem dX1_addWhole_1 : decode cX1_addWhole 1 = .ok (.ifCond .lt 22, 3) := by decide +kernel
theorem dX1_addWhole_4 : decode cX1_addWhole 4 = .ok (.iload_n 1, 1) := by decide +kernel
theorem dX1_addWhole_5 : decode cX1_addWhole 5 = .ok (.aload_n 0, 1) := by decide +kernel
theorem dX1_addWhole_6 : decode cX1_addWhole 6 = .ok (.getfield 36, 3) := by decide +kernel
theorem dX1_addWhole_9 : decode cX1_addWhole 9 = .ok (.arraylength, 1) := by decide +kernel
theorem dX1_addWhole_10 : decode cX1_addWhole 10 = .ok (.if_icmp .ge 13, 3) := by decide +kernel
theorem dX1_addWhole_13 : decode cX1_addWhole 13 = .ok (.aload_n 0, 1) := by decide +kernel
theorem dX1_addWhole_14 : decode cX1_addWhole 14 = .ok (.getfield 36, 3) := by decide +kernel
theorem dX1_addWhole_17 : decode cX1_addWhole 17 = .ok (.iload_n 1, 1) := by decide +kernel
theorem dX1_addWhole_18 : decode cX1_addWhole 18 = .ok (.dup2, 1) := by decide +kernel
theorem dX1_addWhole_19 : decode cX1_addWhole 19 = .ok (.iaload, 1) := by decide +kernel
theorem dX1_addWhole_20 : decode cX1_addWhole 20 = .ok (.iload_n 2, 1) := by decide +kernel
theorem dX1_addWhole_21 : decode cX1_addWhole 21 = .ok (.iadd, 1) := by decide +kernel
theorem dX1_addWhole_22 : decode cX1_addWhole 22 = .ok (.iastore, 1) := by decide +kernel
theorem dX1_addWhole_23 : decode cX1_addWhole 23 = .ok (.return_, 1) := by decide +kernel
theorem dX1_wholeInAll_0 : decode cX1_wholeInAll 0 = .ok (.iconst 0, 1) := by decide +kernel
theorem dX1_wholeInAll_1 : decode cX1_wholeInAll 1 = .ok (.istore_n 1, 1) := by decide +kernel
theorem dX1_wholeInAll_2 : decode cX1_wholeInAll 2 = .ok (.iconst 4, 1) := by decide +kernel
theorem dX1_wholeInAll_3 : decode cX1_wholeInAll 3 = .ok (.istore_n 2, 1) := by decide +kernel
theorem dX1_wholeInAll_4 : decode cX1_wholeInAll 4 = .ok (.iload_n 2, 1) := by decide +kernel
theorem dX1_wholeInAll_5 : decode cX1_wholeInAll 5 = .ok (.bipush 24, 2) := by decide +kernel
theorem dX1_wholeInAll_7 : decode cX1_wholeInAll 7 = .ok (.if_icmp .gt 17, 3) := by decide +kernel
theorem dX1_wholeInAll_10 : decode cX1_wholeInAll 10 = .ok (.iload_n 1, 1) := by decide +kernel
theorem dX1_wholeInAll_11 : decode cX1_wholeInAll 11 = .ok (.aload_n 0, 1) := by decide +kernel
theorem dX1_wholeInAll_12 : decode cX1_wholeInAll 12 = .ok (.iload_n 2, 1) := by decide +kernel
theorem dX1_wholeInAll_13 : decode cX1_wholeInAll 13 = .ok (.invokevirtual 92, 3) := by decide +kernel
theorem dX1_wholeInAll_16 : decode cX1_wholeInAll 16 = .ok (.iadd, 1) := by decide +kernel
theorem dX1_wholeInAll_17 : decode cX1_wholeInAll 17 = .ok (.istore_n 1, 1) := by decide +kernel
theorem dX1_wholeInAll_18 : decode cX1_wholeInAll 18 = .ok (.iinc 2 1, 3) := by decide +kernel
theorem dX1_wholeInAll_21 : decode cX1_wholeInAll 21 = .ok (.goto (-17), 3) := by decide +kernel
theorem dX1_wholeInAll_24 : decode cX1_wholeInAll 24 = .ok (.iload_n 1, 1) := by decide +kernel
theorem dX1_wholeInAll_25 : decode cX1_wholeInAll 25 = .ok (.ireturn, 1) := by decide +kernel
theorem dX1_flawOf_0 : decode cX1_flawOf 0 = .ok (.aload_n 0, 1) := by decide +kernel
theorem dX1_flawOf_1 : decode cX1_flawOf 1 = .ok (.getfield 14, 3) := by decide +kernel
theorem dX1_flawOf_4 : decode cX1_flawOf 4 = .ok (.iload_n 1, 1) := by decide +kernel
theorem dX1_flawOf_5 : decode cX1_flawOf 5 = .ok (.iconst 2, 1) := by decide +kernel
theorem dX1_flawOf_6 : decode cX1_flawOf 6 = .ok (.invokevirtual 96, 3) := by decide +kernel
theorem dX1_flawOf_9 : decode cX1_flawOf 9 = .ok (.bipush 10, 2) := by decide +kernel
theorem dX1_flawOf_11 : decode cX1_flawOf 11 = .ok (.idiv, 1) := by decide +kernel
theorem dX1_flawOf_12 : decode cX1_flawOf 12 = .ok (.bipush 9, 2) := by decide +kernel
theorem dX1_flawOf_14 : decode cX1_flawOf 14 = .ok (.iadd, 1) := by decide +kernel
theorem dX1_flawOf_15 : decode cX1_flawOf 15 = .ok (.aload_n 0, 1) := by decide +kernel
theorem dX1_flawOf_16 : decode cX1_flawOf 16 = .ok (.getfield 14, 3) := by decide +kernel
theorem dX1_flawOf_19 : decode cX1_flawOf 19 = .ok (.iload_n 1, 1) := by decide +kernel
theorem dX1_flawOf_20 : decode cX1_flawOf 20 = .ok (.iconst 1, 1) := by decide +kernel
theorem dX1_flawOf_21 : decode cX1_flawOf 21 = .ok (.invokevirtual 96, 3) := by decide +kernel
theorem dX1_flawOf_24 : decode cX1_flawOf 24 = .ok (.isub, 1) := by decide +kernel
theorem dX1_flawOf_25 : decode cX1_flawOf 25 = .ok (.ireturn, 1) := by decide +kernel
theorem dX1_clayOf_0 : decode cX1_clayOf 0 = .ok (.aload_n 0, 1) := by decide +kernel
theorem dX1_clayOf_1 : decode cX1_clayOf 1 = .ok (.getfield 14, 3) := by decide +kernel
theorem dX1_clayOf_4 : decode cX1_clayOf 4 = .ok (.iload_n 1, 1) := by decide +kernel
theorem dX1_clayOf_5 : decode cX1_clayOf 5 = .ok (.iconst 0, 1) := by decide +kernel
theorem dX1_clayOf_6 : decode cX1_clayOf 6 = .ok (.invokevirtual 96, 3) := by decide +kernel
theorem dX1_clayOf_9 : decode cX1_clayOf 9 = .ok (.bipush 7, 2) := by decide +kernel
theorem dX1_clayOf_11 : decode cX1_clayOf 11 = .ok (.iadd, 1) := by decide +kernel
theorem dX1_clayOf_12 : decode cX1_clayOf 12 = .ok (.bipush 8, 2) := by decide +kernel
theorem dX1_clayOf_14 : decode cX1_clayOf 14 = .ok (.idiv, 1) := by decide +kernel
theorem dX1_clayOf_15 : decode cX1_clayOf 15 = .ok (.ireturn, 1) := by decide +kernel
theorem dX1_makerAt_0 : decode cX1_makerAt 0 = .ok (.iconst 0, 1) := by decide +kernel
theorem dX1_makerAt_1 : decode cX1_makerAt 1 = .ok (.istore_n 2, 1) := by decide +kernel
theorem dX1_makerAt_2 : decode cX1_makerAt 2 = .ok (.iload_n 2, 1) := by decide +kernel
theorem dX1_makerAt_3 : decode cX1_makerAt 3 = .ok (.aload_n 0, 1) := by decide +kernel
theorem dX1_makerAt_4 : decode cX1_makerAt 4 = .ok (.getfield 20, 3) := by decide +kernel
theorem dX1_makerAt_7 : decode cX1_makerAt 7 = .ok (.invokevirtual 89, 3) := by decide +kernel
theorem dX1_makerAt_10 : decode cX1_makerAt 10 = .ok (.if_icmp .ge 24, 3) := by decide +kernel
theorem dX1_makerAt_13 : decode cX1_makerAt 13 = .ok (.aload_n 0, 1) := by decide +kernel
theorem dX1_makerAt_14 : decode cX1_makerAt 14 = .ok (.getfield 20, 3) := by decide +kernel
theorem dX1_makerAt_17 : decode cX1_makerAt 17 = .ok (.iload_n 2, 1) := by decide +kernel
theorem dX1_makerAt_18 : decode cX1_makerAt 18 = .ok (.iconst 1, 1) := by decide +kernel
theorem dX1_makerAt_19 : decode cX1_makerAt 19 = .ok (.invokevirtual 96, 3) := by decide +kernel
theorem dX1_makerAt_22 : decode cX1_makerAt 22 = .ok (.iload_n 1, 1) := by decide +kernel
theorem dX1_makerAt_23 : decode cX1_makerAt 23 = .ok (.if_icmp .ne 5, 3) := by decide +kernel
theorem dX1_makerAt_26 : decode cX1_makerAt 26 = .ok (.iload_n 2, 1) := by decide +kernel
theorem dX1_makerAt_27 : decode cX1_makerAt 27 = .ok (.ireturn, 1) := by decide +kernel
theorem dX1_makerAt_28 : decode cX1_makerAt 28 = .ok (.iinc 2 1, 3) := by decide +kernel
theorem dX1_makerAt_31 : decode cX1_makerAt 31 = .ok (.goto (-29), 3) := by decide +kernel
theorem dX1_makerAt_34 : decode cX1_makerAt 34 = .ok (.iconst (-1), 1) := by decide +kernel
theorem dX1_makerAt_35 : decode cX1_makerAt 35 = .ok (.ireturn, 1) := by decide +kernel
theorem dX1_isAnotherAt_0 : decode cX1_isAnotherAt 0 = .ok (.iload_n 1, 1) := by decide +kernel
theorem dX1_isAnotherAt_1 : decode cX1_isAnotherAt 1 = .ok (.iconst (-1), 1) := by decide +kernel
theorem dX1_isAnotherAt_2 : decode cX1_isAnotherAt 2 = .ok (.if_icmp .ne 5, 3) := by decide +kernel
theorem dX1_isAnotherAt_5 : decode cX1_isAnotherAt 5 = .ok (.iconst 0, 1) := by decide +kernel
theorem dX1_isAnotherAt_6 : decode cX1_isAnotherAt 6 = .ok (.ireturn, 1) := by decide +kernel
theorem dX1_isAnotherAt_7 : decode cX1_isAnotherAt 7 = .ok (.aload_n 0, 1) := by decide +kernel
theorem dX1_isAnotherAt_8 : decode cX1_isAnotherAt 8 = .ok (.iload_n 1, 1) := by decide +kernel
theorem dX1_isAnotherAt_9 : decode cX1_isAnotherAt 9 = .ok (.invokevirtual 100, 3) := by decide +kernel
theorem dX1_isAnotherAt_12 : decode cX1_isAnotherAt 12 = .ok (.istore_n 3, 1) := by decide +kernel
theorem dX1_isAnotherAt_13 : decode cX1_isAnotherAt 13 = .ok (.iload_n 3, 1) := by decide +kernel
theorem dX1_isAnotherAt_14 : decode cX1_isAnotherAt 14 = .ok (.iconst (-1), 1) := by decide +kernel
theorem dX1_isAnotherAt_15 : decode cX1_isAnotherAt 15 = .ok (.if_icmp .eq 12, 3) := by decide +kernel
theorem dX1_isAnotherAt_18 : decode cX1_isAnotherAt 18 = .ok (.iload_n 3, 1) := by decide +kernel
theorem dX1_isAnotherAt_19 : decode cX1_isAnotherAt 19 = .ok (.iload_n 2, 1) := by decide +kernel
theorem dX1_isAnotherAt_20 : decode cX1_isAnotherAt 20 = .ok (.if_icmp .eq 7, 3) := by decide +kernel
theorem dX1_isAnotherAt_23 : decode cX1_isAnotherAt 23 = .ok (.iconst 1, 1) := by decide +kernel
theorem dX1_isAnotherAt_24 : decode cX1_isAnotherAt 24 = .ok (.goto 4, 3) := by decide +kernel
theorem dX1_isAnotherAt_27 : decode cX1_isAnotherAt 27 = .ok (.iconst 0, 1) := by decide +kernel
theorem dX1_isAnotherAt_28 : decode cX1_isAnotherAt 28 = .ok (.ireturn, 1) := by decide +kernel
theorem dX1_aboutMould_0 : decode cX1_aboutMould 0 = .ok (.iload_n 2, 1) := by decide +kernel
theorem dX1_aboutMould_1 : decode cX1_aboutMould 1 = .ok (.tableswitch 45 3 5 #[27, 33, 39], 27) := by decide +kernel
theorem dX1_aboutMould_28 : decode cX1_aboutMould 28 = .ok (.aload_n 0, 1) := by decide +kernel
theorem dX1_aboutMould_29 : decode cX1_aboutMould 29 = .ok (.iload_n 1, 1) := by decide +kernel
theorem dX1_aboutMould_30 : decode cX1_aboutMould 30 = .ok (.invokevirtual 103, 3) := by decide +kernel
theorem dX1_aboutMould_33 : decode cX1_aboutMould 33 = .ok (.ireturn, 1) := by decide +kernel
theorem dX1_aboutMould_34 : decode cX1_aboutMould 34 = .ok (.aload_n 0, 1) := by decide +kernel
theorem dX1_aboutMould_35 : decode cX1_aboutMould 35 = .ok (.iload_n 1, 1) := by decide +kernel
theorem dX1_aboutMould_36 : decode cX1_aboutMould 36 = .ok (.invokevirtual 106, 3) := by decide +kernel
theorem dX1_aboutMould_39 : decode cX1_aboutMould 39 = .ok (.ireturn, 1) := by decide +kernel
theorem dX1_aboutMould_40 : decode cX1_aboutMould 40 = .ok (.aload_n 0, 1) := by decide +kernel
theorem dX1_aboutMould_41 : decode cX1_aboutMould 41 = .ok (.iload_n 1, 1) := by decide +kernel
theorem dX1_aboutMould_42 : decode cX1_aboutMould 42 = .ok (.invokevirtual 100, 3) := by decide +kernel
theorem dX1_aboutMould_45 : decode cX1_aboutMould 45 = .ok (.ireturn, 1) := by decide +kernel
theorem dX1_aboutMould_46 : decode cX1_aboutMould 46 = .ok (.aload_n 0, 1) := by decide +kernel
theorem dX1_aboutMould_47 : decode cX1_aboutMould 47 = .ok (.getfield 14, 3) := by decide +kernel
theorem dX1_aboutMould_50 : decode cX1_aboutMould 50 = .ok (.iload_n 1, 1) := by decide +kernel
theorem dX1_aboutMould_51 : decode cX1_aboutMould 51 = .ok (.iload_n 2, 1) := by decide +kernel
theorem dX1_aboutMould_52 : decode cX1_aboutMould 52 = .ok (.invokevirtual 96, 3) := by decide +kernel
theorem dX1_aboutMould_55 : decode cX1_aboutMould 55 = .ok (.ireturn, 1) := by decide +kernel
theorem dX1_counted_0 : decode cX1_counted 0 = .ok (.iload_n 1, 1) := by decide +kernel
theorem dX1_counted_1 : decode cX1_counted 1 = .ok (.tableswitch 125 0 10 #[59, 64, 69, 74, 79, 84, 89, 98, 107, 112, 120], 59) := by decide +kernel
theorem dX1_counted_60 : decode cX1_counted 60 = .ok (.aload_n 0, 1) := by decide +kernel
theorem dX1_counted_61 : decode cX1_counted 61 = .ok (.getfield 62, 3) := by decide +kernel
theorem dX1_counted_64 : decode cX1_counted 64 = .ok (.ireturn, 1) := by decide +kernel
theorem dX1_counted_65 : decode cX1_counted 65 = .ok (.aload_n 0, 1) := by decide +kernel
theorem dX1_counted_66 : decode cX1_counted 66 = .ok (.getfield 39, 3) := by decide +kernel
theorem dX1_counted_69 : decode cX1_counted 69 = .ok (.ireturn, 1) := by decide +kernel
theorem dX1_counted_70 : decode cX1_counted 70 = .ok (.aload_n 0, 1) := by decide +kernel
theorem dX1_counted_71 : decode cX1_counted 71 = .ok (.getfield 43, 3) := by decide +kernel
theorem dX1_counted_74 : decode cX1_counted 74 = .ok (.ireturn, 1) := by decide +kernel
theorem dX1_counted_75 : decode cX1_counted 75 = .ok (.aload_n 0, 1) := by decide +kernel
theorem dX1_counted_76 : decode cX1_counted 76 = .ok (.getfield 46, 3) := by decide +kernel
theorem dX1_counted_79 : decode cX1_counted 79 = .ok (.ireturn, 1) := by decide +kernel
theorem dX1_counted_80 : decode cX1_counted 80 = .ok (.aload_n 0, 1) := by decide +kernel
theorem dX1_counted_81 : decode cX1_counted 81 = .ok (.getfield 65, 3) := by decide +kernel
theorem dX1_counted_84 : decode cX1_counted 84 = .ok (.ireturn, 1) := by decide +kernel
theorem dX1_counted_85 : decode cX1_counted 85 = .ok (.aload_n 0, 1) := by decide +kernel
theorem dX1_counted_86 : decode cX1_counted 86 = .ok (.getfield 68, 3) := by decide +kernel
theorem dX1_counted_89 : decode cX1_counted 89 = .ok (.ireturn, 1) := by decide +kernel
theorem dX1_counted_90 : decode cX1_counted 90 = .ok (.aload_n 0, 1) := by decide +kernel
theorem dX1_counted_91 : decode cX1_counted 91 = .ok (.getfield 23, 3) := by decide +kernel
theorem dX1_counted_94 : decode cX1_counted 94 = .ok (.iconst 1, 1) := by decide +kernel
theorem dX1_counted_95 : decode cX1_counted 95 = .ok (.invokevirtual 109, 3) := by decide +kernel
theorem dX1_counted_98 : decode cX1_counted 98 = .ok (.ireturn, 1) := by decide +kernel
theorem dX1_counted_99 : decode cX1_counted 99 = .ok (.aload_n 0, 1) := by decide +kernel
theorem dX1_counted_100 : decode cX1_counted 100 = .ok (.getfield 26, 3) := by decide +kernel
theorem dX1_counted_103 : decode cX1_counted 103 = .ok (.iconst 1, 1) := by decide +kernel
theorem dX1_counted_104 : decode cX1_counted 104 = .ok (.invokevirtual 109, 3) := by decide +kernel
theorem dX1_counted_107 : decode cX1_counted 107 = .ok (.ireturn, 1) := by decide +kernel
theorem dX1_counted_108 : decode cX1_counted 108 = .ok (.aload_n 0, 1) := by decide +kernel
theorem dX1_counted_109 : decode cX1_counted 109 = .ok (.invokevirtual 112, 3) := by decide +kernel
theorem dX1_counted_112 : decode cX1_counted 112 = .ok (.ireturn, 1) := by decide +kernel
theorem dX1_counted_113 : decode cX1_counted 113 = .ok (.aload_n 0, 1) := by decide +kernel
theorem dX1_counted_114 : decode cX1_counted 114 = .ok (.getfield 29, 3) := by decide +kernel
theorem dX1_counted_117 : decode cX1_counted 117 = .ok (.invokevirtual 89, 3) := by decide +kernel
theorem dX1_counted_120 : decode cX1_counted 120 = .ok (.ireturn, 1) := by decide +kernel
theorem dX1_counted_121 : decode cX1_counted 121 = .ok (.aload_n 0, 1) := by decide +kernel
theorem dX1_counted_122 : decode cX1_counted 122 = .ok (.getfield 71, 3) := by decide +kernel
theorem dX1_counted_125 : decode cX1_counted 125 = .ok (.ireturn, 1) := by decide +kernel
theorem dX1_counted_126 : decode cX1_counted 126 = .ok (.aload_n 0, 1) := by decide +kernel
theorem dX1_counted_127 : decode cX1_counted 127 = .ok (.getfield 74, 3) := by decide +kernel
theorem dX1_counted_130 : decode cX1_counted 130 = .ok (.ireturn, 1) := by decide +kernel
theorem dX1_packPipes_0 : decode cX1_packPipes 0 = .ok (.aload_n 0, 1) := by decide +kernel
theorem dX1_packPipes_1 : decode cX1_packPipes 1 = .ok (.getfield 23, 3) := by decide +kernel
theorem dX1_packPipes_4 : decode cX1_packPipes 4 = .ok (.iload_n 1, 1) := by decide +kernel
theorem dX1_packPipes_5 : decode cX1_packPipes 5 = .ok (.iconst 1, 1) := by decide +kernel
theorem dX1_packPipes_6 : decode cX1_packPipes 6 = .ok (.invokevirtual 96, 3) := by decide +kernel
theorem dX1_packPipes_9 : decode cX1_packPipes 9 = .ok (.iload_n 3, 1) := by decide +kernel
theorem dX1_packPipes_10 : decode cX1_packPipes 10 = .ok (.isub, 1) := by decide +kernel
theorem dX1_packPipes_11 : decode cX1_packPipes 11 = .ok (.istore 4, 2) := by decide +kernel
theorem dX1_packPipes_13 : decode cX1_packPipes 13 = .ok (.iconst 0, 1) := by decide +kernel
theorem dX1_packPipes_14 : decode cX1_packPipes 14 = .ok (.istore 5, 2) := by decide +kernel
theorem dX1_packPipes_16 : decode cX1_packPipes 16 = .ok (.iload 5, 2) := by decide +kernel
theorem dX1_packPipes_18 : decode cX1_packPipes 18 = .ok (.iconst 4, 1) := by decide +kernel
theorem dX1_packPipes_19 : decode cX1_packPipes 19 = .ok (.if_icmp .ge 29, 3) := by decide +kernel
theorem dX1_packPipes_22 : decode cX1_packPipes 22 = .ok (.aload_n 0, 1) := by decide +kernel
theorem dX1_packPipes_23 : decode cX1_packPipes 23 = .ok (.getfield 26, 3) := by decide +kernel
theorem dX1_packPipes_26 : decode cX1_packPipes 26 = .ok (.iload_n 2, 1) := by decide +kernel
theorem dX1_packPipes_27 : decode cX1_packPipes 27 = .ok (.iload 5, 2) := by decide +kernel
theorem dX1_packPipes_29 : decode cX1_packPipes 29 = .ok (.aload_n 0, 1) := by decide +kernel
theorem dX1_packPipes_30 : decode cX1_packPipes 30 = .ok (.getfield 23, 3) := by decide +kernel
theorem dX1_packPipes_33 : decode cX1_packPipes 33 = .ok (.iload_n 1, 1) := by decide +kernel
theorem dX1_packPipes_34 : decode cX1_packPipes 34 = .ok (.iload 5, 2) := by decide +kernel
theorem dX1_packPipes_36 : decode cX1_packPipes 36 = .ok (.invokevirtual 96, 3) := by decide +kernel
theorem dX1_packPipes_39 : decode cX1_packPipes 39 = .ok (.invokevirtual 85, 3) := by decide +kernel
theorem dX1_packPipes_42 : decode cX1_packPipes 42 = .ok (.iinc 5 1, 3) := by decide +kernel
theorem dX1_packPipes_45 : decode cX1_packPipes 45 = .ok (.goto (-29), 3) := by decide +kernel
theorem dX1_packPipes_48 : decode cX1_packPipes 48 = .ok (.aload_n 0, 1) := by decide +kernel
theorem dX1_packPipes_49 : decode cX1_packPipes 49 = .ok (.getfield 26, 3) := by decide +kernel
theorem dX1_packPipes_52 : decode cX1_packPipes 52 = .ok (.iload_n 2, 1) := by decide +kernel
theorem dX1_packPipes_53 : decode cX1_packPipes 53 = .ok (.iconst 1, 1) := by decide +kernel
theorem dX1_packPipes_54 : decode cX1_packPipes 54 = .ok (.iload_n 3, 1) := by decide +kernel
theorem dX1_packPipes_55 : decode cX1_packPipes 55 = .ok (.invokevirtual 85, 3) := by decide +kernel
theorem dX1_packPipes_58 : decode cX1_packPipes 58 = .ok (.aload_n 0, 1) := by decide +kernel
theorem dX1_packPipes_59 : decode cX1_packPipes 59 = .ok (.getfield 23, 3) := by decide +kernel
theorem dX1_packPipes_62 : decode cX1_packPipes 62 = .ok (.iload_n 1, 1) := by decide +kernel
theorem dX1_packPipes_63 : decode cX1_packPipes 63 = .ok (.iconst 1, 1) := by decide +kernel
theorem dX1_packPipes_64 : decode cX1_packPipes 64 = .ok (.iload 4, 2) := by decide +kernel
theorem dX1_packPipes_66 : decode cX1_packPipes 66 = .ok (.invokevirtual 85, 3) := by decide +kernel
theorem dX1_packPipes_69 : decode cX1_packPipes 69 = .ok (.iload 4, 2) := by decide +kernel
theorem dX1_packPipes_71 : decode cX1_packPipes 71 = .ok (.ifCond .ne 11, 3) := by decide +kernel
theorem dX1_packPipes_74 : decode cX1_packPipes 74 = .ok (.aload_n 0, 1) := by decide +kernel
theorem dX1_packPipes_75 : decode cX1_packPipes 75 = .ok (.getfield 23, 3) := by decide +kernel
theorem dX1_packPipes_78 : decode cX1_packPipes 78 = .ok (.iload_n 1, 1) := by decide +kernel
theorem dX1_packPipes_79 : decode cX1_packPipes 79 = .ok (.invokevirtual 115, 3) := by decide +kernel
theorem dX1_packPipes_82 : decode cX1_packPipes 82 = .ok (.iload 4, 2) := by decide +kernel
theorem dX1_packPipes_84 : decode cX1_packPipes 84 = .ok (.ireturn, 1) := by decide +kernel
theorem dX1_areSaggarsEmpty_0 : decode cX1_areSaggarsEmpty 0 = .ok (.aload_n 0, 1) := by decide +kernel
theorem dX1_areSaggarsEmpty_1 : decode cX1_areSaggarsEmpty 1 = .ok (.getfield 26, 3) := by decide +kernel
theorem dX1_areSaggarsEmpty_4 : decode cX1_areSaggarsEmpty 4 = .ok (.iconst 1, 1) := by decide +kernel
theorem dX1_areSaggarsEmpty_5 : decode cX1_areSaggarsEmpty 5 = .ok (.invokevirtual 109, 3) := by decide +kernel
theorem dX1_areSaggarsEmpty_8 : decode cX1_areSaggarsEmpty 8 = .ok (.ifCond .ne 7, 3) := by decide +kernel
theorem dX1_areSaggarsEmpty_11 : decode cX1_areSaggarsEmpty 11 = .ok (.iconst 1, 1) := by decide +kernel
theorem dX1_areSaggarsEmpty_12 : decode cX1_areSaggarsEmpty 12 = .ok (.goto 4, 3) := by decide +kernel
theorem dX1_areSaggarsEmpty_15 : decode cX1_areSaggarsEmpty 15 = .ok (.iconst 0, 1) := by decide +kernel
theorem dX1_areSaggarsEmpty_16 : decode cX1_areSaggarsEmpty 16 = .ok (.ireturn, 1) := by decide +kernel
theorem dX1_stemsThatBreak_0 : decode cX1_stemsThatBreak 0 = .ok (.aload_n 0, 1) := by decide +kernel
theorem dX1_stemsThatBreak_1 : decode cX1_stemsThatBreak 1 = .ok (.getfield 26, 3) := by decide +kernel
theorem dX1_stemsThatBreak_4 : decode cX1_stemsThatBreak 4 = .ok (.iload_n 1, 1) := by decide +kernel
theorem dX1_stemsThatBreak_5 : decode cX1_stemsThatBreak 5 = .ok (.iconst 0, 1) := by decide +kernel
theorem dX1_stemsThatBreak_6 : decode cX1_stemsThatBreak 6 = .ok (.invokevirtual 96, 3) := by decide +kernel
theorem dX1_stemsThatBreak_9 : decode cX1_stemsThatBreak 9 = .ok (.istore_n 3, 1) := by decide +kernel
theorem dX1_stemsThatBreak_10 : decode cX1_stemsThatBreak 10 = .ok (.iconst 4, 1) := by decide +kernel
theorem dX1_stemsThatBreak_11 : decode cX1_stemsThatBreak 11 = .ok (.iload_n 2, 1) := by decide +kernel
theorem dX1_stemsThatBreak_12 : decode cX1_stemsThatBreak 12 = .ok (.imul, 1) := by decide +kernel
theorem dX1_stemsThatBreak_13 : decode cX1_stemsThatBreak 13 = .ok (.bipush 20, 2) := by decide +kernel
theorem dX1_stemsThatBreak_15 : decode cX1_stemsThatBreak 15 = .ok (.iconst 2, 1) := by decide +kernel
theorem dX1_stemsThatBreak_16 : decode cX1_stemsThatBreak 16 = .ok (.iload_n 3, 1) := by decide +kernel
theorem dX1_stemsThatBreak_17 : decode cX1_stemsThatBreak 17 = .ok (.imul, 1) := by decide +kernel
theorem dX1_stemsThatBreak_18 : decode cX1_stemsThatBreak 18 = .ok (.iadd, 1) := by decide +kernel
theorem dX1_stemsThatBreak_19 : decode cX1_stemsThatBreak 19 = .ok (.isub, 1) := by decide +kernel
theorem dX1_stemsThatBreak_20 : decode cX1_stemsThatBreak 20 = .ok (.invokestatic 119, 3) := by decide +kernel
theorem dX1_stemsThatBreak_23 : decode cX1_stemsThatBreak 23 = .ok (.iconst 2, 1) := by decide +kernel
theorem dX1_stemsThatBreak_24 : decode cX1_stemsThatBreak 24 = .ok (.idiv, 1) := by decide +kernel
theorem dX1_stemsThatBreak_25 : decode cX1_stemsThatBreak 25 = .ok (.istore 4, 2) := by decide +kernel
theorem dX1_stemsThatBreak_27 : decode cX1_stemsThatBreak 27 = .ok (.iload_n 1, 1) := by decide +kernel
theorem dX1_stemsThatBreak_28 : decode cX1_stemsThatBreak 28 = .ok (.ifCond .eq 8, 3) := by decide +kernel
theorem dX1_stemsThatBreak_31 : decode cX1_stemsThatBreak 31 = .ok (.iload_n 1, 1) := by decide +kernel
theorem dX1_stemsThatBreak_32 : decode cX1_stemsThatBreak 32 = .ok (.iconst 5, 1) := by decide +kernel
theorem dX1_stemsThatBreak_33 : decode cX1_stemsThatBreak 33 = .ok (.if_icmp .ne 7, 3) := by decide +kernel
theorem dX1_stemsThatBreak_36 : decode cX1_stemsThatBreak 36 = .ok (.iconst 5, 1) := by decide +kernel
theorem dX1_stemsThatBreak_37 : decode cX1_stemsThatBreak 37 = .ok (.goto 4, 3) := by decide +kernel
theorem dX1_stemsThatBreak_40 : decode cX1_stemsThatBreak 40 = .ok (.iconst 0, 1) := by decide +kernel
theorem dX1_stemsThatBreak_41 : decode cX1_stemsThatBreak 41 = .ok (.istore 5, 2) := by decide +kernel
theorem dX1_stemsThatBreak_43 : decode cX1_stemsThatBreak 43 = .ok (.bipush 8, 2) := by decide +kernel
theorem dX1_stemsThatBreak_45 : decode cX1_stemsThatBreak 45 = .ok (.aload_n 0, 1) := by decide +kernel
theorem dX1_stemsThatBreak_46 : decode cX1_stemsThatBreak 46 = .ok (.getfield 26, 3) := by decide +kernel
theorem dX1_stemsThatBreak_49 : decode cX1_stemsThatBreak 49 = .ok (.iload_n 1, 1) := by decide +kernel
theorem dX1_stemsThatBreak_50 : decode cX1_stemsThatBreak 50 = .ok (.iconst 2, 1) := by decide +kernel
theorem dX1_stemsThatBreak_51 : decode cX1_stemsThatBreak 51 = .ok (.invokevirtual 96, 3) := by decide +kernel
theorem dX1_stemsThatBreak_54 : decode cX1_stemsThatBreak 54 = .ok (.imul, 1) := by decide +kernel
theorem dX1_stemsThatBreak_55 : decode cX1_stemsThatBreak 55 = .ok (.iconst 2, 1) := by decide +kernel
theorem dX1_stemsThatBreak_56 : decode cX1_stemsThatBreak 56 = .ok (.aload_n 0, 1) := by decide +kernel
theorem dX1_stemsThatBreak_57 : decode cX1_stemsThatBreak 57 = .ok (.getfield 26, 3) := by decide +kernel
theorem dX1_stemsThatBreak_60 : decode cX1_stemsThatBreak 60 = .ok (.iload_n 1, 1) := by decide +kernel
theorem dX1_stemsThatBreak_61 : decode cX1_stemsThatBreak 61 = .ok (.iconst 3, 1) := by decide +kernel
theorem dX1_stemsThatBreak_62 : decode cX1_stemsThatBreak 62 = .ok (.invokevirtual 96, 3) := by decide +kernel
theorem dX1_stemsThatBreak_65 : decode cX1_stemsThatBreak 65 = .ok (.imul, 1) := by decide +kernel
theorem dX1_stemsThatBreak_66 : decode cX1_stemsThatBreak 66 = .ok (.iadd, 1) := by decide +kernel
theorem dX1_stemsThatBreak_67 : decode cX1_stemsThatBreak 67 = .ok (.iload 4, 2) := by decide +kernel
theorem dX1_stemsThatBreak_69 : decode cX1_stemsThatBreak 69 = .ok (.iadd, 1) := by decide +kernel
theorem dX1_stemsThatBreak_70 : decode cX1_stemsThatBreak 70 = .ok (.iload 5, 2) := by decide +kernel
theorem dX1_stemsThatBreak_72 : decode cX1_stemsThatBreak 72 = .ok (.iadd, 1) := by decide +kernel
theorem dX1_stemsThatBreak_73 : decode cX1_stemsThatBreak 73 = .ok (.istore 6, 2) := by decide +kernel
theorem dX1_stemsThatBreak_75 : decode cX1_stemsThatBreak 75 = .ok (.iload 6, 2) := by decide +kernel
theorem dX1_stemsThatBreak_77 : decode cX1_stemsThatBreak 77 = .ok (.bipush 100, 2) := by decide +kernel
theorem dX1_stemsThatBreak_79 : decode cX1_stemsThatBreak 79 = .ok (.invokestatic 124, 3) := by decide +kernel
theorem dX1_stemsThatBreak_82 : decode cX1_stemsThatBreak 82 = .ok (.aload_n 0, 1) := by decide +kernel
theorem dX1_stemsThatBreak_83 : decode cX1_stemsThatBreak 83 = .ok (.getfield 26, 3) := by decide +kernel
theorem dX1_stemsThatBreak_86 : decode cX1_stemsThatBreak 86 = .ok (.iload_n 1, 1) := by decide +kernel
theorem dX1_stemsThatBreak_87 : decode cX1_stemsThatBreak 87 = .ok (.iconst 1, 1) := by decide +kernel
theorem dX1_stemsThatBreak_88 : decode cX1_stemsThatBreak 88 = .ok (.invokevirtual 96, 3) := by decide +kernel
theorem dX1_stemsThatBreak_91 : decode cX1_stemsThatBreak 91 = .ok (.imul, 1) := by decide +kernel
theorem dX1_stemsThatBreak_92 : decode cX1_stemsThatBreak 92 = .ok (.bipush 99, 2) := by decide +kernel
theorem dX1_stemsThatBreak_94 : decode cX1_stemsThatBreak 94 = .ok (.iadd, 1) := by decide +kernel
theorem dX1_stemsThatBreak_95 : decode cX1_stemsThatBreak 95 = .ok (.bipush 100, 2) := by decide +kernel
theorem dX1_stemsThatBreak_97 : decode cX1_stemsThatBreak 97 = .ok (.idiv, 1) := by decide +kernel
theorem dX1_stemsThatBreak_98 : decode cX1_stemsThatBreak 98 = .ok (.ireturn, 1) := by decide +kernel
theorem dX1_stemsThatBreakInAll_0 : decode cX1_stemsThatBreakInAll 0 = .ok (.iconst 0, 1) := by decide +kernel
theorem dX1_stemsThatBreakInAll_1 : decode cX1_stemsThatBreakInAll 1 = .ok (.istore_n 2, 1) := by decide +kernel
theorem dX1_stemsThatBreakInAll_2 : decode cX1_stemsThatBreakInAll 2 = .ok (.iconst 0, 1) := by decide +kernel
theorem dX1_stemsThatBreakInAll_3 : decode cX1_stemsThatBreakInAll 3 = .ok (.istore_n 3, 1) := by decide +kernel
theorem dX1_stemsThatBreakInAll_4 : decode cX1_stemsThatBreakInAll 4 = .ok (.iload_n 3, 1) := by decide +kernel
theorem dX1_stemsThatBreakInAll_5 : decode cX1_stemsThatBreakInAll 5 = .ok (.bipush 6, 2) := by decide +kernel
theorem dX1_stemsThatBreakInAll_7 : decode cX1_stemsThatBreakInAll 7 = .ok (.if_icmp .ge 18, 3) := by decide +kernel
theorem dX1_stemsThatBreakInAll_10 : decode cX1_stemsThatBreakInAll 10 = .ok (.iload_n 2, 1) := by decide +kernel
theorem dX1_stemsThatBreakInAll_11 : decode cX1_stemsThatBreakInAll 11 = .ok (.aload_n 0, 1) := by decide +kernel
theorem dX1_stemsThatBreakInAll_12 : decode cX1_stemsThatBreakInAll 12 = .ok (.iload_n 3, 1) := by decide +kernel
theorem dX1_stemsThatBreakInAll_13 : decode cX1_stemsThatBreakInAll 13 = .ok (.iload_n 1, 1) := by decide +kernel
theorem dX1_stemsThatBreakInAll_14 : decode cX1_stemsThatBreakInAll 14 = .ok (.invokevirtual 127, 3) := by decide +kernel
theorem dX1_stemsThatBreakInAll_17 : decode cX1_stemsThatBreakInAll 17 = .ok (.iadd, 1) := by decide +kernel
theorem dX1_stemsThatBreakInAll_18 : decode cX1_stemsThatBreakInAll 18 = .ok (.istore_n 2, 1) := by decide +kernel
theorem dX1_stemsThatBreakInAll_19 : decode cX1_stemsThatBreakInAll 19 = .ok (.iinc 3 1, 3) := by decide +kernel
theorem dX1_stemsThatBreakInAll_22 : decode cX1_stemsThatBreakInAll 22 = .ok (.goto (-18), 3) := by decide +kernel
theorem dX1_stemsThatBreakInAll_25 : decode cX1_stemsThatBreakInAll 25 = .ok (.iload_n 2, 1) := by decide +kernel
theorem dX1_stemsThatBreakInAll_26 : decode cX1_stemsThatBreakInAll 26 = .ok (.ireturn, 1) := by decide +kernel
theorem dX1_bestCoals_0 : decode cX1_bestCoals 0 = .ok (.iconst 1, 1) := by decide +kernel
theorem dX1_bestCoals_1 : decode cX1_bestCoals 1 = .ok (.istore_n 1, 1) := by decide +kernel
theorem dX1_bestCoals_2 : decode cX1_bestCoals 2 = .ok (.aload_n 0, 1) := by decide +kernel
theorem dX1_bestCoals_3 : decode cX1_bestCoals 3 = .ok (.iconst 1, 1) := by decide +kernel
theorem dX1_bestCoals_4 : decode cX1_bestCoals 4 = .ok (.invokevirtual 130, 3) := by decide +kernel
theorem dX1_bestCoals_7 : decode cX1_bestCoals 7 = .ok (.istore_n 2, 1) := by decide +kernel
theorem dX1_bestCoals_8 : decode cX1_bestCoals 8 = .ok (.iconst 2, 1) := by decide +kernel
theorem dX1_bestCoals_9 : decode cX1_bestCoals 9 = .ok (.istore_n 3, 1) := by decide +kernel
theorem dX1_bestCoals_10 : decode cX1_bestCoals 10 = .ok (.iload_n 3, 1) := by decide +kernel
theorem dX1_bestCoals_11 : decode cX1_bestCoals 11 = .ok (.bipush 30, 2) := by decide +kernel
theorem dX1_bestCoals_13 : decode cX1_bestCoals 13 = .ok (.if_icmp .gt 27, 3) := by decide +kernel
theorem dX1_bestCoals_16 : decode cX1_bestCoals 16 = .ok (.aload_n 0, 1) := by decide +kernel
theorem dX1_bestCoals_17 : decode cX1_bestCoals 17 = .ok (.iload_n 3, 1) := by decide +kernel
theorem dX1_bestCoals_18 : decode cX1_bestCoals 18 = .ok (.invokevirtual 130, 3) := by decide +kernel
theorem dX1_bestCoals_21 : decode cX1_bestCoals 21 = .ok (.istore 4, 2) := by decide +kernel
theorem dX1_bestCoals_23 : decode cX1_bestCoals 23 = .ok (.iload 4, 2) := by decide +kernel
theorem dX1_bestCoals_25 : decode cX1_bestCoals 25 = .ok (.iload_n 2, 1) := by decide +kernel
theorem dX1_bestCoals_26 : decode cX1_bestCoals 26 = .ok (.if_icmp .ge 8, 3) := by decide +kernel
theorem dX1_bestCoals_29 : decode cX1_bestCoals 29 = .ok (.iload_n 3, 1) := by decide +kernel
theorem dX1_bestCoals_30 : decode cX1_bestCoals 30 = .ok (.istore_n 1, 1) := by decide +kernel
theorem dX1_bestCoals_31 : decode cX1_bestCoals 31 = .ok (.iload 4, 2) := by decide +kernel
theorem dX1_bestCoals_33 : decode cX1_bestCoals 33 = .ok (.istore_n 2, 1) := by decide +kernel
theorem dX1_bestCoals_34 : decode cX1_bestCoals 34 = .ok (.iinc 3 1, 3) := by decide +kernel
theorem dX1_bestCoals_37 : decode cX1_bestCoals 37 = .ok (.goto (-27), 3) := by decide +kernel
theorem dX1_bestCoals_40 : decode cX1_bestCoals 40 = .ok (.iload_n 1, 1) := by decide +kernel
theorem dX1_bestCoals_41 : decode cX1_bestCoals 41 = .ok (.ireturn, 1) := by decide +kernel
theorem dX1_fireKiln_0 : decode cX1_fireKiln 0 = .ok (.iconst 0, 1) := by decide +kernel
theorem dX1_fireKiln_1 : decode cX1_fireKiln 1 = .ok (.istore_n 2, 1) := by decide +kernel
theorem dX1_fireKiln_2 : decode cX1_fireKiln 2 = .ok (.iconst 0, 1) := by decide +kernel
theorem dX1_fireKiln_3 : decode cX1_fireKiln 3 = .ok (.istore_n 3, 1) := by decide +kernel
theorem dX1_fireKiln_4 : decode cX1_fireKiln 4 = .ok (.iload_n 3, 1) := by decide +kernel
theorem dX1_fireKiln_5 : decode cX1_fireKiln 5 = .ok (.bipush 6, 2) := by decide +kernel
theorem dX1_fireKiln_7 : decode cX1_fireKiln 7 = .ok (.if_icmp .ge 18, 3) := by decide +kernel
theorem dX1_fireKiln_10 : decode cX1_fireKiln 10 = .ok (.iload_n 2, 1) := by decide +kernel
theorem dX1_fireKiln_11 : decode cX1_fireKiln 11 = .ok (.aload_n 0, 1) := by decide +kernel
theorem dX1_fireKiln_12 : decode cX1_fireKiln 12 = .ok (.iload_n 3, 1) := by decide +kernel
theorem dX1_fireKiln_13 : decode cX1_fireKiln 13 = .ok (.iload_n 1, 1) := by decide +kernel
theorem dX1_fireKiln_14 : decode cX1_fireKiln 14 = .ok (.invokevirtual 133, 3) := by decide +kernel
theorem dX1_fireKiln_17 : decode cX1_fireKiln 17 = .ok (.iadd, 1) := by decide +kernel
theorem dX1_fireKiln_18 : decode cX1_fireKiln 18 = .ok (.istore_n 2, 1) := by decide +kernel
theorem dX1_fireKiln_19 : decode cX1_fireKiln 19 = .ok (.iinc 3 1, 3) := by decide +kernel
theorem dX1_fireKiln_22 : decode cX1_fireKiln 22 = .ok (.goto (-18), 3) := by decide +kernel
theorem dX1_fireKiln_25 : decode cX1_fireKiln 25 = .ok (.aload_n 0, 1) := by decide +kernel
theorem dX1_fireKiln_26 : decode cX1_fireKiln 26 = .ok (.dup, 1) := by decide +kernel
theorem dX1_fireKiln_27 : decode cX1_fireKiln 27 = .ok (.getfield 43, 3) := by decide +kernel
theorem dX1_fireKiln_30 : decode cX1_fireKiln 30 = .ok (.iload_n 1, 1) := by decide +kernel
theorem dX1_fireKiln_31 : decode cX1_fireKiln 31 = .ok (.isub, 1) := by decide +kernel
theorem dX1_fireKiln_32 : decode cX1_fireKiln 32 = .ok (.putfield 43, 3) := by decide +kernel
theorem dX1_fireKiln_35 : decode cX1_fireKiln 35 = .ok (.iload_n 2, 1) := by decide +kernel
theorem dX1_fireKiln_36 : decode cX1_fireKiln 36 = .ok (.ireturn, 1) := by decide +kernel
theorem dX1_unloadFired_0 : decode cX1_unloadFired 0 = .ok (.aload_n 0, 1) := by decide +kernel
theorem dX1_unloadFired_1 : decode cX1_unloadFired 1 = .ok (.iload_n 1, 1) := by decide +kernel
theorem dX1_unloadFired_2 : decode cX1_unloadFired 2 = .ok (.iload_n 2, 1) := by decide +kernel
theorem dX1_unloadFired_3 : decode cX1_unloadFired 3 = .ok (.invokevirtual 127, 3) := by decide +kernel
theorem dX1_unloadFired_6 : decode cX1_unloadFired 6 = .ok (.istore_n 3, 1) := by decide +kernel
theorem dX1_unloadFired_7 : decode cX1_unloadFired 7 = .ok (.aload_n 0, 1) := by decide +kernel
theorem dX1_unloadFired_8 : decode cX1_unloadFired 8 = .ok (.getfield 26, 3) := by decide +kernel
theorem dX1_unloadFired_11 : decode cX1_unloadFired 11 = .ok (.iload_n 1, 1) := by decide +kernel
theorem dX1_unloadFired_12 : decode cX1_unloadFired 12 = .ok (.iconst 1, 1) := by decide +kernel
theorem dX1_unloadFired_13 : decode cX1_unloadFired 13 = .ok (.invokevirtual 96, 3) := by decide +kernel
theorem dX1_unloadFired_16 : decode cX1_unloadFired 16 = .ok (.iload_n 3, 1) := by decide +kernel
theorem dX1_unloadFired_17 : decode cX1_unloadFired 17 = .ok (.isub, 1) := by decide +kernel
theorem dX1_unloadFired_18 : decode cX1_unloadFired 18 = .ok (.istore 4, 2) := by decide +kernel
theorem dX1_unloadFired_20 : decode cX1_unloadFired 20 = .ok (.aload_n 0, 1) := by decide +kernel
theorem dX1_unloadFired_21 : decode cX1_unloadFired 21 = .ok (.dup, 1) := by decide +kernel
theorem dX1_unloadFired_22 : decode cX1_unloadFired 22 = .ok (.getfield 68, 3) := by decide +kernel
theorem dX1_unloadFired_25 : decode cX1_unloadFired 25 = .ok (.iload_n 3, 1) := by decide +kernel
theorem dX1_unloadFired_26 : decode cX1_unloadFired 26 = .ok (.iadd, 1) := by decide +kernel
theorem dX1_unloadFired_27 : decode cX1_unloadFired 27 = .ok (.putfield 68, 3) := by decide +kernel
theorem dX1_unloadFired_30 : decode cX1_unloadFired 30 = .ok (.aload_n 0, 1) := by decide +kernel
theorem dX1_unloadFired_31 : decode cX1_unloadFired 31 = .ok (.aload_n 0, 1) := by decide +kernel
theorem dX1_unloadFired_32 : decode cX1_unloadFired 32 = .ok (.getfield 26, 3) := by decide +kernel
theorem dX1_unloadFired_35 : decode cX1_unloadFired 35 = .ok (.iload_n 1, 1) := by decide +kernel
theorem dX1_unloadFired_36 : decode cX1_unloadFired 36 = .ok (.iconst 0, 1) := by decide +kernel
theorem dX1_unloadFired_37 : decode cX1_unloadFired 37 = .ok (.invokevirtual 96, 3) := by decide +kernel
theorem dX1_unloadFired_40 : decode cX1_unloadFired 40 = .ok (.iload 4, 2) := by decide +kernel
theorem dX1_unloadFired_42 : decode cX1_unloadFired 42 = .ok (.invokevirtual 136, 3) := by decide +kernel
theorem dX1_unloadFired_45 : decode cX1_unloadFired 45 = .ok (.iconst 0, 1) := by decide +kernel
theorem dX1_unloadFired_46 : decode cX1_unloadFired 46 = .ok (.istore 5, 2) := by decide +kernel
theorem dX1_unloadFired_48 : decode cX1_unloadFired 48 = .ok (.iload 5, 2) := by decide +kernel
theorem dX1_unloadFired_50 : decode cX1_unloadFired 50 = .ok (.iconst 4, 1) := by decide +kernel
theorem dX1_unloadFired_51 : decode cX1_unloadFired 51 = .ok (.if_icmp .ge 20, 3) := by decide +kernel
theorem dX1_unloadFired_54 : decode cX1_unloadFired 54 = .ok (.aload_n 0, 1) := by decide +kernel
theorem dX1_unloadFired_55 : decode cX1_unloadFired 55 = .ok (.getfield 26, 3) := by decide +kernel
theorem dX1_unloadFired_58 : decode cX1_unloadFired 58 = .ok (.iload_n 1, 1) := by decide +kernel
theorem dX1_unloadFired_59 : decode cX1_unloadFired 59 = .ok (.iload 5, 2) := by decide +kernel
theorem dX1_unloadFired_61 : decode cX1_unloadFired 61 = .ok (.iconst 0, 1) := by decide +kernel
theorem dX1_unloadFired_62 : decode cX1_unloadFired 62 = .ok (.invokevirtual 85, 3) := by decide +kernel
theorem dX1_unloadFired_65 : decode cX1_unloadFired 65 = .ok (.iinc 5 1, 3) := by decide +kernel
theorem dX1_unloadFired_68 : decode cX1_unloadFired 68 = .ok (.goto (-20), 3) := by decide +kernel
theorem dX1_unloadFired_71 : decode cX1_unloadFired 71 = .ok (.iload 4, 2) := by decide +kernel
theorem dX1_unloadFired_73 : decode cX1_unloadFired 73 = .ok (.ireturn, 1) := by decide +kernel
theorem dX1_passDays_0 : decode cX1_passDays 0 = .ok (.iconst 0, 1) := by decide +kernel
theorem dX1_passDays_1 : decode cX1_passDays 1 = .ok (.istore_n 2, 1) := by decide +kernel
theorem dX1_passDays_2 : decode cX1_passDays 2 = .ok (.iload_n 2, 1) := by decide +kernel
theorem dX1_passDays_3 : decode cX1_passDays 3 = .ok (.iload_n 1, 1) := by decide +kernel
theorem dX1_passDays_4 : decode cX1_passDays 4 = .ok (.if_icmp .ge 13, 3) := by decide +kernel
theorem dX1_passDays_7 : decode cX1_passDays 7 = .ok (.aload_n 0, 1) := by decide +kernel
theorem dX1_passDays_8 : decode cX1_passDays 8 = .ok (.invokevirtual 140, 3) := by decide +kernel
theorem dX1_passDays_11 : decode cX1_passDays 11 = .ok (.iinc 2 1, 3) := by decide +kernel
theorem dX1_passDays_14 : decode cX1_passDays 14 = .ok (.goto (-12), 3) := by decide +kernel
theorem dX1_passDays_17 : decode cX1_passDays 17 = .ok (.return_, 1) := by decide +kernel
theorem dX1_passDay_0 : decode cX1_passDay 0 = .ok (.iconst 0, 1) := by decide +kernel
theorem dX1_passDay_1 : decode cX1_passDay 1 = .ok (.istore_n 1, 1) := by decide +kernel
theorem dX1_passDay_2 : decode cX1_passDay 2 = .ok (.iload_n 1, 1) := by decide +kernel
theorem dX1_passDay_3 : decode cX1_passDay 3 = .ok (.aload_n 0, 1) := by decide +kernel
theorem dX1_passDay_4 : decode cX1_passDay 4 = .ok (.getfield 20, 3) := by decide +kernel
theorem dX1_passDay_7 : decode cX1_passDay 7 = .ok (.invokevirtual 89, 3) := by decide +kernel
theorem dX1_passDay_10 : decode cX1_passDay 10 = .ok (.if_icmp .ge 14, 3) := by decide +kernel
theorem dX1_passDay_13 : decode cX1_passDay 13 = .ok (.aload_n 0, 1) := by decide +kernel
theorem dX1_passDay_14 : decode cX1_passDay 14 = .ok (.iload_n 1, 1) := by decide +kernel
theorem dX1_passDay_15 : decode cX1_passDay 15 = .ok (.invokevirtual 143, 3) := by decide +kernel
theorem dX1_passDay_18 : decode cX1_passDay 18 = .ok (.iinc 1 1, 3) := by decide +kernel
theorem dX1_passDay_21 : decode cX1_passDay 21 = .ok (.goto (-19), 3) := by decide +kernel
theorem dX1_passDay_24 : decode cX1_passDay 24 = .ok (.aload_n 0, 1) := by decide +kernel
theorem dX1_passDay_25 : decode cX1_passDay 25 = .ok (.aload_n 0, 1) := by decide +kernel
theorem dX1_passDay_26 : decode cX1_passDay 26 = .ok (.getfield 62, 3) := by decide +kernel
theorem dX1_passDay_29 : decode cX1_passDay 29 = .ok (.bipush 7, 2) := by decide +kernel
theorem dX1_passDay_31 : decode cX1_passDay 31 = .ok (.invokestatic 146, 3) := by decide +kernel
theorem dX1_passDay_34 : decode cX1_passDay 34 = .ok (.invokevirtual 149, 3) := by decide +kernel
theorem dX1_passDay_37 : decode cX1_passDay 37 = .ok (.istore_n 1, 1) := by decide +kernel
theorem dX1_passDay_38 : decode cX1_passDay 38 = .ok (.aload_n 0, 1) := by decide +kernel
theorem dX1_passDay_39 : decode cX1_passDay 39 = .ok (.getfield 23, 3) := by decide +kernel
theorem dX1_passDay_42 : decode cX1_passDay 42 = .ok (.iload_n 1, 1) := by decide +kernel
theorem dX1_passDay_43 : decode cX1_passDay 43 = .ok (.invokestatic 152, 3) := by decide +kernel
theorem dX1_passDay_46 : decode cX1_passDay 46 = .ok (.aload_n 0, 1) := by decide +kernel
theorem dX1_passDay_47 : decode cX1_passDay 47 = .ok (.getfield 26, 3) := by decide +kernel
theorem dX1_passDay_50 : decode cX1_passDay 50 = .ok (.iload_n 1, 1) := by decide +kernel
theorem dX1_passDay_51 : decode cX1_passDay 51 = .ok (.invokestatic 152, 3) := by decide +kernel
theorem dX1_passDay_54 : decode cX1_passDay 54 = .ok (.aload_n 0, 1) := by decide +kernel
theorem dX1_passDay_55 : decode cX1_passDay 55 = .ok (.invokevirtual 156, 3) := by decide +kernel
theorem dX1_passDay_58 : decode cX1_passDay 58 = .ok (.aload_n 0, 1) := by decide +kernel
theorem dX1_passDay_59 : decode cX1_passDay 59 = .ok (.dup, 1) := by decide +kernel
theorem dX1_passDay_60 : decode cX1_passDay 60 = .ok (.getfield 62, 3) := by decide +kernel
theorem dX1_passDay_63 : decode cX1_passDay 63 = .ok (.iconst 1, 1) := by decide +kernel
theorem dX1_passDay_64 : decode cX1_passDay 64 = .ok (.iadd, 1) := by decide +kernel
theorem dX1_passDay_65 : decode cX1_passDay 65 = .ok (.putfield 62, 3) := by decide +kernel
theorem dX1_passDay_68 : decode cX1_passDay 68 = .ok (.return_, 1) := by decide +kernel
theorem dX1_letWork_0 : decode cX1_letWork 0 = .ok (.aload_n 0, 1) := by decide +kernel
theorem dX1_letWork_1 : decode cX1_letWork 1 = .ok (.getfield 20, 3) := by decide +kernel
theorem dX1_letWork_4 : decode cX1_letWork 4 = .ok (.iload_n 1, 1) := by decide +kernel
theorem dX1_letWork_5 : decode cX1_letWork 5 = .ok (.iconst 1, 1) := by decide +kernel
theorem dX1_letWork_6 : decode cX1_letWork 6 = .ok (.invokevirtual 96, 3) := by decide +kernel
theorem dX1_letWork_9 : decode cX1_letWork 9 = .ok (.istore_n 2, 1) := by decide +kernel
theorem dX1_letWork_10 : decode cX1_letWork 10 = .ok (.aload_n 0, 1) := by decide +kernel
theorem dX1_letWork_11 : decode cX1_letWork 11 = .ok (.getfield 14, 3) := by decide +kernel
theorem dX1_letWork_14 : decode cX1_letWork 14 = .ok (.iload_n 2, 1) := by decide +kernel
theorem dX1_letWork_15 : decode cX1_letWork 15 = .ok (.invokevirtual 159, 3) := by decide +kernel
theorem dX1_letWork_18 : decode cX1_letWork 18 = .ok (.ifCond .eq 13, 3) := by decide +kernel
theorem dX1_letWork_21 : decode cX1_letWork 21 = .ok (.aload_n 0, 1) := by decide +kernel
theorem dX1_letWork_22 : decode cX1_letWork 22 = .ok (.getfield 23, 3) := by decide +kernel
theorem dX1_letWork_25 : decode cX1_letWork 25 = .ok (.invokevirtual 163, 3) := by decide +kernel
theorem dX1_letWork_28 : decode cX1_letWork 28 = .ok (.ifCond .eq 4, 3) := by decide +kernel
theorem dX1_letWork_31 : decode cX1_letWork 31 = .ok (.return_, 1) := by decide +kernel
theorem dX1_letWork_32 : decode cX1_letWork 32 = .ok (.iconst 1, 1) := by decide +kernel
theorem dX1_letWork_33 : decode cX1_letWork 33 = .ok (.aload_n 0, 1) := by decide +kernel
theorem dX1_letWork_34 : decode cX1_letWork 34 = .ok (.iload_n 2, 1) := by decide +kernel
theorem dX1_letWork_35 : decode cX1_letWork 35 = .ok (.invokevirtual 106, 3) := by decide +kernel
theorem dX1_letWork_38 : decode cX1_letWork 38 = .ok (.invokestatic 167, 3) := by decide +kernel
theorem dX1_letWork_41 : decode cX1_letWork 41 = .ok (.istore_n 3, 1) := by decide +kernel
theorem dX1_letWork_42 : decode cX1_letWork 42 = .ok (.aload_n 0, 1) := by decide +kernel
theorem dX1_letWork_43 : decode cX1_letWork 43 = .ok (.getfield 20, 3) := by decide +kernel
theorem dX1_letWork_46 : decode cX1_letWork 46 = .ok (.iload_n 1, 1) := by decide +kernel
theorem dX1_letWork_47 : decode cX1_letWork 47 = .ok (.iconst 0, 1) := by decide +kernel
theorem dX1_letWork_48 : decode cX1_letWork 48 = .ok (.invokevirtual 96, 3) := by decide +kernel
theorem dX1_letWork_51 : decode cX1_letWork 51 = .ok (.aload_n 0, 1) := by decide +kernel
theorem dX1_letWork_52 : decode cX1_letWork 52 = .ok (.getfield 39, 3) := by decide +kernel
theorem dX1_letWork_55 : decode cX1_letWork 55 = .ok (.iload_n 3, 1) := by decide +kernel
theorem dX1_letWork_56 : decode cX1_letWork 56 = .ok (.idiv, 1) := by decide +kernel
theorem dX1_letWork_57 : decode cX1_letWork 57 = .ok (.invokestatic 124, 3) := by decide +kernel
theorem dX1_letWork_60 : decode cX1_letWork 60 = .ok (.istore 4, 2) := by decide +kernel
theorem dX1_letWork_62 : decode cX1_letWork 62 = .ok (.iload 4, 2) := by decide +kernel
theorem dX1_letWork_64 : decode cX1_letWork 64 = .ok (.iconst 1, 1) := by decide +kernel
theorem dX1_letWork_65 : decode cX1_letWork 65 = .ok (.if_icmp .ge 4, 3) := by decide +kernel
theorem dX1_letWork_68 : decode cX1_letWork 68 = .ok (.return_, 1) := by decide +kernel
theorem dX1_letWork_69 : decode cX1_letWork 69 = .ok (.aload_n 0, 1) := by decide +kernel
theorem dX1_letWork_70 : decode cX1_letWork 70 = .ok (.dup, 1) := by decide +kernel
theorem dX1_letWork_71 : decode cX1_letWork 71 = .ok (.getfield 39, 3) := by decide +kernel
theorem dX1_letWork_74 : decode cX1_letWork 74 = .ok (.iload 4, 2) := by decide +kernel
theorem dX1_letWork_76 : decode cX1_letWork 76 = .ok (.iload_n 3, 1) := by decide +kernel
theorem dX1_letWork_77 : decode cX1_letWork 77 = .ok (.imul, 1) := by decide +kernel
theorem dX1_letWork_78 : decode cX1_letWork 78 = .ok (.isub, 1) := by decide +kernel
theorem dX1_letWork_79 : decode cX1_letWork 79 = .ok (.putfield 39, 3) := by decide +kernel
theorem dX1_letWork_82 : decode cX1_letWork 82 = .ok (.aload_n 0, 1) := by decide +kernel
theorem dX1_letWork_83 : decode cX1_letWork 83 = .ok (.dup, 1) := by decide +kernel
theorem dX1_letWork_84 : decode cX1_letWork 84 = .ok (.getfield 65, 3) := by decide +kernel
theorem dX1_letWork_87 : decode cX1_letWork 87 = .ok (.iload 4, 2) := by decide +kernel
theorem dX1_letWork_89 : decode cX1_letWork 89 = .ok (.iadd, 1) := by decide +kernel
theorem dX1_letWork_90 : decode cX1_letWork 90 = .ok (.putfield 65, 3) := by decide +kernel
theorem dX1_letWork_93 : decode cX1_letWork 93 = .ok (.aload_n 0, 1) := by decide +kernel
theorem dX1_letWork_94 : decode cX1_letWork 94 = .ok (.iload_n 2, 1) := by decide +kernel
theorem dX1_letWork_95 : decode cX1_letWork 95 = .ok (.iload 4, 2) := by decide +kernel
theorem dX1_letWork_97 : decode cX1_letWork 97 = .ok (.invokevirtual 170, 3) := by decide +kernel
theorem dX1_letWork_100 : decode cX1_letWork 100 = .ok (.aload_n 0, 1) := by decide +kernel
theorem dX1_letWork_101 : decode cX1_letWork 101 = .ok (.iload_n 2, 1) := by decide +kernel
theorem dX1_letWork_102 : decode cX1_letWork 102 = .ok (.iload 4, 2) := by decide +kernel
theorem dX1_letWork_104 : decode cX1_letWork 104 = .ok (.iconst 3, 1) := by decide +kernel
theorem dX1_letWork_105 : decode cX1_letWork 105 = .ok (.iadd, 1) := by decide +kernel
theorem dX1_letWork_106 : decode cX1_letWork 106 = .ok (.iconst 4, 1) := by decide +kernel
theorem dX1_letWork_107 : decode cX1_letWork 107 = .ok (.idiv, 1) := by decide +kernel
theorem dX1_letWork_108 : decode cX1_letWork 108 = .ok (.invokevirtual 173, 3) := by decide +kernel
theorem dX1_letWork_111 : decode cX1_letWork 111 = .ok (.return_, 1) := by decide +kernel
theorem dX1_layOnBoards_0 : decode cX1_layOnBoards 0 = .ok (.aload_n 0, 1) := by decide +kernel
theorem dX1_layOnBoards_1 : decode cX1_layOnBoards 1 = .ok (.getfield 23, 3) := by decide +kernel
theorem dX1_layOnBoards_4 : decode cX1_layOnBoards 4 = .ok (.invokevirtual 81, 3) := by decide +kernel
theorem dX1_layOnBoards_7 : decode cX1_layOnBoards 7 = .ok (.istore_n 3, 1) := by decide +kernel
theorem dX1_layOnBoards_8 : decode cX1_layOnBoards 8 = .ok (.aload_n 0, 1) := by decide +kernel
theorem dX1_layOnBoards_9 : decode cX1_layOnBoards 9 = .ok (.getfield 23, 3) := by decide +kernel
theorem dX1_layOnBoards_12 : decode cX1_layOnBoards 12 = .ok (.iload_n 3, 1) := by decide +kernel
theorem dX1_layOnBoards_13 : decode cX1_layOnBoards 13 = .ok (.iconst 0, 1) := by decide +kernel
theorem dX1_layOnBoards_14 : decode cX1_layOnBoards 14 = .ok (.aload_n 0, 1) := by decide +kernel
theorem dX1_layOnBoards_15 : decode cX1_layOnBoards 15 = .ok (.getfield 14, 3) := by decide +kernel
theorem dX1_layOnBoards_18 : decode cX1_layOnBoards 18 = .ok (.iload_n 1, 1) := by decide +kernel
theorem dX1_layOnBoards_19 : decode cX1_layOnBoards 19 = .ok (.iconst 0, 1) := by decide +kernel
theorem dX1_layOnBoards_20 : decode cX1_layOnBoards 20 = .ok (.invokevirtual 96, 3) := by decide +kernel
theorem dX1_layOnBoards_23 : decode cX1_layOnBoards 23 = .ok (.invokevirtual 85, 3) := by decide +kernel
theorem dX1_layOnBoards_26 : decode cX1_layOnBoards 26 = .ok (.aload_n 0, 1) := by decide +kernel
theorem dX1_layOnBoards_27 : decode cX1_layOnBoards 27 = .ok (.getfield 23, 3) := by decide +kernel
theorem dX1_layOnBoards_30 : decode cX1_layOnBoards 30 = .ok (.iload_n 3, 1) := by decide +kernel
theorem dX1_layOnBoards_31 : decode cX1_layOnBoards 31 = .ok (.iconst 1, 1) := by decide +kernel
theorem dX1_layOnBoards_32 : decode cX1_layOnBoards 32 = .ok (.iload_n 2, 1) := by decide +kernel
theorem dX1_layOnBoards_33 : decode cX1_layOnBoards 33 = .ok (.invokevirtual 85, 3) := by decide +kernel
theorem dX1_layOnBoards_36 : decode cX1_layOnBoards 36 = .ok (.aload_n 0, 1) := by decide +kernel
theorem dX1_layOnBoards_37 : decode cX1_layOnBoards 37 = .ok (.getfield 23, 3) := by decide +kernel
theorem dX1_layOnBoards_40 : decode cX1_layOnBoards 40 = .ok (.iload_n 3, 1) := by decide +kernel
theorem dX1_layOnBoards_41 : decode cX1_layOnBoards 41 = .ok (.iconst 2, 1) := by decide +kernel
theorem dX1_layOnBoards_42 : decode cX1_layOnBoards 42 = .ok (.bipush 6, 2) := by decide +kernel
theorem dX1_layOnBoards_44 : decode cX1_layOnBoards 44 = .ok (.invokevirtual 85, 3) := by decide +kernel
theorem dX1_layOnBoards_47 : decode cX1_layOnBoards 47 = .ok (.aload_n 0, 1) := by decide +kernel
theorem dX1_layOnBoards_48 : decode cX1_layOnBoards 48 = .ok (.getfield 23, 3) := by decide +kernel
theorem dX1_layOnBoards_51 : decode cX1_layOnBoards 51 = .ok (.iload_n 3, 1) := by decide +kernel
theorem dX1_layOnBoards_52 : decode cX1_layOnBoards 52 = .ok (.iconst 3, 1) := by decide +kernel
theorem dX1_layOnBoards_53 : decode cX1_layOnBoards 53 = .ok (.aload_n 0, 1) := by decide +kernel
theorem dX1_layOnBoards_54 : decode cX1_layOnBoards 54 = .ok (.iload_n 1, 1) := by decide +kernel
theorem dX1_layOnBoards_55 : decode cX1_layOnBoards 55 = .ok (.invokevirtual 103, 3) := by decide +kernel
theorem dX1_layOnBoards_58 : decode cX1_layOnBoards 58 = .ok (.invokevirtual 85, 3) := by decide +kernel
theorem dX1_layOnBoards_61 : decode cX1_layOnBoards 61 = .ok (.return_, 1) := by decide +kernel
theorem dX1_wearMould_0 : decode cX1_wearMould 0 = .ok (.aload_n 0, 1) := by decide +kernel
theorem dX1_wearMould_1 : decode cX1_wearMould 1 = .ok (.getfield 14, 3) := by decide +kernel
theorem dX1_wearMould_4 : decode cX1_wearMould 4 = .ok (.iload_n 1, 1) := by decide +kernel
theorem dX1_wearMould_5 : decode cX1_wearMould 5 = .ok (.iconst 2, 1) := by decide +kernel
theorem dX1_wearMould_6 : decode cX1_wearMould 6 = .ok (.invokevirtual 96, 3) := by decide +kernel
theorem dX1_wearMould_9 : decode cX1_wearMould 9 = .ok (.istore_n 3, 1) := by decide +kernel
theorem dX1_wearMould_10 : decode cX1_wearMould 10 = .ok (.bipush 100, 2) := by decide +kernel
theorem dX1_wearMould_12 : decode cX1_wearMould 12 = .ok (.iload_n 3, 1) := by decide +kernel
theorem dX1_wearMould_13 : decode cX1_wearMould 13 = .ok (.iload_n 2, 1) := by decide +kernel
theorem dX1_wearMould_14 : decode cX1_wearMould 14 = .ok (.iadd, 1) := by decide +kernel
theorem dX1_wearMould_15 : decode cX1_wearMould 15 = .ok (.invokestatic 124, 3) := by decide +kernel
theorem dX1_wearMould_18 : decode cX1_wearMould 18 = .ok (.istore 4, 2) := by decide +kernel
theorem dX1_wearMould_20 : decode cX1_wearMould 20 = .ok (.aload_n 0, 1) := by decide +kernel
theorem dX1_wearMould_21 : decode cX1_wearMould 21 = .ok (.getfield 14, 3) := by decide +kernel
theorem dX1_wearMould_24 : decode cX1_wearMould 24 = .ok (.iload_n 1, 1) := by decide +kernel
theorem dX1_wearMould_25 : decode cX1_wearMould 25 = .ok (.iconst 2, 1) := by decide +kernel
theorem dX1_wearMould_26 : decode cX1_wearMould 26 = .ok (.iload 4, 2) := by decide +kernel
theorem dX1_wearMould_28 : decode cX1_wearMould 28 = .ok (.invokevirtual 85, 3) := by decide +kernel
theorem dX1_wearMould_31 : decode cX1_wearMould 31 = .ok (.iload 4, 2) := by decide +kernel
theorem dX1_wearMould_33 : decode cX1_wearMould 33 = .ok (.bipush 10, 2) := by decide +kernel
theorem dX1_wearMould_35 : decode cX1_wearMould 35 = .ok (.idiv, 1) := by decide +kernel
theorem dX1_wearMould_36 : decode cX1_wearMould 36 = .ok (.iload_n 3, 1) := by decide +kernel
theorem dX1_wearMould_37 : decode cX1_wearMould 37 = .ok (.bipush 10, 2) := by decide +kernel
theorem dX1_wearMould_39 : decode cX1_wearMould 39 = .ok (.idiv, 1) := by decide +kernel
theorem dX1_wearMould_40 : decode cX1_wearMould 40 = .ok (.if_icmp .le 27, 3) := by decide +kernel
theorem dX1_wearMould_43 : decode cX1_wearMould 43 = .ok (.aload_n 0, 1) := by decide +kernel
theorem dX1_wearMould_44 : decode cX1_wearMould 44 = .ok (.getfield 14, 3) := by decide +kernel
theorem dX1_wearMould_47 : decode cX1_wearMould 47 = .ok (.iload_n 1, 1) := by decide +kernel
theorem dX1_wearMould_48 : decode cX1_wearMould 48 = .ok (.iconst 1, 1) := by decide +kernel
theorem dX1_wearMould_49 : decode cX1_wearMould 49 = .ok (.iconst 0, 1) := by decide +kernel
theorem dX1_wearMould_50 : decode cX1_wearMould 50 = .ok (.aload_n 0, 1) := by decide +kernel
theorem dX1_wearMould_51 : decode cX1_wearMould 51 = .ok (.getfield 14, 3) := by decide +kernel
theorem dX1_wearMould_54 : decode cX1_wearMould 54 = .ok (.iload_n 1, 1) := by decide +kernel
theorem dX1_wearMould_55 : decode cX1_wearMould 55 = .ok (.iconst 1, 1) := by decide +kernel
theorem dX1_wearMould_56 : decode cX1_wearMould 56 = .ok (.invokevirtual 96, 3) := by decide +kernel
theorem dX1_wearMould_59 : decode cX1_wearMould 59 = .ok (.iconst 1, 1) := by decide +kernel
theorem dX1_wearMould_60 : decode cX1_wearMould 60 = .ok (.isub, 1) := by decide +kernel
theorem dX1_wearMould_61 : decode cX1_wearMould 61 = .ok (.invokestatic 167, 3) := by decide +kernel
theorem dX1_wearMould_64 : decode cX1_wearMould 64 = .ok (.invokevirtual 85, 3) := by decide +kernel
theorem dX1_wearMould_67 : decode cX1_wearMould 67 = .ok (.return_, 1) := by decide +kernel
theorem dX1_dry_0 : decode cX1_dry 0 = .ok (.iconst 0, 1) := by decide +kernel
theorem dX1_dry_1 : decode cX1_dry 1 = .ok (.istore_n 2, 1) := by decide +kernel
theorem dX1_dry_2 : decode cX1_dry 2 = .ok (.iload_n 2, 1) := by decide +kernel
theorem dX1_dry_3 : decode cX1_dry 3 = .ok (.aload_n 0, 1) := by decide +kernel
theorem dX1_dry_4 : decode cX1_dry 4 = .ok (.invokevirtual 89, 3) := by decide +kernel
theorem dX1_dry_7 : decode cX1_dry 7 = .ok (.if_icmp .ge 27, 3) := by decide +kernel
theorem dX1_dry_10 : decode cX1_dry 10 = .ok (.aload_n 0, 1) := by decide +kernel
theorem dX1_dry_11 : decode cX1_dry 11 = .ok (.iload_n 2, 1) := by decide +kernel
theorem dX1_dry_12 : decode cX1_dry 12 = .ok (.iconst 2, 1) := by decide +kernel
theorem dX1_dry_13 : decode cX1_dry 13 = .ok (.iconst 0, 1) := by decide +kernel
theorem dX1_dry_14 : decode cX1_dry 14 = .ok (.aload_n 0, 1) := by decide +kernel
theorem dX1_dry_15 : decode cX1_dry 15 = .ok (.iload_n 2, 1) := by decide +kernel
theorem dX1_dry_16 : decode cX1_dry 16 = .ok (.iconst 2, 1) := by decide +kernel
theorem dX1_dry_17 : decode cX1_dry 17 = .ok (.invokevirtual 96, 3) := by decide +kernel
theorem dX1_dry_20 : decode cX1_dry 20 = .ok (.iload_n 1, 1) := by decide +kernel
theorem dX1_dry_21 : decode cX1_dry 21 = .ok (.isub, 1) := by decide +kernel
theorem dX1_dry_22 : decode cX1_dry 22 = .ok (.invokestatic 167, 3) := by decide +kernel
theorem dX1_dry_25 : decode cX1_dry 25 = .ok (.invokevirtual 85, 3) := by decide +kernel
theorem dX1_dry_28 : decode cX1_dry 28 = .ok (.iinc 2 1, 3) := by decide +kernel
theorem dX1_dry_31 : decode cX1_dry 31 = .ok (.goto (-29), 3) := by decide +kernel
theorem dX1_dry_34 : decode cX1_dry 34 = .ok (.return_, 1) := by decide +kernel
theorem dX1_lookAtOrders_0 : decode cX1_lookAtOrders 0 = .ok (.aload_n 0, 1) := by decide +kernel
theorem dX1_lookAtOrders_1 : decode cX1_lookAtOrders 1 = .ok (.getfield 29, 3) := by decide +kernel
theorem dX1_lookAtOrders_4 : decode cX1_lookAtOrders 4 = .ok (.invokevirtual 89, 3) := by decide +kernel
theorem dX1_lookAtOrders_7 : decode cX1_lookAtOrders 7 = .ok (.istore_n 1, 1) := by decide +kernel
theorem dX1_lookAtOrders_8 : decode cX1_lookAtOrders 8 = .ok (.iconst 0, 1) := by decide +kernel
theorem dX1_lookAtOrders_9 : decode cX1_lookAtOrders 9 = .ok (.istore_n 2, 1) := by decide +kernel
theorem dX1_lookAtOrders_10 : decode cX1_lookAtOrders 10 = .ok (.iconst 0, 1) := by decide +kernel
theorem dX1_lookAtOrders_11 : decode cX1_lookAtOrders 11 = .ok (.istore_n 3, 1) := by decide +kernel
theorem dX1_lookAtOrders_12 : decode cX1_lookAtOrders 12 = .ok (.iload_n 3, 1) := by decide +kernel
theorem dX1_lookAtOrders_13 : decode cX1_lookAtOrders 13 = .ok (.iload_n 1, 1) := by decide +kernel
theorem dX1_lookAtOrders_14 : decode cX1_lookAtOrders 14 = .ok (.if_icmp .ge 20, 3) := by decide +kernel
theorem dX1_lookAtOrders_17 : decode cX1_lookAtOrders 17 = .ok (.aload_n 0, 1) := by decide +kernel
theorem dX1_lookAtOrders_18 : decode cX1_lookAtOrders 18 = .ok (.iload_n 2, 1) := by decide +kernel
theorem dX1_lookAtOrders_19 : decode cX1_lookAtOrders 19 = .ok (.invokevirtual 176, 3) := by decide +kernel
theorem dX1_lookAtOrders_22 : decode cX1_lookAtOrders 22 = .ok (.ifCond .eq 6, 3) := by decide +kernel
theorem dX1_lookAtOrders_25 : decode cX1_lookAtOrders 25 = .ok (.iinc 2 1, 3) := by decide +kernel
theorem dX1_lookAtOrders_28 : decode cX1_lookAtOrders 28 = .ok (.iinc 3 1, 3) := by decide +kernel
theorem dX1_lookAtOrders_31 : decode cX1_lookAtOrders 31 = .ok (.goto (-19), 3) := by decide +kernel
theorem dX1_lookAtOrders_34 : decode cX1_lookAtOrders 34 = .ok (.return_, 1) := by decide +kernel
theorem dX1_lookAtOrder_0 : decode cX1_lookAtOrder 0 = .ok (.aload_n 0, 1) := by decide +kernel
theorem dX1_lookAtOrder_1 : decode cX1_lookAtOrder 1 = .ok (.getfield 29, 3) := by decide +kernel
theorem dX1_lookAtOrder_4 : decode cX1_lookAtOrder 4 = .ok (.iload_n 1, 1) := by decide +kernel
theorem dX1_lookAtOrder_5 : decode cX1_lookAtOrder 5 = .ok (.iconst 0, 1) := by decide +kernel
theorem dX1_lookAtOrder_6 : decode cX1_lookAtOrder 6 = .ok (.invokevirtual 96, 3) := by decide +kernel
theorem dX1_lookAtOrder_9 : decode cX1_lookAtOrder 9 = .ok (.istore_n 2, 1) := by decide +kernel
theorem dX1_lookAtOrder_10 : decode cX1_lookAtOrder 10 = .ok (.aload_n 0, 1) := by decide +kernel
theorem dX1_lookAtOrder_11 : decode cX1_lookAtOrder 11 = .ok (.getfield 29, 3) := by decide +kernel
theorem dX1_lookAtOrder_14 : decode cX1_lookAtOrder 14 = .ok (.iload_n 1, 1) := by decide +kernel
theorem dX1_lookAtOrder_15 : decode cX1_lookAtOrder 15 = .ok (.iconst 1, 1) := by decide +kernel
theorem dX1_lookAtOrder_16 : decode cX1_lookAtOrder 16 = .ok (.invokevirtual 96, 3) := by decide +kernel
theorem dX1_lookAtOrder_19 : decode cX1_lookAtOrder 19 = .ok (.istore_n 3, 1) := by decide +kernel
theorem dX1_lookAtOrder_20 : decode cX1_lookAtOrder 20 = .ok (.aload_n 0, 1) := by decide +kernel
theorem dX1_lookAtOrder_21 : decode cX1_lookAtOrder 21 = .ok (.getfield 29, 3) := by decide +kernel
theorem dX1_lookAtOrder_24 : decode cX1_lookAtOrder 24 = .ok (.iload_n 1, 1) := by decide +kernel
theorem dX1_lookAtOrder_25 : decode cX1_lookAtOrder 25 = .ok (.iconst 2, 1) := by decide +kernel
theorem dX1_lookAtOrder_26 : decode cX1_lookAtOrder 26 = .ok (.invokevirtual 96, 3) := by decide +kernel
theorem dX1_lookAtOrder_29 : decode cX1_lookAtOrder 29 = .ok (.iconst 1, 1) := by decide +kernel
theorem dX1_lookAtOrder_30 : decode cX1_lookAtOrder 30 = .ok (.isub, 1) := by decide +kernel
theorem dX1_lookAtOrder_31 : decode cX1_lookAtOrder 31 = .ok (.istore 4, 2) := by decide +kernel
theorem dX1_lookAtOrder_33 : decode cX1_lookAtOrder 33 = .ok (.aload_n 0, 1) := by decide +kernel
theorem dX1_lookAtOrder_34 : decode cX1_lookAtOrder 34 = .ok (.iload_n 2, 1) := by decide +kernel
theorem dX1_lookAtOrder_35 : decode cX1_lookAtOrder 35 = .ok (.invokevirtual 92, 3) := by decide +kernel
theorem dX1_lookAtOrder_38 : decode cX1_lookAtOrder 38 = .ok (.iload_n 3, 1) := by decide +kernel
theorem dX1_lookAtOrder_39 : decode cX1_lookAtOrder 39 = .ok (.if_icmp .lt 46, 3) := by decide +kernel
theorem dX1_lookAtOrder_42 : decode cX1_lookAtOrder 42 = .ok (.aload_n 0, 1) := by decide +kernel
theorem dX1_lookAtOrder_43 : decode cX1_lookAtOrder 43 = .ok (.iload_n 2, 1) := by decide +kernel
theorem dX1_lookAtOrder_44 : decode cX1_lookAtOrder 44 = .ok (.iload_n 3, 1) := by decide +kernel
theorem dX1_lookAtOrder_45 : decode cX1_lookAtOrder 45 = .ok (.ineg, 1) := by decide +kernel
theorem dX1_lookAtOrder_46 : decode cX1_lookAtOrder 46 = .ok (.invokevirtual 136, 3) := by decide +kernel
theorem dX1_lookAtOrder_49 : decode cX1_lookAtOrder 49 = .ok (.aload_n 0, 1) := by decide +kernel
theorem dX1_lookAtOrder_50 : decode cX1_lookAtOrder 50 = .ok (.dup, 1) := by decide +kernel
theorem dX1_lookAtOrder_51 : decode cX1_lookAtOrder 51 = .ok (.getfield 46, 3) := by decide +kernel
theorem dX1_lookAtOrder_54 : decode cX1_lookAtOrder 54 = .ok (.aload_n 0, 1) := by decide +kernel
theorem dX1_lookAtOrder_55 : decode cX1_lookAtOrder 55 = .ok (.getfield 29, 3) := by decide +kernel
theorem dX1_lookAtOrder_58 : decode cX1_lookAtOrder 58 = .ok (.iload_n 1, 1) := by decide +kernel
theorem dX1_lookAtOrder_59 : decode cX1_lookAtOrder 59 = .ok (.iconst 3, 1) := by decide +kernel
theorem dX1_lookAtOrder_60 : decode cX1_lookAtOrder 60 = .ok (.invokevirtual 96, 3) := by decide +kernel
theorem dX1_lookAtOrder_63 : decode cX1_lookAtOrder 63 = .ok (.iadd, 1) := by decide +kernel
theorem dX1_lookAtOrder_64 : decode cX1_lookAtOrder 64 = .ok (.putfield 46, 3) := by decide +kernel
theorem dX1_lookAtOrder_67 : decode cX1_lookAtOrder 67 = .ok (.aload_n 0, 1) := by decide +kernel
theorem dX1_lookAtOrder_68 : decode cX1_lookAtOrder 68 = .ok (.dup, 1) := by decide +kernel
theorem dX1_lookAtOrder_69 : decode cX1_lookAtOrder 69 = .ok (.getfield 71, 3) := by decide +kernel
theorem dX1_lookAtOrder_72 : decode cX1_lookAtOrder 72 = .ok (.iconst 1, 1) := by decide +kernel
theorem dX1_lookAtOrder_73 : decode cX1_lookAtOrder 73 = .ok (.iadd, 1) := by decide +kernel
theorem dX1_lookAtOrder_74 : decode cX1_lookAtOrder 74 = .ok (.putfield 71, 3) := by decide +kernel
theorem dX1_lookAtOrder_77 : decode cX1_lookAtOrder 77 = .ok (.aload_n 0, 1) := by decide +kernel
theorem dX1_lookAtOrder_78 : decode cX1_lookAtOrder 78 = .ok (.iload_n 1, 1) := by decide +kernel
theorem dX1_lookAtOrder_79 : decode cX1_lookAtOrder 79 = .ok (.iconst 1, 1) := by decide +kernel
theorem dX1_lookAtOrder_80 : decode cX1_lookAtOrder 80 = .ok (.invokevirtual 179, 3) := by decide +kernel
theorem dX1_lookAtOrder_83 : decode cX1_lookAtOrder 83 = .ok (.iconst 0, 1) := by decide +kernel
theorem dX1_lookAtOrder_84 : decode cX1_lookAtOrder 84 = .ok (.ireturn, 1) := by decide +kernel
theorem dX1_lookAtOrder_85 : decode cX1_lookAtOrder 85 = .ok (.iload 4, 2) := by decide +kernel
theorem dX1_lookAtOrder_87 : decode cX1_lookAtOrder 87 = .ok (.ifCond .ge 21, 3) := by decide +kernel
theorem dX1_lookAtOrder_90 : decode cX1_lookAtOrder 90 = .ok (.aload_n 0, 1) := by decide +kernel
theorem dX1_lookAtOrder_91 : decode cX1_lookAtOrder 91 = .ok (.dup, 1) := by decide +kernel
theorem dX1_lookAtOrder_92 : decode cX1_lookAtOrder 92 = .ok (.getfield 74, 3) := by decide +kernel
theorem dX1_lookAtOrder_95 : decode cX1_lookAtOrder 95 = .ok (.iconst 1, 1) := by decide +kernel
theorem dX1_lookAtOrder_96 : decode cX1_lookAtOrder 96 = .ok (.iadd, 1) := by decide +kernel
theorem dX1_lookAtOrder_97 : decode cX1_lookAtOrder 97 = .ok (.putfield 74, 3) := by decide +kernel
theorem dX1_lookAtOrder_100 : decode cX1_lookAtOrder 100 = .ok (.aload_n 0, 1) := by decide +kernel
theorem dX1_lookAtOrder_101 : decode cX1_lookAtOrder 101 = .ok (.iload_n 1, 1) := by decide +kernel
theorem dX1_lookAtOrder_102 : decode cX1_lookAtOrder 102 = .ok (.iconst 0, 1) := by decide +kernel
theorem dX1_lookAtOrder_103 : decode cX1_lookAtOrder 103 = .ok (.invokevirtual 179, 3) := by decide +kernel
theorem dX1_lookAtOrder_106 : decode cX1_lookAtOrder 106 = .ok (.iconst 0, 1) := by decide +kernel
theorem dX1_lookAtOrder_107 : decode cX1_lookAtOrder 107 = .ok (.ireturn, 1) := by decide +kernel
theorem dX1_lookAtOrder_108 : decode cX1_lookAtOrder 108 = .ok (.aload_n 0, 1) := by decide +kernel
theorem dX1_lookAtOrder_109 : decode cX1_lookAtOrder 109 = .ok (.getfield 29, 3) := by decide +kernel
theorem dX1_lookAtOrder_112 : decode cX1_lookAtOrder 112 = .ok (.iload_n 1, 1) := by decide +kernel
theorem dX1_lookAtOrder_113 : decode cX1_lookAtOrder 113 = .ok (.iconst 2, 1) := by decide +kernel
theorem dX1_lookAtOrder_114 : decode cX1_lookAtOrder 114 = .ok (.iload 4, 2) := by decide +kernel
theorem dX1_lookAtOrder_116 : decode cX1_lookAtOrder 116 = .ok (.invokevirtual 85, 3) := by decide +kernel
theorem dX1_lookAtOrder_119 : decode cX1_lookAtOrder 119 = .ok (.iconst 1, 1) := by decide +kernel
theorem dX1_lookAtOrder_120 : decode cX1_lookAtOrder 120 = .ok (.ireturn, 1) := by decide +kernel
theorem dX1_dismiss_0 : decode cX1_dismiss 0 = .ok (.aload_n 0, 1) := by decide +kernel
theorem dX1_dismiss_1 : decode cX1_dismiss 1 = .ok (.getfield 29, 3) := by decide +kernel
theorem dX1_dismiss_4 : decode cX1_dismiss 4 = .ok (.iload_n 1, 1) := by decide +kernel
theorem dX1_dismiss_5 : decode cX1_dismiss 5 = .ok (.invokevirtual 115, 3) := by decide +kernel
theorem dX1_dismiss_8 : decode cX1_dismiss 8 = .ok (.iload_n 1, 1) := by decide +kernel
theorem dX1_dismiss_9 : decode cX1_dismiss 9 = .ok (.aload_n 0, 1) := by decide +kernel
theorem dX1_dismiss_10 : decode cX1_dismiss 10 = .ok (.getfield 49, 3) := by decide +kernel
theorem dX1_dismiss_13 : decode cX1_dismiss 13 = .ok (.if_icmp .ne 16, 3) := by decide +kernel
theorem dX1_dismiss_16 : decode cX1_dismiss 16 = .ok (.aload_n 0, 1) := by decide +kernel
theorem dX1_dismiss_17 : decode cX1_dismiss 17 = .ok (.iconst (-1), 1) := by decide +kernel
theorem dX1_dismiss_18 : decode cX1_dismiss 18 = .ok (.putfield 49, 3) := by decide +kernel
theorem dX1_dismiss_21 : decode cX1_dismiss 21 = .ok (.aload_n 0, 1) := by decide +kernel
theorem dX1_dismiss_22 : decode cX1_dismiss 22 = .ok (.iload_n 2, 1) := by decide +kernel
theorem dX1_dismiss_23 : decode cX1_dismiss 23 = .ok (.putfield 77, 3) := by decide +kernel
theorem dX1_dismiss_26 : decode cX1_dismiss 26 = .ok (.goto 21, 3) := by decide +kernel
theorem dX1_dismiss_29 : decode cX1_dismiss 29 = .ok (.iload_n 1, 1) := by decide +kernel
theorem dX1_dismiss_30 : decode cX1_dismiss 30 = .ok (.aload_n 0, 1) := by decide +kernel
theorem dX1_dismiss_31 : decode cX1_dismiss 31 = .ok (.getfield 49, 3) := by decide +kernel
theorem dX1_dismiss_34 : decode cX1_dismiss 34 = .ok (.if_icmp .ge 13, 3) := by decide +kernel
theorem dX1_dismiss_37 : decode cX1_dismiss 37 = .ok (.aload_n 0, 1) := by decide +kernel
theorem dX1_dismiss_38 : decode cX1_dismiss 38 = .ok (.dup, 1) := by decide +kernel
theorem dX1_dismiss_39 : decode cX1_dismiss 39 = .ok (.getfield 49, 3) := by decide +kernel
theorem dX1_dismiss_42 : decode cX1_dismiss 42 = .ok (.iconst 1, 1) := by decide +kernel
theorem dX1_dismiss_43 : decode cX1_dismiss 43 = .ok (.isub, 1) := by decide +kernel
theorem dX1_dismiss_44 : decode cX1_dismiss 44 = .ok (.putfield 49, 3) := by decide +kernel
theorem dX1_dismiss_47 : decode cX1_dismiss 47 = .ok (.return_, 1) := by decide +kernel
theorem dX1_daysTillServed_0 : decode cX1_daysTillServed 0 = .ok (.aload_n 0, 1) := by decide +kernel
theorem dX1_daysTillServed_1 : decode cX1_daysTillServed 1 = .ok (.iload_n 1, 1) := by decide +kernel
theorem dX1_daysTillServed_2 : decode cX1_daysTillServed 2 = .ok (.putfield 49, 3) := by decide +kernel
theorem dX1_daysTillServed_5 : decode cX1_daysTillServed 5 = .ok (.iconst 0, 1) := by decide +kernel
theorem dX1_daysTillServed_6 : decode cX1_daysTillServed 6 = .ok (.istore_n 2, 1) := by decide +kernel
theorem dX1_daysTillServed_7 : decode cX1_daysTillServed 7 = .ok (.aload_n 0, 1) := by decide +kernel
theorem dX1_daysTillServed_8 : decode cX1_daysTillServed 8 = .ok (.getfield 49, 3) := by decide +kernel
theorem dX1_daysTillServed_11 : decode cX1_daysTillServed 11 = .ok (.iconst (-1), 1) := by decide +kernel
theorem dX1_daysTillServed_12 : decode cX1_daysTillServed 12 = .ok (.if_icmp .eq 19, 3) := by decide +kernel
theorem dX1_daysTillServed_15 : decode cX1_daysTillServed 15 = .ok (.iload_n 2, 1) := by decide +kernel
theorem dX1_daysTillServed_16 : decode cX1_daysTillServed 16 = .ok (.bipush 30, 2) := by decide +kernel
theorem dX1_daysTillServed_18 : decode cX1_daysTillServed 18 = .ok (.if_icmp .gt 13, 3) := by decide +kernel
theorem dX1_daysTillServed_21 : decode cX1_daysTillServed 21 = .ok (.aload_n 0, 1) := by decide +kernel
theorem dX1_daysTillServed_22 : decode cX1_daysTillServed 22 = .ok (.invokevirtual 140, 3) := by decide +kernel
theorem dX1_daysTillServed_25 : decode cX1_daysTillServed 25 = .ok (.iinc 2 1, 3) := by decide +kernel
theorem dX1_daysTillServed_28 : decode cX1_daysTillServed 28 = .ok (.goto (-21), 3) := by decide +kernel
theorem dX1_daysTillServed_31 : decode cX1_daysTillServed 31 = .ok (.aload_n 0, 1) := by decide +kernel
theorem dX1_daysTillServed_32 : decode cX1_daysTillServed 32 = .ok (.getfield 77, 3) := by decide +kernel
theorem dX1_daysTillServed_35 : decode cX1_daysTillServed 35 = .ok (.ifCond .eq 7, 3) := by decide +kernel
theorem dX1_daysTillServed_38 : decode cX1_daysTillServed 38 = .ok (.iload_n 2, 1) := by decide +kernel
theorem dX1_daysTillServed_39 : decode cX1_daysTillServed 39 = .ok (.goto 4, 3) := by decide +kernel
theorem dX1_daysTillServed_42 : decode cX1_daysTillServed 42 = .ok (.iconst (-1), 1) := by decide +kernel
theorem dX1_daysTillServed_43 : decode cX1_daysTillServed 43 = .ok (.ireturn, 1) := by decide +kernel
theorem dX1_meanFlaw_0 : decode cX1_meanFlaw 0 = .ok (.aload_n 0, 1) := by decide +kernel
theorem dX1_meanFlaw_1 : decode cX1_meanFlaw 1 = .ok (.getfield 23, 3) := by decide +kernel
theorem dX1_meanFlaw_4 : decode cX1_meanFlaw 4 = .ok (.iconst 1, 1) := by decide +kernel
theorem dX1_meanFlaw_5 : decode cX1_meanFlaw 5 = .ok (.invokevirtual 109, 3) := by decide +kernel
theorem dX1_meanFlaw_8 : decode cX1_meanFlaw 8 = .ok (.istore_n 1, 1) := by decide +kernel
theorem dX1_meanFlaw_9 : decode cX1_meanFlaw 9 = .ok (.iload_n 1, 1) := by decide +kernel
theorem dX1_meanFlaw_10 : decode cX1_meanFlaw 10 = .ok (.ifCond .ne 5, 3) := by decide +kernel
theorem dX1_meanFlaw_13 : decode cX1_meanFlaw 13 = .ok (.dconst 0, 1) := by decide +kernel
theorem dX1_meanFlaw_14 : decode cX1_meanFlaw 14 = .ok (.dreturn, 1) := by decide +kernel
theorem dX1_meanFlaw_15 : decode cX1_meanFlaw 15 = .ok (.iconst 0, 1) := by decide +kernel
theorem dX1_meanFlaw_16 : decode cX1_meanFlaw 16 = .ok (.istore_n 2, 1) := by decide +kernel
theorem dX1_meanFlaw_17 : decode cX1_meanFlaw 17 = .ok (.iconst 0, 1) := by decide +kernel
theorem dX1_meanFlaw_18 : decode cX1_meanFlaw 18 = .ok (.istore_n 3, 1) := by decide +kernel
theorem dX1_meanFlaw_19 : decode cX1_meanFlaw 19 = .ok (.iload_n 3, 1) := by decide +kernel
theorem dX1_meanFlaw_20 : decode cX1_meanFlaw 20 = .ok (.aload_n 0, 1) := by decide +kernel
theorem dX1_meanFlaw_21 : decode cX1_meanFlaw 21 = .ok (.getfield 23, 3) := by decide +kernel
theorem dX1_meanFlaw_24 : decode cX1_meanFlaw 24 = .ok (.invokevirtual 89, 3) := by decide +kernel
theorem dX1_meanFlaw_27 : decode cX1_meanFlaw 27 = .ok (.if_icmp .ge 31, 3) := by decide +kernel
theorem dX1_meanFlaw_30 : decode cX1_meanFlaw 30 = .ok (.iload_n 2, 1) := by decide +kernel
theorem dX1_meanFlaw_31 : decode cX1_meanFlaw 31 = .ok (.aload_n 0, 1) := by decide +kernel
theorem dX1_meanFlaw_32 : decode cX1_meanFlaw 32 = .ok (.getfield 23, 3) := by decide +kernel
theorem dX1_meanFlaw_35 : decode cX1_meanFlaw 35 = .ok (.iload_n 3, 1) := by decide +kernel
theorem dX1_meanFlaw_36 : decode cX1_meanFlaw 36 = .ok (.iconst 1, 1) := by decide +kernel
theorem dX1_meanFlaw_37 : decode cX1_meanFlaw 37 = .ok (.invokevirtual 96, 3) := by decide +kernel
theorem dX1_meanFlaw_40 : decode cX1_meanFlaw 40 = .ok (.aload_n 0, 1) := by decide +kernel
theorem dX1_meanFlaw_41 : decode cX1_meanFlaw 41 = .ok (.getfield 23, 3) := by decide +kernel
theorem dX1_meanFlaw_44 : decode cX1_meanFlaw 44 = .ok (.iload_n 3, 1) := by decide +kernel
theorem dX1_meanFlaw_45 : decode cX1_meanFlaw 45 = .ok (.iconst 3, 1) := by decide +kernel
theorem dX1_meanFlaw_46 : decode cX1_meanFlaw 46 = .ok (.invokevirtual 96, 3) := by decide +kernel
theorem dX1_meanFlaw_49 : decode cX1_meanFlaw 49 = .ok (.imul, 1) := by decide +kernel
theorem dX1_meanFlaw_50 : decode cX1_meanFlaw 50 = .ok (.iadd, 1) := by decide +kernel
theorem dX1_meanFlaw_51 : decode cX1_meanFlaw 51 = .ok (.istore_n 2, 1) := by decide +kernel
theorem dX1_meanFlaw_52 : decode cX1_meanFlaw 52 = .ok (.iinc 3 1, 3) := by decide +kernel
theorem dX1_meanFlaw_55 : decode cX1_meanFlaw 55 = .ok (.goto (-36), 3) := by decide +kernel
theorem dX1_meanFlaw_58 : decode cX1_meanFlaw 58 = .ok (.iload_n 2, 1) := by decide +kernel
theorem dX1_meanFlaw_59 : decode cX1_meanFlaw 59 = .ok (.i2d, 1) := by decide +kernel
theorem dX1_meanFlaw_60 : decode cX1_meanFlaw 60 = .ok (.iload_n 1, 1) := by decide +kernel
theorem dX1_meanFlaw_61 : decode cX1_meanFlaw 61 = .ok (.i2d, 1) := by decide +kernel
theorem dX1_meanFlaw_62 : decode cX1_meanFlaw 62 = .ok (.ddiv, 1) := by decide +kernel
theorem dX1_meanFlaw_63 : decode cX1_meanFlaw 63 = .ok (.dreturn, 1) := by decide +kernel
theorem dX1_checksum_0 : decode cX1_checksum 0 = .ok (.ldc2_w 183, 3) := by decide +kernel
theorem dX1_checksum_3 : decode cX1_checksum 3 = .ok (.lstore_n 1, 1) := by decide +kernel
theorem dX1_checksum_4 : decode cX1_checksum 4 = .ok (.iconst 0, 1) := by decide +kernel
theorem dX1_checksum_5 : decode cX1_checksum 5 = .ok (.istore_n 3, 1) := by decide +kernel
theorem dX1_checksum_6 : decode cX1_checksum 6 = .ok (.iload_n 3, 1) := by decide +kernel
theorem dX1_checksum_7 : decode cX1_checksum 7 = .ok (.bipush 11, 2) := by decide +kernel
theorem dX1_checksum_9 : decode cX1_checksum 9 = .ok (.if_icmp .gt 22, 3) := by decide +kernel
theorem dX1_checksum_12 : decode cX1_checksum 12 = .ok (.lload_n 1, 1) := by decide +kernel
theorem dX1_checksum_13 : decode cX1_checksum 13 = .ok (.ldc2_w 185, 3) := by decide +kernel
theorem dX1_checksum_16 : decode cX1_checksum 16 = .ok (.lmul, 1) := by decide +kernel
theorem dX1_checksum_17 : decode cX1_checksum 17 = .ok (.aload_n 0, 1) := by decide +kernel
theorem dX1_checksum_18 : decode cX1_checksum 18 = .ok (.iload_n 3, 1) := by decide +kernel
theorem dX1_checksum_19 : decode cX1_checksum 19 = .ok (.invokevirtual 187, 3) := by decide +kernel
theorem dX1_checksum_22 : decode cX1_checksum 22 = .ok (.i2l, 1) := by decide +kernel
theorem dX1_checksum_23 : decode cX1_checksum 23 = .ok (.ladd, 1) := by decide +kernel
theorem dX1_checksum_24 : decode cX1_checksum 24 = .ok (.lstore_n 1, 1) := by decide +kernel
theorem dX1_checksum_25 : decode cX1_checksum 25 = .ok (.iinc 3 1, 3) := by decide +kernel
theorem dX1_checksum_28 : decode cX1_checksum 28 = .ok (.goto (-22), 3) := by decide +kernel
theorem dX1_checksum_31 : decode cX1_checksum 31 = .ok (.iconst 0, 1) := by decide +kernel
theorem dX1_checksum_32 : decode cX1_checksum 32 = .ok (.istore_n 3, 1) := by decide +kernel
theorem dX1_checksum_33 : decode cX1_checksum 33 = .ok (.iload_n 3, 1) := by decide +kernel
theorem dX1_checksum_34 : decode cX1_checksum 34 = .ok (.bipush 7, 2) := by decide +kernel
theorem dX1_checksum_36 : decode cX1_checksum 36 = .ok (.if_icmp .ge 22, 3) := by decide +kernel
theorem dX1_checksum_39 : decode cX1_checksum 39 = .ok (.lload_n 1, 1) := by decide +kernel
theorem dX1_checksum_40 : decode cX1_checksum 40 = .ok (.ldc2_w 185, 3) := by decide +kernel
theorem dX1_checksum_43 : decode cX1_checksum 43 = .ok (.lmul, 1) := by decide +kernel
theorem dX1_checksum_44 : decode cX1_checksum 44 = .ok (.aload_n 0, 1) := by decide +kernel
theorem dX1_checksum_45 : decode cX1_checksum 45 = .ok (.iload_n 3, 1) := by decide +kernel
theorem dX1_checksum_46 : decode cX1_checksum 46 = .ok (.invokevirtual 149, 3) := by decide +kernel
theorem dX1_checksum_49 : decode cX1_checksum 49 = .ok (.i2l, 1) := by decide +kernel
theorem dX1_checksum_50 : decode cX1_checksum 50 = .ok (.ladd, 1) := by decide +kernel
theorem dX1_checksum_51 : decode cX1_checksum 51 = .ok (.lstore_n 1, 1) := by decide +kernel
theorem dX1_checksum_52 : decode cX1_checksum 52 = .ok (.iinc 3 1, 3) := by decide +kernel
theorem dX1_checksum_55 : decode cX1_checksum 55 = .ok (.goto (-22), 3) := by decide +kernel
theorem dX1_checksum_58 : decode cX1_checksum 58 = .ok (.aload_n 0, 1) := by decide +kernel
theorem dX1_checksum_59 : decode cX1_checksum 59 = .ok (.lload_n 1, 1) := by decide +kernel
theorem dX1_checksum_60 : decode cX1_checksum 60 = .ok (.invokevirtual 190, 3) := by decide +kernel
theorem dX1_checksum_63 : decode cX1_checksum 63 = .ok (.lstore_n 1, 1) := by decide +kernel
theorem dX1_checksum_64 : decode cX1_checksum 64 = .ok (.lload_n 1, 1) := by decide +kernel
theorem dX1_checksum_65 : decode cX1_checksum 65 = .ok (.aload_n 0, 1) := by decide +kernel
theorem dX1_checksum_66 : decode cX1_checksum 66 = .ok (.getfield 20, 3) := by decide +kernel
theorem dX1_checksum_69 : decode cX1_checksum 69 = .ok (.invokestatic 194, 3) := by decide +kernel
theorem dX1_checksum_72 : decode cX1_checksum 72 = .ok (.lstore_n 1, 1) := by decide +kernel
theorem dX1_checksum_73 : decode cX1_checksum 73 = .ok (.lload_n 1, 1) := by decide +kernel
theorem dX1_checksum_74 : decode cX1_checksum 74 = .ok (.aload_n 0, 1) := by decide +kernel
theorem dX1_checksum_75 : decode cX1_checksum 75 = .ok (.getfield 23, 3) := by decide +kernel
theorem dX1_checksum_78 : decode cX1_checksum 78 = .ok (.invokestatic 194, 3) := by decide +kernel
theorem dX1_checksum_81 : decode cX1_checksum 81 = .ok (.lstore_n 1, 1) := by decide +kernel
theorem dX1_checksum_82 : decode cX1_checksum 82 = .ok (.lload_n 1, 1) := by decide +kernel
theorem dX1_checksum_83 : decode cX1_checksum 83 = .ok (.aload_n 0, 1) := by decide +kernel
theorem dX1_checksum_84 : decode cX1_checksum 84 = .ok (.getfield 26, 3) := by decide +kernel
theorem dX1_checksum_87 : decode cX1_checksum 87 = .ok (.invokestatic 194, 3) := by decide +kernel
theorem dX1_checksum_90 : decode cX1_checksum 90 = .ok (.lstore_n 1, 1) := by decide +kernel
theorem dX1_checksum_91 : decode cX1_checksum 91 = .ok (.iconst 4, 1) := by decide +kernel
theorem dX1_checksum_92 : decode cX1_checksum 92 = .ok (.istore_n 3, 1) := by decide +kernel
theorem dX1_checksum_93 : decode cX1_checksum 93 = .ok (.iload_n 3, 1) := by decide +kernel
theorem dX1_checksum_94 : decode cX1_checksum 94 = .ok (.bipush 24, 2) := by decide +kernel
theorem dX1_checksum_96 : decode cX1_checksum 96 = .ok (.if_icmp .gt 22, 3) := by decide +kernel
theorem dX1_checksum_99 : decode cX1_checksum 99 = .ok (.lload_n 1, 1) := by decide +kernel
theorem dX1_checksum_100 : decode cX1_checksum 100 = .ok (.ldc2_w 185, 3) := by decide +kernel
theorem dX1_checksum_103 : decode cX1_checksum 103 = .ok (.lmul, 1) := by decide +kernel
theorem dX1_checksum_104 : decode cX1_checksum 104 = .ok (.aload_n 0, 1) := by decide +kernel
theorem dX1_checksum_105 : decode cX1_checksum 105 = .ok (.iload_n 3, 1) := by decide +kernel
theorem dX1_checksum_106 : decode cX1_checksum 106 = .ok (.invokevirtual 92, 3) := by decide +kernel
theorem dX1_checksum_109 : decode cX1_checksum 109 = .ok (.i2l, 1) := by decide +kernel
theorem dX1_checksum_110 : decode cX1_checksum 110 = .ok (.ladd, 1) := by decide +kernel
theorem dX1_checksum_111 : decode cX1_checksum 111 = .ok (.lstore_n 1, 1) := by decide +kernel
theorem dX1_checksum_112 : decode cX1_checksum 112 = .ok (.iinc 3 1, 3) := by decide +kernel
theorem dX1_checksum_115 : decode cX1_checksum 115 = .ok (.goto (-22), 3) := by decide +kernel
theorem dX1_checksum_118 : decode cX1_checksum 118 = .ok (.lload_n 1, 1) := by decide +kernel
theorem dX1_checksum_119 : decode cX1_checksum 119 = .ok (.aload_n 0, 1) := by decide +kernel
theorem dX1_checksum_120 : decode cX1_checksum 120 = .ok (.getfield 29, 3) := by decide +kernel
theorem dX1_checksum_123 : decode cX1_checksum 123 = .ok (.invokestatic 194, 3) := by decide +kernel
theorem dX1_checksum_126 : decode cX1_checksum 126 = .ok (.lreturn, 1) := by decide +kernel
theorem dX1_withMoulds_0 : decode cX1_withMoulds 0 = .ok (.lload_n 1, 1) := by decide +kernel
theorem dX1_withMoulds_1 : decode cX1_withMoulds 1 = .ok (.lstore_n 3, 1) := by decide +kernel
theorem dX1_withMoulds_2 : decode cX1_withMoulds 2 = .ok (.iconst 0, 1) := by decide +kernel
theorem dX1_withMoulds_3 : decode cX1_withMoulds 3 = .ok (.istore 5, 2) := by decide +kernel
theorem dX1_withMoulds_5 : decode cX1_withMoulds 5 = .ok (.iload 5, 2) := by decide +kernel
theorem dX1_withMoulds_7 : decode cX1_withMoulds 7 = .ok (.aload_n 0, 1) := by decide +kernel
theorem dX1_withMoulds_8 : decode cX1_withMoulds 8 = .ok (.getfield 14, 3) := by decide +kernel
theorem dX1_withMoulds_11 : decode cX1_withMoulds 11 = .ok (.invokevirtual 89, 3) := by decide +kernel
theorem dX1_withMoulds_14 : decode cX1_withMoulds 14 = .ok (.if_icmp .ge 40, 3) := by decide +kernel
theorem dX1_withMoulds_17 : decode cX1_withMoulds 17 = .ok (.iconst 0, 1) := by decide +kernel
theorem dX1_withMoulds_18 : decode cX1_withMoulds 18 = .ok (.istore 6, 2) := by decide +kernel
theorem dX1_withMoulds_20 : decode cX1_withMoulds 20 = .ok (.iload 6, 2) := by decide +kernel
theorem dX1_withMoulds_22 : decode cX1_withMoulds 22 = .ok (.iconst 5, 1) := by decide +kernel
theorem dX1_withMoulds_23 : decode cX1_withMoulds 23 = .ok (.if_icmp .gt 25, 3) := by decide +kernel
theorem dX1_withMoulds_26 : decode cX1_withMoulds 26 = .ok (.lload_n 3, 1) := by decide +kernel
theorem dX1_withMoulds_27 : decode cX1_withMoulds 27 = .ok (.ldc2_w 185, 3) := by decide +kernel
theorem dX1_withMoulds_30 : decode cX1_withMoulds 30 = .ok (.lmul, 1) := by decide +kernel
theorem dX1_withMoulds_31 : decode cX1_withMoulds 31 = .ok (.aload_n 0, 1) := by decide +kernel
theorem dX1_withMoulds_32 : decode cX1_withMoulds 32 = .ok (.iload 5, 2) := by decide +kernel
theorem dX1_withMoulds_34 : decode cX1_withMoulds 34 = .ok (.iload 6, 2) := by decide +kernel
theorem dX1_withMoulds_36 : decode cX1_withMoulds 36 = .ok (.invokevirtual 198, 3) := by decide +kernel
theorem dX1_withMoulds_39 : decode cX1_withMoulds 39 = .ok (.i2l, 1) := by decide +kernel
theorem dX1_withMoulds_40 : decode cX1_withMoulds 40 = .ok (.ladd, 1) := by decide +kernel
theorem dX1_withMoulds_41 : decode cX1_withMoulds 41 = .ok (.lstore_n 3, 1) := by decide +kernel
theorem dX1_withMoulds_42 : decode cX1_withMoulds 42 = .ok (.iinc 6 1, 3) := by decide +kernel
theorem dX1_withMoulds_45 : decode cX1_withMoulds 45 = .ok (.goto (-25), 3) := by decide +kernel
theorem dX1_withMoulds_48 : decode cX1_withMoulds 48 = .ok (.iinc 5 1, 3) := by decide +kernel
theorem dX1_withMoulds_51 : decode cX1_withMoulds 51 = .ok (.goto (-46), 3) := by decide +kernel
theorem dX1_withMoulds_54 : decode cX1_withMoulds 54 = .ok (.lload_n 3, 1) := by decide +kernel
theorem dX1_withMoulds_55 : decode cX1_withMoulds 55 = .ok (.lreturn, 1) := by decide +kernel
theorem dX1_withTable_0 : decode cX1_withTable 0 = .ok (.lload_n 0, 1) := by decide +kernel
theorem dX1_withTable_1 : decode cX1_withTable 1 = .ok (.lstore_n 3, 1) := by decide +kernel
theorem dX1_withTable_2 : decode cX1_withTable 2 = .ok (.iconst 0, 1) := by decide +kernel
theorem dX1_withTable_3 : decode cX1_withTable 3 = .ok (.istore 5, 2) := by decide +kernel
theorem dX1_withTable_5 : decode cX1_withTable 5 = .ok (.iload 5, 2) := by decide +kernel
theorem dX1_withTable_7 : decode cX1_withTable 7 = .ok (.aload_n 2, 1) := by decide +kernel
theorem dX1_withTable_8 : decode cX1_withTable 8 = .ok (.invokevirtual 89, 3) := by decide +kernel
theorem dX1_withTable_11 : decode cX1_withTable 11 = .ok (.if_icmp .ge 43, 3) := by decide +kernel
theorem dX1_withTable_14 : decode cX1_withTable 14 = .ok (.iconst 0, 1) := by decide +kernel
theorem dX1_withTable_15 : decode cX1_withTable 15 = .ok (.istore 6, 2) := by decide +kernel
theorem dX1_withTable_17 : decode cX1_withTable 17 = .ok (.iload 6, 2) := by decide +kernel
theorem dX1_withTable_19 : decode cX1_withTable 19 = .ok (.aload_n 2, 1) := by decide +kernel
theorem dX1_withTable_20 : decode cX1_withTable 20 = .ok (.invokevirtual 201, 3) := by decide +kernel
theorem dX1_withTable_23 : decode cX1_withTable 23 = .ok (.if_icmp .ge 25, 3) := by decide +kernel
theorem dX1_withTable_26 : decode cX1_withTable 26 = .ok (.lload_n 3, 1) := by decide +kernel
theorem dX1_withTable_27 : decode cX1_withTable 27 = .ok (.ldc2_w 185, 3) := by decide +kernel
theorem dX1_withTable_30 : decode cX1_withTable 30 = .ok (.lmul, 1) := by decide +kernel
theorem dX1_withTable_31 : decode cX1_withTable 31 = .ok (.aload_n 2, 1) := by decide +kernel
theorem dX1_withTable_32 : decode cX1_withTable 32 = .ok (.iload 5, 2) := by decide +kernel
theorem dX1_withTable_34 : decode cX1_withTable 34 = .ok (.iload 6, 2) := by decide +kernel
theorem dX1_withTable_36 : decode cX1_withTable 36 = .ok (.invokevirtual 96, 3) := by decide +kernel
theorem dX1_withTable_39 : decode cX1_withTable 39 = .ok (.i2l, 1) := by decide +kernel
theorem dX1_withTable_40 : decode cX1_withTable 40 = .ok (.ladd, 1) := by decide +kernel
theorem dX1_withTable_41 : decode cX1_withTable 41 = .ok (.lstore_n 3, 1) := by decide +kernel
theorem dX1_withTable_42 : decode cX1_withTable 42 = .ok (.iinc 6 1, 3) := by decide +kernel
theorem dX1_withTable_45 : decode cX1_withTable 45 = .ok (.goto (-28), 3) := by decide +kernel
theorem dX1_withTable_48 : decode cX1_withTable 48 = .ok (.iinc 5 1, 3) := by decide +kernel
theorem dX1_withTable_51 : decode cX1_withTable 51 = .ok (.goto (-46), 3) := by decide +kernel
theorem dX1_withTable_54 : decode cX1_withTable 54 = .ok (.lload_n 3, 1) := by decide +kernel
theorem dX1_withTable_55 : decode cX1_withTable 55 = .ok (.lreturn, 1) := by decide +kernel
end
section
theorem dX3_init_0 : decode cX3_init 0 = .ok (.aload_n 0, 1) := by decide +kernel
theorem dX3_init_1 : decode cX3_init 1 = .ok (.aload_n 1, 1) := by decide +kernel
theorem dX3_init_2 : decode cX3_init 2 = .ok (.putfield 3, 3) := by decide +kernel
theorem dX3_init_5 : decode cX3_init 5 = .ok (.aload_n 0, 1) := by decide +kernel
theorem dX3_init_6 : decode cX3_init 6 = .ok (.invokespecial 9, 3) := by decide +kernel
theorem dX3_init_9 : decode cX3_init 9 = .ok (.aload_n 0, 1) := by decide +kernel
theorem dX3_init_10 : decode cX3_init 10 = .ok (.sipush 200, 3) := by decide +kernel
theorem dX3_init_13 : decode cX3_init 13 = .ok (.putfield 15, 3) := by decide +kernel
theorem dX3_init_16 : decode cX3_init 16 = .ok (.aload_n 0, 1) := by decide +kernel
theorem dX3_init_17 : decode cX3_init 17 = .ok (.bipush 20, 2) := by decide +kernel
theorem dX3_init_19 : decode cX3_init 19 = .ok (.putfield 19, 3) := by decide +kernel
theorem dX3_init_22 : decode cX3_init 22 = .ok (.aload_n 0, 1) := by decide +kernel
theorem dX3_init_23 : decode cX3_init 23 = .ok (.bipush 30, 2) := by decide +kernel
theorem dX3_init_25 : decode cX3_init 25 = .ok (.putfield 22, 3) := by decide +kernel
theorem dX3_init_28 : decode cX3_init 28 = .ok (.aload_n 0, 1) := by decide +kernel
theorem dX3_init_29 : decode cX3_init 29 = .ok (.bipush 6, 2) := by decide +kernel
theorem dX3_init_31 : decode cX3_init 31 = .ok (.newarray .int, 2) := by decide +kernel
theorem dX3_init_33 : decode cX3_init 33 = .ok (.putfield 25, 3) := by decide +kernel
theorem dX3_init_36 : decode cX3_init 36 = .ok (.aload_n 0, 1) := by decide +kernel
theorem dX3_init_37 : decode cX3_init 37 = .ok (.bipush 6, 2) := by decide +kernel
theorem dX3_init_39 : decode cX3_init 39 = .ok (.newarray .int, 2) := by decide +kernel
theorem dX3_init_41 : decode cX3_init 41 = .ok (.putfield 29, 3) := by decide +kernel
theorem dX3_init_44 : decode cX3_init 44 = .ok (.aload_n 0, 1) := by decide +kernel
theorem dX3_init_45 : decode cX3_init 45 = .ok (.bipush 16, 2) := by decide +kernel
theorem dX3_init_47 : decode cX3_init 47 = .ok (.iconst 4, 1) := by decide +kernel
theorem dX3_init_48 : decode cX3_init 48 = .ok (.multianewarray 32 2, 4) := by decide +kernel
theorem dX3_init_52 : decode cX3_init 52 = .ok (.putfield 34, 3) := by decide +kernel
theorem dX3_init_55 : decode cX3_init 55 = .ok (.aload_n 0, 1) := by decide +kernel
theorem dX3_init_56 : decode cX3_init 56 = .ok (.bipush 25, 2) := by decide +kernel
theorem dX3_init_58 : decode cX3_init 58 = .ok (.newarray .int, 2) := by decide +kernel
theorem dX3_init_60 : decode cX3_init 60 = .ok (.putfield 37, 3) := by decide +kernel
theorem dX3_init_63 : decode cX3_init 63 = .ok (.aload_n 0, 1) := by decide +kernel
theorem dX3_init_64 : decode cX3_init 64 = .ok (.bipush 8, 2) := by decide +kernel
theorem dX3_init_66 : decode cX3_init 66 = .ok (.iconst 5, 1) := by decide +kernel
theorem dX3_init_67 : decode cX3_init 67 = .ok (.multianewarray 32 2, 4) := by decide +kernel
theorem dX3_init_71 : decode cX3_init 71 = .ok (.putfield 40, 3) := by decide +kernel
theorem dX3_init_74 : decode cX3_init 74 = .ok (.aload_n 0, 1) := by decide +kernel
theorem dX3_init_75 : decode cX3_init 75 = .ok (.iconst (-1), 1) := by decide +kernel
theorem dX3_init_76 : decode cX3_init 76 = .ok (.putfield 43, 3) := by decide +kernel
theorem dX3_init_79 : decode cX3_init 79 = .ok (.return_, 1) := by decide +kernel
theorem dX3_become_0 : decode cX3_become 0 = .ok (.aload_n 0, 1) := by decide +kernel
theorem dX3_become_1 : decode cX3_become 1 = .ok (.aload_n 1, 1) := by decide +kernel
theorem dX3_become_2 : decode cX3_become 2 = .ok (.getfield 46, 3) := by decide +kernel
theorem dX3_become_5 : decode cX3_become 5 = .ok (.putfield 46, 3) := by decide +kernel
theorem dX3_become_8 : decode cX3_become 8 = .ok (.aload_n 0, 1) := by decide +kernel
theorem dX3_become_9 : decode cX3_become 9 = .ok (.aload_n 1, 1) := by decide +kernel
theorem dX3_become_10 : decode cX3_become 10 = .ok (.getfield 15, 3) := by decide +kernel
theorem dX3_become_13 : decode cX3_become 13 = .ok (.putfield 15, 3) := by decide +kernel
theorem dX3_become_16 : decode cX3_become 16 = .ok (.aload_n 0, 1) := by decide +kernel
theorem dX3_become_17 : decode cX3_become 17 = .ok (.aload_n 1, 1) := by decide +kernel
theorem dX3_become_18 : decode cX3_become 18 = .ok (.getfield 19, 3) := by decide +kernel
theorem dX3_become_21 : decode cX3_become 21 = .ok (.putfield 19, 3) := by decide +kernel
theorem dX3_become_24 : decode cX3_become 24 = .ok (.aload_n 0, 1) := by decide +kernel
theorem dX3_become_25 : decode cX3_become 25 = .ok (.aload_n 1, 1) := by decide +kernel
theorem dX3_become_26 : decode cX3_become 26 = .ok (.getfield 22, 3) := by decide +kernel
theorem dX3_become_29 : decode cX3_become 29 = .ok (.putfield 22, 3) := by decide +kernel
theorem dX3_become_32 : decode cX3_become 32 = .ok (.aload_n 0, 1) := by decide +kernel
theorem dX3_become_33 : decode cX3_become 33 = .ok (.aload_n 1, 1) := by decide +kernel
theorem dX3_become_34 : decode cX3_become 34 = .ok (.getfield 49, 3) := by decide +kernel
theorem dX3_become_37 : decode cX3_become 37 = .ok (.putfield 49, 3) := by decide +kernel
theorem dX3_become_40 : decode cX3_become 40 = .ok (.aload_n 0, 1) := by decide +kernel
theorem dX3_become_41 : decode cX3_become 41 = .ok (.aload_n 1, 1) := by decide +kernel
theorem dX3_become_42 : decode cX3_become 42 = .ok (.getfield 52, 3) := by decide +kernel
theorem dX3_become_45 : decode cX3_become 45 = .ok (.putfield 52, 3) := by decide +kernel
theorem dX3_become_48 : decode cX3_become 48 = .ok (.aload_n 0, 1) := by decide +kernel
theorem dX3_become_49 : decode cX3_become 49 = .ok (.aload_n 1, 1) := by decide +kernel
theorem dX3_become_50 : decode cX3_become 50 = .ok (.getfield 55, 3) := by decide +kernel
theorem dX3_become_53 : decode cX3_become 53 = .ok (.putfield 55, 3) := by decide +kernel
theorem dX3_become_56 : decode cX3_become 56 = .ok (.aload_n 0, 1) := by decide +kernel
theorem dX3_become_57 : decode cX3_become 57 = .ok (.aload_n 1, 1) := by decide +kernel
theorem dX3_become_58 : decode cX3_become 58 = .ok (.getfield 58, 3) := by decide +kernel
theorem dX3_become_61 : decode cX3_become 61 = .ok (.putfield 58, 3) := by decide +kernel
theorem dX3_become_64 : decode cX3_become 64 = .ok (.aload_n 0, 1) := by decide +kernel
theorem dX3_become_65 : decode cX3_become 65 = .ok (.aload_n 1, 1) := by decide +kernel
theorem dX3_become_66 : decode cX3_become 66 = .ok (.getfield 61, 3) := by decide +kernel
theorem dX3_become_69 : decode cX3_become 69 = .ok (.putfield 61, 3) := by decide +kernel
theorem dX3_become_72 : decode cX3_become 72 = .ok (.aload_n 0, 1) := by decide +kernel
theorem dX3_become_73 : decode cX3_become 73 = .ok (.aload_n 1, 1) := by decide +kernel
theorem dX3_become_74 : decode cX3_become 74 = .ok (.getfield 64, 3) := by decide +kernel
theorem dX3_become_77 : decode cX3_become 77 = .ok (.putfield 64, 3) := by decide +kernel
theorem dX3_become_80 : decode cX3_become 80 = .ok (.aload_n 0, 1) := by decide +kernel
theorem dX3_become_81 : decode cX3_become 81 = .ok (.iconst (-1), 1) := by decide +kernel
theorem dX3_become_82 : decode cX3_become 82 = .ok (.putfield 43, 3) := by decide +kernel
theorem dX3_become_85 : decode cX3_become 85 = .ok (.aload_n 0, 1) := by decide +kernel
theorem dX3_become_86 : decode cX3_become 86 = .ok (.iconst 0, 1) := by decide +kernel
theorem dX3_become_87 : decode cX3_become 87 = .ok (.putfield 67, 3) := by decide +kernel
theorem dX3_become_90 : decode cX3_become 90 = .ok (.aload_n 1, 1) := by decide +kernel
theorem dX3_become_91 : decode cX3_become 91 = .ok (.getfield 25, 3) := by decide +kernel
theorem dX3_become_94 : decode cX3_become 94 = .ok (.iconst 0, 1) := by decide +kernel
theorem dX3_become_95 : decode cX3_become 95 = .ok (.aload_n 0, 1) := by decide +kernel
theorem dX3_become_96 : decode cX3_become 96 = .ok (.getfield 25, 3) := by decide +kernel
theorem dX3_become_99 : decode cX3_become 99 = .ok (.iconst 0, 1) := by decide +kernel
theorem dX3_become_100 : decode cX3_become 100 = .ok (.bipush 6, 2) := by decide +kernel
theorem dX3_become_102 : decode cX3_become 102 = .ok (.invokestatic 70, 3) := by decide +kernel
theorem dX3_become_105 : decode cX3_become 105 = .ok (.aload_n 1, 1) := by decide +kernel
theorem dX3_become_106 : decode cX3_become 106 = .ok (.getfield 29, 3) := by decide +kernel
theorem dX3_become_109 : decode cX3_become 109 = .ok (.iconst 0, 1) := by decide +kernel
theorem dX3_become_110 : decode cX3_become 110 = .ok (.aload_n 0, 1) := by decide +kernel
theorem dX3_become_111 : decode cX3_become 111 = .ok (.getfield 29, 3) := by decide +kernel
theorem dX3_become_114 : decode cX3_become 114 = .ok (.iconst 0, 1) := by decide +kernel
theorem dX3_become_115 : decode cX3_become 115 = .ok (.bipush 6, 2) := by decide +kernel
theorem dX3_become_117 : decode cX3_become 117 = .ok (.invokestatic 70, 3) := by decide +kernel
theorem dX3_become_120 : decode cX3_become 120 = .ok (.iconst 0, 1) := by decide +kernel
theorem dX3_become_121 : decode cX3_become 121 = .ok (.istore_n 2, 1) := by decide +kernel
theorem dX3_become_122 : decode cX3_become 122 = .ok (.iload_n 2, 1) := by decide +kernel
theorem dX3_become_123 : decode cX3_become 123 = .ok (.aload_n 0, 1) := by decide +kernel
theorem dX3_become_124 : decode cX3_become 124 = .ok (.getfield 34, 3) := by decide +kernel
theorem dX3_become_127 : decode cX3_become 127 = .ok (.arraylength, 1) := by decide +kernel
theorem dX3_become_128 : decode cX3_become 128 = .ok (.if_icmp .ge 27, 3) := by decide +kernel
theorem dX3_become_131 : decode cX3_become 131 = .ok (.aload_n 1, 1) := by decide +kernel
theorem dX3_become_132 : decode cX3_become 132 = .ok (.getfield 34, 3) := by decide +kernel
theorem dX3_become_135 : decode cX3_become 135 = .ok (.iload_n 2, 1) := by decide +kernel
theorem dX3_become_136 : decode cX3_become 136 = .ok (.aaload, 1) := by decide +kernel
theorem dX3_become_137 : decode cX3_become 137 = .ok (.iconst 0, 1) := by decide +kernel
theorem dX3_become_138 : decode cX3_become 138 = .ok (.aload_n 0, 1) := by decide +kernel
theorem dX3_become_139 : decode cX3_become 139 = .ok (.getfield 34, 3) := by decide +kernel
theorem dX3_become_142 : decode cX3_become 142 = .ok (.iload_n 2, 1) := by decide +kernel
theorem dX3_become_143 : decode cX3_become 143 = .ok (.aaload, 1) := by decide +kernel
theorem dX3_become_144 : decode cX3_become 144 = .ok (.iconst 0, 1) := by decide +kernel
theorem dX3_become_145 : decode cX3_become 145 = .ok (.iconst 4, 1) := by decide +kernel
theorem dX3_become_146 : decode cX3_become 146 = .ok (.invokestatic 70, 3) := by decide +kernel
theorem dX3_become_149 : decode cX3_become 149 = .ok (.iinc 2 1, 3) := by decide +kernel
theorem dX3_become_152 : decode cX3_become 152 = .ok (.goto (-30), 3) := by decide +kernel
theorem dX3_become_155 : decode cX3_become 155 = .ok (.aload_n 1, 1) := by decide +kernel
theorem dX3_become_156 : decode cX3_become 156 = .ok (.getfield 37, 3) := by decide +kernel
theorem dX3_become_159 : decode cX3_become 159 = .ok (.iconst 0, 1) := by decide +kernel
theorem dX3_become_160 : decode cX3_become 160 = .ok (.aload_n 0, 1) := by decide +kernel
theorem dX3_become_161 : decode cX3_become 161 = .ok (.getfield 37, 3) := by decide +kernel
theorem dX3_become_164 : decode cX3_become 164 = .ok (.iconst 0, 1) := by decide +kernel
theorem dX3_become_165 : decode cX3_become 165 = .ok (.aload_n 0, 1) := by decide +kernel
theorem dX3_become_166 : decode cX3_become 166 = .ok (.getfield 37, 3) := by decide +kernel
theorem dX3_become_169 : decode cX3_become 169 = .ok (.arraylength, 1) := by decide +kernel
theorem dX3_become_170 : decode cX3_become 170 = .ok (.invokestatic 70, 3) := by decide +kernel
theorem dX3_become_173 : decode cX3_become 173 = .ok (.iconst 0, 1) := by decide +kernel
theorem dX3_become_174 : decode cX3_become 174 = .ok (.istore_n 2, 1) := by decide +kernel
theorem dX3_become_175 : decode cX3_become 175 = .ok (.iload_n 2, 1) := by decide +kernel
theorem dX3_become_176 : decode cX3_become 176 = .ok (.bipush 8, 2) := by decide +kernel
theorem dX3_become_178 : decode cX3_become 178 = .ok (.if_icmp .ge 36, 3) := by decide +kernel
theorem dX3_become_181 : decode cX3_become 181 = .ok (.aload_n 1, 1) := by decide +kernel
theorem dX3_become_182 : decode cX3_become 182 = .ok (.getfield 40, 3) := by decide +kernel
theorem dX3_become_185 : decode cX3_become 185 = .ok (.iload_n 2, 1) := by decide +kernel
theorem dX3_become_186 : decode cX3_become 186 = .ok (.aaload, 1) := by decide +kernel
theorem dX3_become_187 : decode cX3_become 187 = .ok (.iconst 0, 1) := by decide +kernel
theorem dX3_become_188 : decode cX3_become 188 = .ok (.aload_n 0, 1) := by decide +kernel
theorem dX3_become_189 : decode cX3_become 189 = .ok (.getfield 40, 3) := by decide +kernel
theorem dX3_become_192 : decode cX3_become 192 = .ok (.iload_n 2, 1) := by decide +kernel
theorem dX3_become_193 : decode cX3_become 193 = .ok (.aaload, 1) := by decide +kernel
theorem dX3_become_194 : decode cX3_become 194 = .ok (.iconst 0, 1) := by decide +kernel
theorem dX3_become_195 : decode cX3_become 195 = .ok (.iconst 5, 1) := by decide +kernel
theorem dX3_become_196 : decode cX3_become 196 = .ok (.invokestatic 70, 3) := by decide +kernel
theorem dX3_become_199 : decode cX3_become 199 = .ok (.aload_n 0, 1) := by decide +kernel
theorem dX3_become_200 : decode cX3_become 200 = .ok (.getfield 40, 3) := by decide +kernel
theorem dX3_become_203 : decode cX3_become 203 = .ok (.iload_n 2, 1) := by decide +kernel
theorem dX3_become_204 : decode cX3_become 204 = .ok (.aaload, 1) := by decide +kernel
theorem dX3_become_205 : decode cX3_become 205 = .ok (.iconst 4, 1) := by decide +kernel
theorem dX3_become_206 : decode cX3_become 206 = .ok (.iload_n 2, 1) := by decide +kernel
theorem dX3_become_207 : decode cX3_become 207 = .ok (.iastore, 1) := by decide +kernel
theorem dX3_become_208 : decode cX3_become 208 = .ok (.iinc 2 1, 3) := by decide +kernel
theorem dX3_become_211 : decode cX3_become 211 = .ok (.goto (-36), 3) := by decide +kernel
theorem dX3_become_214 : decode cX3_become 214 = .ok (.aload_n 0, 1) := by decide +kernel
theorem dX3_become_215 : decode cX3_become 215 = .ok (.areturn, 1) := by decide +kernel
theorem dX3_flaw_0 : decode cX3_flaw 0 = .ok (.aload_n 0, 1) := by decide +kernel
theorem dX3_flaw_1 : decode cX3_flaw 1 = .ok (.getfield 29, 3) := by decide +kernel
theorem dX3_flaw_4 : decode cX3_flaw 4 = .ok (.iload_n 1, 1) := by decide +kernel
theorem dX3_flaw_5 : decode cX3_flaw 5 = .ok (.iaload, 1) := by decide +kernel
theorem dX3_flaw_6 : decode cX3_flaw 6 = .ok (.bipush 10, 2) := by decide +kernel
theorem dX3_flaw_8 : decode cX3_flaw 8 = .ok (.idiv, 1) := by decide +kernel
theorem dX3_flaw_9 : decode cX3_flaw 9 = .ok (.bipush 9, 2) := by decide +kernel
theorem dX3_flaw_11 : decode cX3_flaw 11 = .ok (.iadd, 1) := by decide +kernel
theorem dX3_flaw_12 : decode cX3_flaw 12 = .ok (.aload_n 0, 1) := by decide +kernel
theorem dX3_flaw_13 : decode cX3_flaw 13 = .ok (.getfield 25, 3) := by decide +kernel
theorem dX3_flaw_16 : decode cX3_flaw 16 = .ok (.iload_n 1, 1) := by decide +kernel
theorem dX3_flaw_17 : decode cX3_flaw 17 = .ok (.iaload, 1) := by decide +kernel
theorem dX3_flaw_18 : decode cX3_flaw 18 = .ok (.isub, 1) := by decide +kernel
theorem dX3_flaw_19 : decode cX3_flaw 19 = .ok (.ireturn, 1) := by decide +kernel
theorem dX3_saggar_0 : decode cX3_saggar 0 = .ok (.aload_n 0, 1) := by decide +kernel
theorem dX3_saggar_1 : decode cX3_saggar 1 = .ok (.getfield 34, 3) := by decide +kernel
theorem dX3_saggar_4 : decode cX3_saggar 4 = .ok (.bipush 10, 2) := by decide +kernel
theorem dX3_saggar_6 : decode cX3_saggar 6 = .ok (.iload_n 1, 1) := by decide +kernel
theorem dX3_saggar_7 : decode cX3_saggar 7 = .ok (.iadd, 1) := by decide +kernel
theorem dX3_saggar_8 : decode cX3_saggar 8 = .ok (.aaload, 1) := by decide +kernel
theorem dX3_saggar_9 : decode cX3_saggar 9 = .ok (.areturn, 1) := by decide +kernel
theorem dX3_put_0 : decode cX3_put 0 = .ok (.aload_n 1, 1) := by decide +kernel
theorem dX3_put_1 : decode cX3_put 1 = .ok (.iconst 0, 1) := by decide +kernel
theorem dX3_put_2 : decode cX3_put 2 = .ok (.iload_n 2, 1) := by decide +kernel
theorem dX3_put_3 : decode cX3_put 3 = .ok (.iastore, 1) := by decide +kernel
theorem dX3_put_4 : decode cX3_put 4 = .ok (.aload_n 1, 1) := by decide +kernel
theorem dX3_put_5 : decode cX3_put 5 = .ok (.iconst 1, 1) := by decide +kernel
theorem dX3_put_6 : decode cX3_put 6 = .ok (.iload_n 3, 1) := by decide +kernel
theorem dX3_put_7 : decode cX3_put 7 = .ok (.iastore, 1) := by decide +kernel
theorem dX3_put_8 : decode cX3_put 8 = .ok (.aload_n 1, 1) := by decide +kernel
theorem dX3_put_9 : decode cX3_put 9 = .ok (.iconst 2, 1) := by decide +kernel
theorem dX3_put_10 : decode cX3_put 10 = .ok (.iload 4, 2) := by decide +kernel
theorem dX3_put_12 : decode cX3_put 12 = .ok (.iastore, 1) := by decide +kernel
theorem dX3_put_13 : decode cX3_put 13 = .ok (.aload_n 1, 1) := by decide +kernel
theorem dX3_put_14 : decode cX3_put 14 = .ok (.iconst 3, 1) := by decide +kernel
theorem dX3_put_15 : decode cX3_put 15 = .ok (.iload 5, 2) := by decide +kernel
theorem dX3_put_17 : decode cX3_put 17 = .ok (.iastore, 1) := by decide +kernel
theorem dX3_put_18 : decode cX3_put 18 = .ok (.return_, 1) := by decide +kernel
theorem dX3_make_0 : decode cX3_make 0 = .ok (.aload_n 0, 1) := by decide +kernel
theorem dX3_make_1 : decode cX3_make 1 = .ok (.getfield 3, 3) := by decide +kernel
theorem dX3_make_4 : decode cX3_make 4 = .ok (.getfield 76, 3) := by decide +kernel
theorem dX3_make_7 : decode cX3_make 7 = .ok (.iload_n 1, 1) := by decide +kernel
theorem dX3_make_8 : decode cX3_make 8 = .ok (.iaload, 1) := by decide +kernel
theorem dX3_make_9 : decode cX3_make 9 = .ok (.istore_n 2, 1) := by decide +kernel
theorem dX3_make_10 : decode cX3_make 10 = .ok (.iload_n 2, 1) := by decide +kernel
theorem dX3_make_11 : decode cX3_make 11 = .ok (.iconst (-1), 1) := by decide +kernel
theorem dX3_make_12 : decode cX3_make 12 = .ok (.if_icmp .eq 12, 3) := by decide +kernel
theorem dX3_make_15 : decode cX3_make 15 = .ok (.aload_n 0, 1) := by decide +kernel
theorem dX3_make_16 : decode cX3_make 16 = .ok (.getfield 61, 3) := by decide +kernel
theorem dX3_make_19 : decode cX3_make 19 = .ok (.bipush 10, 2) := by decide +kernel
theorem dX3_make_21 : decode cX3_make 21 = .ok (.if_icmp .ne 4, 3) := by decide +kernel
theorem dX3_make_24 : decode cX3_make 24 = .ok (.return_, 1) := by decide +kernel
theorem dX3_make_25 : decode cX3_make 25 = .ok (.aload_n 0, 1) := by decide +kernel
theorem dX3_make_26 : decode cX3_make 26 = .ok (.getfield 3, 3) := by decide +kernel
theorem dX3_make_29 : decode cX3_make 29 = .ok (.getfield 79, 3) := by decide +kernel
theorem dX3_make_32 : decode cX3_make 32 = .ok (.iload_n 1, 1) := by decide +kernel
theorem dX3_make_33 : decode cX3_make 33 = .ok (.iaload, 1) := by decide +kernel
theorem dX3_make_34 : decode cX3_make 34 = .ok (.aload_n 0, 1) := by decide +kernel
theorem dX3_make_35 : decode cX3_make 35 = .ok (.getfield 15, 3) := by decide +kernel
theorem dX3_make_38 : decode cX3_make 38 = .ok (.aload_n 0, 1) := by decide +kernel
theorem dX3_make_39 : decode cX3_make 39 = .ok (.getfield 3, 3) := by decide +kernel
theorem dX3_make_42 : decode cX3_make 42 = .ok (.iload_n 2, 1) := by decide +kernel
theorem dX3_make_43 : decode cX3_make 43 = .ok (.invokevirtual 82, 3) := by decide +kernel
theorem dX3_make_46 : decode cX3_make 46 = .ok (.idiv, 1) := by decide +kernel
theorem dX3_make_47 : decode cX3_make 47 = .ok (.invokestatic 86, 3) := by decide +kernel
theorem dX3_make_50 : decode cX3_make 50 = .ok (.istore_n 3, 1) := by decide +kernel
theorem dX3_make_51 : decode cX3_make 51 = .ok (.iload_n 3, 1) := by decide +kernel
theorem dX3_make_52 : decode cX3_make 52 = .ok (.ifCond .ne 4, 3) := by decide +kernel
theorem dX3_make_55 : decode cX3_make 55 = .ok (.return_, 1) := by decide +kernel
theorem dX3_make_56 : decode cX3_make 56 = .ok (.aload_n 0, 1) := by decide +kernel
theorem dX3_make_57 : decode cX3_make 57 = .ok (.dup, 1) := by decide +kernel
theorem dX3_make_58 : decode cX3_make 58 = .ok (.getfield 15, 3) := by decide +kernel
theorem dX3_make_61 : decode cX3_make 61 = .ok (.iload_n 3, 1) := by decide +kernel
theorem dX3_make_62 : decode cX3_make 62 = .ok (.aload_n 0, 1) := by decide +kernel
theorem dX3_make_63 : decode cX3_make 63 = .ok (.getfield 3, 3) := by decide +kernel
theorem dX3_make_66 : decode cX3_make 66 = .ok (.iload_n 2, 1) := by decide +kernel
theorem dX3_make_67 : decode cX3_make 67 = .ok (.invokevirtual 82, 3) := by decide +kernel
theorem dX3_make_70 : decode cX3_make 70 = .ok (.imul, 1) := by decide +kernel
theorem dX3_make_71 : decode cX3_make 71 = .ok (.isub, 1) := by decide +kernel
theorem dX3_make_72 : decode cX3_make 72 = .ok (.putfield 15, 3) := by decide +kernel
theorem dX3_make_75 : decode cX3_make 75 = .ok (.aload_n 0, 1) := by decide +kernel
theorem dX3_make_76 : decode cX3_make 76 = .ok (.dup, 1) := by decide +kernel
theorem dX3_make_77 : decode cX3_make 77 = .ok (.getfield 49, 3) := by decide +kernel
theorem dX3_make_80 : decode cX3_make 80 = .ok (.iload_n 3, 1) := by decide +kernel
theorem dX3_make_81 : decode cX3_make 81 = .ok (.iadd, 1) := by decide +kernel
theorem dX3_make_82 : decode cX3_make 82 = .ok (.putfield 49, 3) := by decide +kernel
theorem dX3_make_85 : decode cX3_make 85 = .ok (.aload_n 0, 1) := by decide +kernel
theorem dX3_make_86 : decode cX3_make 86 = .ok (.aload_n 0, 1) := by decide +kernel
theorem dX3_make_87 : decode cX3_make 87 = .ok (.getfield 34, 3) := by decide +kernel
theorem dX3_make_90 : decode cX3_make 90 = .ok (.aload_n 0, 1) := by decide +kernel
theorem dX3_make_91 : decode cX3_make 91 = .ok (.getfield 61, 3) := by decide +kernel
theorem dX3_make_94 : decode cX3_make 94 = .ok (.aaload, 1) := by decide +kernel
theorem dX3_make_95 : decode cX3_make 95 = .ok (.aload_n 0, 1) := by decide +kernel
theorem dX3_make_96 : decode cX3_make 96 = .ok (.getfield 3, 3) := by decide +kernel
theorem dX3_make_99 : decode cX3_make 99 = .ok (.getfield 92, 3) := by decide +kernel
theorem dX3_make_102 : decode cX3_make 102 = .ok (.iload_n 2, 1) := by decide +kernel
theorem dX3_make_103 : decode cX3_make 103 = .ok (.iaload, 1) := by decide +kernel
theorem dX3_make_104 : decode cX3_make 104 = .ok (.iload_n 3, 1) := by decide +kernel
theorem dX3_make_105 : decode cX3_make 105 = .ok (.bipush 6, 2) := by decide +kernel
theorem dX3_make_107 : decode cX3_make 107 = .ok (.aload_n 0, 1) := by decide +kernel
theorem dX3_make_108 : decode cX3_make 108 = .ok (.iload_n 2, 1) := by decide +kernel
theorem dX3_make_109 : decode cX3_make 109 = .ok (.invokevirtual 95, 3) := by decide +kernel
theorem dX3_make_112 : decode cX3_make 112 = .ok (.invokevirtual 98, 3) := by decide +kernel
theorem dX3_make_115 : decode cX3_make 115 = .ok (.aload_n 0, 1) := by decide +kernel
theorem dX3_make_116 : decode cX3_make 116 = .ok (.dup, 1) := by decide +kernel
theorem dX3_make_117 : decode cX3_make 117 = .ok (.getfield 61, 3) := by decide +kernel
theorem dX3_make_120 : decode cX3_make 120 = .ok (.iconst 1, 1) := by decide +kernel
theorem dX3_make_121 : decode cX3_make 121 = .ok (.iadd, 1) := by decide +kernel
theorem dX3_make_122 : decode cX3_make 122 = .ok (.putfield 61, 3) := by decide +kernel
theorem dX3_make_125 : decode cX3_make 125 = .ok (.aload_n 0, 1) := by decide +kernel
theorem dX3_make_126 : decode cX3_make 126 = .ok (.getfield 29, 3) := by decide +kernel
theorem dX3_make_129 : decode cX3_make 129 = .ok (.iload_n 2, 1) := by decide +kernel
theorem dX3_make_130 : decode cX3_make 130 = .ok (.iaload, 1) := by decide +kernel
theorem dX3_make_131 : decode cX3_make 131 = .ok (.istore 4, 2) := by decide +kernel
theorem dX3_make_133 : decode cX3_make 133 = .ok (.aload_n 0, 1) := by decide +kernel
theorem dX3_make_134 : decode cX3_make 134 = .ok (.getfield 29, 3) := by decide +kernel
theorem dX3_make_137 : decode cX3_make 137 = .ok (.iload_n 2, 1) := by decide +kernel
theorem dX3_make_138 : decode cX3_make 138 = .ok (.bipush 100, 2) := by decide +kernel
theorem dX3_make_140 : decode cX3_make 140 = .ok (.iload 4, 2) := by decide +kernel
theorem dX3_make_142 : decode cX3_make 142 = .ok (.iload_n 3, 1) := by decide +kernel
theorem dX3_make_143 : decode cX3_make 143 = .ok (.iconst 3, 1) := by decide +kernel
theorem dX3_make_144 : decode cX3_make 144 = .ok (.iadd, 1) := by decide +kernel
theorem dX3_make_145 : decode cX3_make 145 = .ok (.iconst 4, 1) := by decide +kernel
theorem dX3_make_146 : decode cX3_make 146 = .ok (.idiv, 1) := by decide +kernel
theorem dX3_make_147 : decode cX3_make 147 = .ok (.iadd, 1) := by decide +kernel
theorem dX3_make_148 : decode cX3_make 148 = .ok (.invokestatic 86, 3) := by decide +kernel
theorem dX3_make_151 : decode cX3_make 151 = .ok (.iastore, 1) := by decide +kernel
theorem dX3_make_152 : decode cX3_make 152 = .ok (.aload_n 0, 1) := by decide +kernel
theorem dX3_make_153 : decode cX3_make 153 = .ok (.getfield 29, 3) := by decide +kernel
theorem dX3_make_156 : decode cX3_make 156 = .ok (.iload_n 2, 1) := by decide +kernel
theorem dX3_make_157 : decode cX3_make 157 = .ok (.iaload, 1) := by decide +kernel
theorem dX3_make_158 : decode cX3_make 158 = .ok (.bipush 10, 2) := by decide +kernel
theorem dX3_make_160 : decode cX3_make 160 = .ok (.idiv, 1) := by decide +kernel
theorem dX3_make_161 : decode cX3_make 161 = .ok (.iload 4, 2) := by decide +kernel
theorem dX3_make_163 : decode cX3_make 163 = .ok (.bipush 10, 2) := by decide +kernel
theorem dX3_make_165 : decode cX3_make 165 = .ok (.idiv, 1) := by decide +kernel
theorem dX3_make_166 : decode cX3_make 166 = .ok (.if_icmp .le 21, 3) := by decide +kernel
theorem dX3_make_169 : decode cX3_make 169 = .ok (.aload_n 0, 1) := by decide +kernel
theorem dX3_make_170 : decode cX3_make 170 = .ok (.getfield 25, 3) := by decide +kernel
theorem dX3_make_173 : decode cX3_make 173 = .ok (.iload_n 2, 1) := by decide +kernel
theorem dX3_make_174 : decode cX3_make 174 = .ok (.iconst 0, 1) := by decide +kernel
theorem dX3_make_175 : decode cX3_make 175 = .ok (.aload_n 0, 1) := by decide +kernel
theorem dX3_make_176 : decode cX3_make 176 = .ok (.getfield 25, 3) := by decide +kernel
theorem dX3_make_179 : decode cX3_make 179 = .ok (.iload_n 2, 1) := by decide +kernel
theorem dX3_make_180 : decode cX3_make 180 = .ok (.iaload, 1) := by decide +kernel
theorem dX3_make_181 : decode cX3_make 181 = .ok (.iconst 1, 1) := by decide +kernel
theorem dX3_make_182 : decode cX3_make 182 = .ok (.isub, 1) := by decide +kernel
theorem dX3_make_183 : decode cX3_make 183 = .ok (.invokestatic 102, 3) := by decide +kernel
theorem dX3_make_186 : decode cX3_make 186 = .ok (.iastore, 1) := by decide +kernel
theorem dX3_make_187 : decode cX3_make 187 = .ok (.return_, 1) := by decide +kernel
theorem dX3_serve_0 : decode cX3_serve 0 = .ok (.iconst 0, 1) := by decide +kernel
theorem dX3_serve_1 : decode cX3_serve 1 = .ok (.istore_n 1, 1) := by decide +kernel
theorem dX3_serve_2 : decode cX3_serve 2 = .ok (.iconst 0, 1) := by decide +kernel
theorem dX3_serve_3 : decode cX3_serve 3 = .ok (.istore_n 2, 1) := by decide +kernel
theorem dX3_serve_4 : decode cX3_serve 4 = .ok (.iload_n 2, 1) := by decide +kernel
theorem dX3_serve_5 : decode cX3_serve 5 = .ok (.aload_n 0, 1) := by decide +kernel
theorem dX3_serve_6 : decode cX3_serve 6 = .ok (.getfield 64, 3) := by decide +kernel
theorem dX3_serve_9 : decode cX3_serve 9 = .ok (.if_icmp .ge 156, 3) := by decide +kernel
theorem dX3_serve_12 : decode cX3_serve 12 = .ok (.aload_n 0, 1) := by decide +kernel
theorem dX3_serve_13 : decode cX3_serve 13 = .ok (.getfield 40, 3) := by decide +kernel
theorem dX3_serve_16 : decode cX3_serve 16 = .ok (.iload_n 2, 1) := by decide +kernel
theorem dX3_serve_17 : decode cX3_serve 17 = .ok (.aaload, 1) := by decide +kernel
theorem dX3_serve_18 : decode cX3_serve 18 = .ok (.astore_n 3, 1) := by decide +kernel
theorem dX3_serve_19 : decode cX3_serve 19 = .ok (.aload_n 0, 1) := by decide +kernel
theorem dX3_serve_20 : decode cX3_serve 20 = .ok (.getfield 37, 3) := by decide +kernel
theorem dX3_serve_23 : decode cX3_serve 23 = .ok (.aload_n 3, 1) := by decide +kernel
theorem dX3_serve_24 : decode cX3_serve 24 = .ok (.iconst 0, 1) := by decide +kernel
theorem dX3_serve_25 : decode cX3_serve 25 = .ok (.iaload, 1) := by decide +kernel
theorem dX3_serve_26 : decode cX3_serve 26 = .ok (.iaload, 1) := by decide +kernel
theorem dX3_serve_27 : decode cX3_serve 27 = .ok (.aload_n 3, 1) := by decide +kernel
theorem dX3_serve_28 : decode cX3_serve 28 = .ok (.iconst 1, 1) := by decide +kernel
theorem dX3_serve_29 : decode cX3_serve 29 = .ok (.iaload, 1) := by decide +kernel
theorem dX3_serve_30 : decode cX3_serve 30 = .ok (.if_icmp .lt 57, 3) := by decide +kernel
theorem dX3_serve_33 : decode cX3_serve 33 = .ok (.aload_n 0, 1) := by decide +kernel
theorem dX3_serve_34 : decode cX3_serve 34 = .ok (.getfield 37, 3) := by decide +kernel
theorem dX3_serve_37 : decode cX3_serve 37 = .ok (.aload_n 3, 1) := by decide +kernel
theorem dX3_serve_38 : decode cX3_serve 38 = .ok (.iconst 0, 1) := by decide +kernel
theorem dX3_serve_39 : decode cX3_serve 39 = .ok (.iaload, 1) := by decide +kernel
theorem dX3_serve_40 : decode cX3_serve 40 = .ok (.dup2, 1) := by decide +kernel
theorem dX3_serve_41 : decode cX3_serve 41 = .ok (.iaload, 1) := by decide +kernel
theorem dX3_serve_42 : decode cX3_serve 42 = .ok (.aload_n 3, 1) := by decide +kernel
theorem dX3_serve_43 : decode cX3_serve 43 = .ok (.iconst 1, 1) := by decide +kernel
theorem dX3_serve_44 : decode cX3_serve 44 = .ok (.iaload, 1) := by decide +kernel
theorem dX3_serve_45 : decode cX3_serve 45 = .ok (.isub, 1) := by decide +kernel
theorem dX3_serve_46 : decode cX3_serve 46 = .ok (.iastore, 1) := by decide +kernel
theorem dX3_serve_47 : decode cX3_serve 47 = .ok (.aload_n 0, 1) := by decide +kernel
theorem dX3_serve_48 : decode cX3_serve 48 = .ok (.dup, 1) := by decide +kernel
theorem dX3_serve_49 : decode cX3_serve 49 = .ok (.getfield 22, 3) := by decide +kernel
theorem dX3_serve_52 : decode cX3_serve 52 = .ok (.aload_n 3, 1) := by decide +kernel
theorem dX3_serve_53 : decode cX3_serve 53 = .ok (.iconst 3, 1) := by decide +kernel
theorem dX3_serve_54 : decode cX3_serve 54 = .ok (.iaload, 1) := by decide +kernel
theorem dX3_serve_55 : decode cX3_serve 55 = .ok (.iadd, 1) := by decide +kernel
theorem dX3_serve_56 : decode cX3_serve 56 = .ok (.putfield 22, 3) := by decide +kernel
theorem dX3_serve_59 : decode cX3_serve 59 = .ok (.aload_n 0, 1) := by decide +kernel
theorem dX3_serve_60 : decode cX3_serve 60 = .ok (.dup, 1) := by decide +kernel
theorem dX3_serve_61 : decode cX3_serve 61 = .ok (.getfield 55, 3) := by decide +kernel
theorem dX3_serve_64 : decode cX3_serve 64 = .ok (.iconst 1, 1) := by decide +kernel
theorem dX3_serve_65 : decode cX3_serve 65 = .ok (.iadd, 1) := by decide +kernel
theorem dX3_serve_66 : decode cX3_serve 66 = .ok (.putfield 55, 3) := by decide +kernel
theorem dX3_serve_69 : decode cX3_serve 69 = .ok (.aload_n 3, 1) := by decide +kernel
theorem dX3_serve_70 : decode cX3_serve 70 = .ok (.iconst 4, 1) := by decide +kernel
theorem dX3_serve_71 : decode cX3_serve 71 = .ok (.iaload, 1) := by decide +kernel
theorem dX3_serve_72 : decode cX3_serve 72 = .ok (.aload_n 0, 1) := by decide +kernel
theorem dX3_serve_73 : decode cX3_serve 73 = .ok (.getfield 43, 3) := by decide +kernel
theorem dX3_serve_76 : decode cX3_serve 76 = .ok (.if_icmp .ne 83, 3) := by decide +kernel
theorem dX3_serve_79 : decode cX3_serve 79 = .ok (.aload_n 0, 1) := by decide +kernel
theorem dX3_serve_80 : decode cX3_serve 80 = .ok (.iconst 1, 1) := by decide +kernel
theorem dX3_serve_81 : decode cX3_serve 81 = .ok (.putfield 67, 3) := by decide +kernel
theorem dX3_serve_84 : decode cX3_serve 84 = .ok (.goto 75, 3) := by decide +kernel
theorem dX3_serve_87 : decode cX3_serve 87 = .ok (.aload_n 3, 1) := by decide +kernel
theorem dX3_serve_88 : decode cX3_serve 88 = .ok (.iconst 2, 1) := by decide +kernel
theorem dX3_serve_89 : decode cX3_serve 89 = .ok (.dup2, 1) := by decide +kernel
theorem dX3_serve_90 : decode cX3_serve 90 = .ok (.iaload, 1) := by decide +kernel
theorem dX3_serve_91 : decode cX3_serve 91 = .ok (.iconst 1, 1) := by decide +kernel
theorem dX3_serve_92 : decode cX3_serve 92 = .ok (.isub, 1) := by decide +kernel
theorem dX3_serve_93 : decode cX3_serve 93 = .ok (.iastore, 1) := by decide +kernel
theorem dX3_serve_94 : decode cX3_serve 94 = .ok (.aload_n 3, 1) := by decide +kernel
theorem dX3_serve_95 : decode cX3_serve 95 = .ok (.iconst 2, 1) := by decide +kernel
theorem dX3_serve_96 : decode cX3_serve 96 = .ok (.iaload, 1) := by decide +kernel
theorem dX3_serve_97 : decode cX3_serve 97 = .ok (.ifCond .ge 31, 3) := by decide +kernel
theorem dX3_serve_100 : decode cX3_serve 100 = .ok (.aload_n 0, 1) := by decide +kernel
theorem dX3_serve_101 : decode cX3_serve 101 = .ok (.dup, 1) := by decide +kernel
theorem dX3_serve_102 : decode cX3_serve 102 = .ok (.getfield 58, 3) := by decide +kernel
theorem dX3_serve_105 : decode cX3_serve 105 = .ok (.iconst 1, 1) := by decide +kernel
theorem dX3_serve_106 : decode cX3_serve 106 = .ok (.iadd, 1) := by decide +kernel
theorem dX3_serve_107 : decode cX3_serve 107 = .ok (.putfield 58, 3) := by decide +kernel
theorem dX3_serve_110 : decode cX3_serve 110 = .ok (.aload_n 3, 1) := by decide +kernel
theorem dX3_serve_111 : decode cX3_serve 111 = .ok (.iconst 4, 1) := by decide +kernel
theorem dX3_serve_112 : decode cX3_serve 112 = .ok (.iaload, 1) := by decide +kernel
theorem dX3_serve_113 : decode cX3_serve 113 = .ok (.aload_n 0, 1) := by decide +kernel
theorem dX3_serve_114 : decode cX3_serve 114 = .ok (.getfield 43, 3) := by decide +kernel
theorem dX3_serve_117 : decode cX3_serve 117 = .ok (.if_icmp .ne 42, 3) := by decide +kernel
theorem dX3_serve_120 : decode cX3_serve 120 = .ok (.aload_n 0, 1) := by decide +kernel
theorem dX3_serve_121 : decode cX3_serve 121 = .ok (.iconst 2, 1) := by decide +kernel
theorem dX3_serve_122 : decode cX3_serve 122 = .ok (.putfield 67, 3) := by decide +kernel
theorem dX3_serve_125 : decode cX3_serve 125 = .ok (.goto 34, 3) := by decide +kernel
theorem dX3_serve_128 : decode cX3_serve 128 = .ok (.iconst 0, 1) := by decide +kernel
theorem dX3_serve_129 : decode cX3_serve 129 = .ok (.istore 4, 2) := by decide +kernel
theorem dX3_serve_131 : decode cX3_serve 131 = .ok (.iload 4, 2) := by decide +kernel
theorem dX3_serve_133 : decode cX3_serve 133 = .ok (.iconst 5, 1) := by decide +kernel
theorem dX3_serve_134 : decode cX3_serve 134 = .ok (.if_icmp .ge 22, 3) := by decide +kernel
theorem dX3_serve_137 : decode cX3_serve 137 = .ok (.aload_n 0, 1) := by decide +kernel
theorem dX3_serve_138 : decode cX3_serve 138 = .ok (.getfield 40, 3) := by decide +kernel
theorem dX3_serve_141 : decode cX3_serve 141 = .ok (.iload_n 1, 1) := by decide +kernel
theorem dX3_serve_142 : decode cX3_serve 142 = .ok (.aaload, 1) := by decide +kernel
theorem dX3_serve_143 : decode cX3_serve 143 = .ok (.iload 4, 2) := by decide +kernel
theorem dX3_serve_145 : decode cX3_serve 145 = .ok (.aload_n 3, 1) := by decide +kernel
theorem dX3_serve_146 : decode cX3_serve 146 = .ok (.iload 4, 2) := by decide +kernel
theorem dX3_serve_148 : decode cX3_serve 148 = .ok (.iaload, 1) := by decide +kernel
theorem dX3_serve_149 : decode cX3_serve 149 = .ok (.iastore, 1) := by decide +kernel
theorem dX3_serve_150 : decode cX3_serve 150 = .ok (.iinc 4 1, 3) := by decide +kernel
theorem dX3_serve_153 : decode cX3_serve 153 = .ok (.goto (-22), 3) := by decide +kernel
theorem dX3_serve_156 : decode cX3_serve 156 = .ok (.iinc 1 1, 3) := by decide +kernel
theorem dX3_serve_159 : decode cX3_serve 159 = .ok (.iinc 2 1, 3) := by decide +kernel
theorem dX3_serve_162 : decode cX3_serve 162 = .ok (.goto (-158), 3) := by decide +kernel
theorem dX3_serve_165 : decode cX3_serve 165 = .ok (.aload_n 0, 1) := by decide +kernel
theorem dX3_serve_166 : decode cX3_serve 166 = .ok (.iload_n 1, 1) := by decide +kernel
theorem dX3_serve_167 : decode cX3_serve 167 = .ok (.putfield 64, 3) := by decide +kernel
theorem dX3_serve_170 : decode cX3_serve 170 = .ok (.return_, 1) := by decide +kernel
theorem dX3_pass_0 : decode cX3_pass 0 = .ok (.iconst 0, 1) := by decide +kernel
theorem dX3_pass_1 : decode cX3_pass 1 = .ok (.istore_n 1, 1) := by decide +kernel
theorem dX3_pass_2 : decode cX3_pass 2 = .ok (.iload_n 1, 1) := by decide +kernel
theorem dX3_pass_3 : decode cX3_pass 3 = .ok (.aload_n 0, 1) := by decide +kernel
theorem dX3_pass_4 : decode cX3_pass 4 = .ok (.getfield 3, 3) := by decide +kernel
theorem dX3_pass_7 : decode cX3_pass 7 = .ok (.getfield 105, 3) := by decide +kernel
theorem dX3_pass_10 : decode cX3_pass 10 = .ok (.if_icmp .ge 14, 3) := by decide +kernel
theorem dX3_pass_13 : decode cX3_pass 13 = .ok (.aload_n 0, 1) := by decide +kernel
theorem dX3_pass_14 : decode cX3_pass 14 = .ok (.iload_n 1, 1) := by decide +kernel
theorem dX3_pass_15 : decode cX3_pass 15 = .ok (.invokevirtual 108, 3) := by decide +kernel
theorem dX3_pass_18 : decode cX3_pass 18 = .ok (.iinc 1 1, 3) := by decide +kernel
theorem dX3_pass_21 : decode cX3_pass 21 = .ok (.goto (-19), 3) := by decide +kernel
theorem dX3_pass_24 : decode cX3_pass 24 = .ok (.aload_n 0, 1) := by decide +kernel
theorem dX3_pass_25 : decode cX3_pass 25 = .ok (.getfield 34, 3) := by decide +kernel
theorem dX3_pass_28 : decode cX3_pass 28 = .ok (.astore_n 1, 1) := by decide +kernel
theorem dX3_pass_29 : decode cX3_pass 29 = .ok (.aload_n 1, 1) := by decide +kernel
theorem dX3_pass_30 : decode cX3_pass 30 = .ok (.arraylength, 1) := by decide +kernel
theorem dX3_pass_31 : decode cX3_pass 31 = .ok (.istore_n 2, 1) := by decide +kernel
theorem dX3_pass_32 : decode cX3_pass 32 = .ok (.iconst 0, 1) := by decide +kernel
theorem dX3_pass_33 : decode cX3_pass 33 = .ok (.istore_n 3, 1) := by decide +kernel
theorem dX3_pass_34 : decode cX3_pass 34 = .ok (.iload_n 3, 1) := by decide +kernel
theorem dX3_pass_35 : decode cX3_pass 35 = .ok (.iload_n 2, 1) := by decide +kernel
theorem dX3_pass_36 : decode cX3_pass 36 = .ok (.if_icmp .ge 42, 3) := by decide +kernel
theorem dX3_pass_39 : decode cX3_pass 39 = .ok (.aload_n 1, 1) := by decide +kernel
theorem dX3_pass_40 : decode cX3_pass 40 = .ok (.iload_n 3, 1) := by decide +kernel
theorem dX3_pass_41 : decode cX3_pass 41 = .ok (.aaload, 1) := by decide +kernel
theorem dX3_pass_42 : decode cX3_pass 42 = .ok (.astore 4, 2) := by decide +kernel
theorem dX3_pass_44 : decode cX3_pass 44 = .ok (.aload 4, 2) := by decide +kernel
theorem dX3_pass_46 : decode cX3_pass 46 = .ok (.iconst 2, 1) := by decide +kernel
theorem dX3_pass_47 : decode cX3_pass 47 = .ok (.iconst 0, 1) := by decide +kernel
theorem dX3_pass_48 : decode cX3_pass 48 = .ok (.aload 4, 2) := by decide +kernel
theorem dX3_pass_50 : decode cX3_pass 50 = .ok (.iconst 2, 1) := by decide +kernel
theorem dX3_pass_51 : decode cX3_pass 51 = .ok (.iaload, 1) := by decide +kernel
theorem dX3_pass_52 : decode cX3_pass 52 = .ok (.aload_n 0, 1) := by decide +kernel
theorem dX3_pass_53 : decode cX3_pass 53 = .ok (.getfield 3, 3) := by decide +kernel
theorem dX3_pass_56 : decode cX3_pass 56 = .ok (.getfield 112, 3) := by decide +kernel
theorem dX3_pass_59 : decode cX3_pass 59 = .ok (.aload_n 0, 1) := by decide +kernel
theorem dX3_pass_60 : decode cX3_pass 60 = .ok (.getfield 46, 3) := by decide +kernel
theorem dX3_pass_63 : decode cX3_pass 63 = .ok (.bipush 7, 2) := by decide +kernel
theorem dX3_pass_65 : decode cX3_pass 65 = .ok (.irem, 1) := by decide +kernel
theorem dX3_pass_66 : decode cX3_pass 66 = .ok (.iaload, 1) := by decide +kernel
theorem dX3_pass_67 : decode cX3_pass 67 = .ok (.isub, 1) := by decide +kernel
theorem dX3_pass_68 : decode cX3_pass 68 = .ok (.invokestatic 102, 3) := by decide +kernel
theorem dX3_pass_71 : decode cX3_pass 71 = .ok (.iastore, 1) := by decide +kernel
theorem dX3_pass_72 : decode cX3_pass 72 = .ok (.iinc 3 1, 3) := by decide +kernel
theorem dX3_pass_75 : decode cX3_pass 75 = .ok (.goto (-41), 3) := by decide +kernel
theorem dX3_pass_78 : decode cX3_pass 78 = .ok (.aload_n 0, 1) := by decide +kernel
theorem dX3_pass_79 : decode cX3_pass 79 = .ok (.invokevirtual 115, 3) := by decide +kernel
theorem dX3_pass_82 : decode cX3_pass 82 = .ok (.aload_n 0, 1) := by decide +kernel
theorem dX3_pass_83 : decode cX3_pass 83 = .ok (.dup, 1) := by decide +kernel
theorem dX3_pass_84 : decode cX3_pass 84 = .ok (.getfield 46, 3) := by decide +kernel
theorem dX3_pass_87 : decode cX3_pass 87 = .ok (.iconst 1, 1) := by decide +kernel
theorem dX3_pass_88 : decode cX3_pass 88 = .ok (.iadd, 1) := by decide +kernel
theorem dX3_pass_89 : decode cX3_pass 89 = .ok (.putfield 46, 3) := by decide +kernel
theorem dX3_pass_92 : decode cX3_pass 92 = .ok (.return_, 1) := by decide +kernel
theorem dX3_pass__0 : decode cX3_pass_ 0 = .ok (.iconst 0, 1) := by decide +kernel
theorem dX3_pass__1 : decode cX3_pass_ 1 = .ok (.istore_n 2, 1) := by decide +kernel
theorem dX3_pass__2 : decode cX3_pass_ 2 = .ok (.iload_n 2, 1) := by decide +kernel
theorem dX3_pass__3 : decode cX3_pass_ 3 = .ok (.iload_n 1, 1) := by decide +kernel
theorem dX3_pass__4 : decode cX3_pass_ 4 = .ok (.if_icmp .ge 13, 3) := by decide +kernel
theorem dX3_pass__7 : decode cX3_pass_ 7 = .ok (.aload_n 0, 1) := by decide +kernel
theorem dX3_pass__8 : decode cX3_pass_ 8 = .ok (.invokevirtual 118, 3) := by decide +kernel
theorem dX3_pass__11 : decode cX3_pass_ 11 = .ok (.iinc 2 1, 3) := by decide +kernel
theorem dX3_pass__14 : decode cX3_pass_ 14 = .ok (.goto (-12), 3) := by decide +kernel
theorem dX3_pass__17 : decode cX3_pass_ 17 = .ok (.return_, 1) := by decide +kernel
theorem dX3_takeBatch_0 : decode cX3_takeBatch 0 = .ok (.aload_n 0, 1) := by decide +kernel
theorem dX3_takeBatch_1 : decode cX3_takeBatch 1 = .ok (.dup, 1) := by decide +kernel
theorem dX3_takeBatch_2 : decode cX3_takeBatch 2 = .ok (.getfield 61, 3) := by decide +kernel
theorem dX3_takeBatch_5 : decode cX3_takeBatch 5 = .ok (.iconst 1, 1) := by decide +kernel
theorem dX3_takeBatch_6 : decode cX3_takeBatch 6 = .ok (.isub, 1) := by decide +kernel
theorem dX3_takeBatch_7 : decode cX3_takeBatch 7 = .ok (.putfield 61, 3) := by decide +kernel
theorem dX3_takeBatch_10 : decode cX3_takeBatch 10 = .ok (.iload_n 1, 1) := by decide +kernel
theorem dX3_takeBatch_11 : decode cX3_takeBatch 11 = .ok (.istore_n 2, 1) := by decide +kernel
theorem dX3_takeBatch_12 : decode cX3_takeBatch 12 = .ok (.iload_n 2, 1) := by decide +kernel
theorem dX3_takeBatch_13 : decode cX3_takeBatch 13 = .ok (.aload_n 0, 1) := by decide +kernel
theorem dX3_takeBatch_14 : decode cX3_takeBatch 14 = .ok (.getfield 61, 3) := by decide +kernel
theorem dX3_takeBatch_17 : decode cX3_takeBatch 17 = .ok (.if_icmp .ge 59, 3) := by decide +kernel
theorem dX3_takeBatch_20 : decode cX3_takeBatch 20 = .ok (.aload_n 0, 1) := by decide +kernel
theorem dX3_takeBatch_21 : decode cX3_takeBatch 21 = .ok (.aload_n 0, 1) := by decide +kernel
theorem dX3_takeBatch_22 : decode cX3_takeBatch 22 = .ok (.getfield 34, 3) := by decide +kernel
theorem dX3_takeBatch_25 : decode cX3_takeBatch 25 = .ok (.iload_n 2, 1) := by decide +kernel
theorem dX3_takeBatch_26 : decode cX3_takeBatch 26 = .ok (.aaload, 1) := by decide +kernel
theorem dX3_takeBatch_27 : decode cX3_takeBatch 27 = .ok (.aload_n 0, 1) := by decide +kernel
theorem dX3_takeBatch_28 : decode cX3_takeBatch 28 = .ok (.getfield 34, 3) := by decide +kernel
theorem dX3_takeBatch_31 : decode cX3_takeBatch 31 = .ok (.iload_n 2, 1) := by decide +kernel
theorem dX3_takeBatch_32 : decode cX3_takeBatch 32 = .ok (.iconst 1, 1) := by decide +kernel
theorem dX3_takeBatch_33 : decode cX3_takeBatch 33 = .ok (.iadd, 1) := by decide +kernel
theorem dX3_takeBatch_34 : decode cX3_takeBatch 34 = .ok (.aaload, 1) := by decide +kernel
theorem dX3_takeBatch_35 : decode cX3_takeBatch 35 = .ok (.iconst 0, 1) := by decide +kernel
theorem dX3_takeBatch_36 : decode cX3_takeBatch 36 = .ok (.iaload, 1) := by decide +kernel
theorem dX3_takeBatch_37 : decode cX3_takeBatch 37 = .ok (.aload_n 0, 1) := by decide +kernel
theorem dX3_takeBatch_38 : decode cX3_takeBatch 38 = .ok (.getfield 34, 3) := by decide +kernel
theorem dX3_takeBatch_41 : decode cX3_takeBatch 41 = .ok (.iload_n 2, 1) := by decide +kernel
theorem dX3_takeBatch_42 : decode cX3_takeBatch 42 = .ok (.iconst 1, 1) := by decide +kernel
theorem dX3_takeBatch_43 : decode cX3_takeBatch 43 = .ok (.iadd, 1) := by decide +kernel
theorem dX3_takeBatch_44 : decode cX3_takeBatch 44 = .ok (.aaload, 1) := by decide +kernel
theorem dX3_takeBatch_45 : decode cX3_takeBatch 45 = .ok (.iconst 1, 1) := by decide +kernel
theorem dX3_takeBatch_46 : decode cX3_takeBatch 46 = .ok (.iaload, 1) := by decide +kernel
theorem dX3_takeBatch_47 : decode cX3_takeBatch 47 = .ok (.aload_n 0, 1) := by decide +kernel
theorem dX3_takeBatch_48 : decode cX3_takeBatch 48 = .ok (.getfield 34, 3) := by decide +kernel
theorem dX3_takeBatch_51 : decode cX3_takeBatch 51 = .ok (.iload_n 2, 1) := by decide +kernel
theorem dX3_takeBatch_52 : decode cX3_takeBatch 52 = .ok (.iconst 1, 1) := by decide +kernel
theorem dX3_takeBatch_53 : decode cX3_takeBatch 53 = .ok (.iadd, 1) := by decide +kernel
theorem dX3_takeBatch_54 : decode cX3_takeBatch 54 = .ok (.aaload, 1) := by decide +kernel
theorem dX3_takeBatch_55 : decode cX3_takeBatch 55 = .ok (.iconst 2, 1) := by decide +kernel
theorem dX3_takeBatch_56 : decode cX3_takeBatch 56 = .ok (.iaload, 1) := by decide +kernel
theorem dX3_takeBatch_57 : decode cX3_takeBatch 57 = .ok (.aload_n 0, 1) := by decide +kernel
theorem dX3_takeBatch_58 : decode cX3_takeBatch 58 = .ok (.getfield 34, 3) := by decide +kernel
theorem dX3_takeBatch_61 : decode cX3_takeBatch 61 = .ok (.iload_n 2, 1) := by decide +kernel
theorem dX3_takeBatch_62 : decode cX3_takeBatch 62 = .ok (.iconst 1, 1) := by decide +kernel
theorem dX3_takeBatch_63 : decode cX3_takeBatch 63 = .ok (.iadd, 1) := by decide +kernel
theorem dX3_takeBatch_64 : decode cX3_takeBatch 64 = .ok (.aaload, 1) := by decide +kernel
theorem dX3_takeBatch_65 : decode cX3_takeBatch 65 = .ok (.iconst 3, 1) := by decide +kernel
theorem dX3_takeBatch_66 : decode cX3_takeBatch 66 = .ok (.iaload, 1) := by decide +kernel
theorem dX3_takeBatch_67 : decode cX3_takeBatch 67 = .ok (.invokevirtual 98, 3) := by decide +kernel
theorem dX3_takeBatch_70 : decode cX3_takeBatch 70 = .ok (.iinc 2 1, 3) := by decide +kernel
theorem dX3_takeBatch_73 : decode cX3_takeBatch 73 = .ok (.goto (-61), 3) := by decide +kernel
theorem dX3_takeBatch_76 : decode cX3_takeBatch 76 = .ok (.return_, 1) := by decide +kernel
theorem dX3_breaks_0 : decode cX3_breaks 0 = .ok (.aload_n 0, 1) := by decide +kernel
theorem dX3_breaks_1 : decode cX3_breaks 1 = .ok (.iload_n 1, 1) := by decide +kernel
theorem dX3_breaks_2 : decode cX3_breaks 2 = .ok (.invokevirtual 121, 3) := by decide +kernel
theorem dX3_breaks_5 : decode cX3_breaks 5 = .ok (.astore_n 3, 1) := by decide +kernel
theorem dX3_breaks_6 : decode cX3_breaks 6 = .ok (.iconst 4, 1) := by decide +kernel
theorem dX3_breaks_7 : decode cX3_breaks 7 = .ok (.iload_n 2, 1) := by decide +kernel
theorem dX3_breaks_8 : decode cX3_breaks 8 = .ok (.imul, 1) := by decide +kernel
theorem dX3_breaks_9 : decode cX3_breaks 9 = .ok (.bipush 20, 2) := by decide +kernel
theorem dX3_breaks_11 : decode cX3_breaks 11 = .ok (.isub, 1) := by decide +kernel
theorem dX3_breaks_12 : decode cX3_breaks 12 = .ok (.iconst 2, 1) := by decide +kernel
theorem dX3_breaks_13 : decode cX3_breaks 13 = .ok (.aload_n 3, 1) := by decide +kernel
theorem dX3_breaks_14 : decode cX3_breaks 14 = .ok (.iconst 0, 1) := by decide +kernel
theorem dX3_breaks_15 : decode cX3_breaks 15 = .ok (.iaload, 1) := by decide +kernel
theorem dX3_breaks_16 : decode cX3_breaks 16 = .ok (.imul, 1) := by decide +kernel
theorem dX3_breaks_17 : decode cX3_breaks 17 = .ok (.isub, 1) := by decide +kernel
theorem dX3_breaks_18 : decode cX3_breaks 18 = .ok (.invokestatic 125, 3) := by decide +kernel
theorem dX3_breaks_21 : decode cX3_breaks 21 = .ok (.iconst 2, 1) := by decide +kernel
theorem dX3_breaks_22 : decode cX3_breaks 22 = .ok (.idiv, 1) := by decide +kernel
theorem dX3_breaks_23 : decode cX3_breaks 23 = .ok (.istore 4, 2) := by decide +kernel
theorem dX3_breaks_25 : decode cX3_breaks 25 = .ok (.bipush 100, 2) := by decide +kernel
theorem dX3_breaks_27 : decode cX3_breaks 27 = .ok (.bipush 8, 2) := by decide +kernel
theorem dX3_breaks_29 : decode cX3_breaks 29 = .ok (.aload_n 3, 1) := by decide +kernel
theorem dX3_breaks_30 : decode cX3_breaks 30 = .ok (.iconst 2, 1) := by decide +kernel
theorem dX3_breaks_31 : decode cX3_breaks 31 = .ok (.iaload, 1) := by decide +kernel
theorem dX3_breaks_32 : decode cX3_breaks 32 = .ok (.imul, 1) := by decide +kernel
theorem dX3_breaks_33 : decode cX3_breaks 33 = .ok (.iconst 2, 1) := by decide +kernel
theorem dX3_breaks_34 : decode cX3_breaks 34 = .ok (.aload_n 3, 1) := by decide +kernel
theorem dX3_breaks_35 : decode cX3_breaks 35 = .ok (.iconst 3, 1) := by decide +kernel
theorem dX3_breaks_36 : decode cX3_breaks 36 = .ok (.iaload, 1) := by decide +kernel
theorem dX3_breaks_37 : decode cX3_breaks 37 = .ok (.imul, 1) := by decide +kernel
theorem dX3_breaks_38 : decode cX3_breaks 38 = .ok (.iadd, 1) := by decide +kernel
theorem dX3_breaks_39 : decode cX3_breaks 39 = .ok (.iload 4, 2) := by decide +kernel
theorem dX3_breaks_41 : decode cX3_breaks 41 = .ok (.iadd, 1) := by decide +kernel
theorem dX3_breaks_42 : decode cX3_breaks 42 = .ok (.iload_n 1, 1) := by decide +kernel
theorem dX3_breaks_43 : decode cX3_breaks 43 = .ok (.ifCond .eq 8, 3) := by decide +kernel
theorem dX3_breaks_46 : decode cX3_breaks 46 = .ok (.iload_n 1, 1) := by decide +kernel
theorem dX3_breaks_47 : decode cX3_breaks 47 = .ok (.iconst 5, 1) := by decide +kernel
theorem dX3_breaks_48 : decode cX3_breaks 48 = .ok (.if_icmp .ne 7, 3) := by decide +kernel
theorem dX3_breaks_51 : decode cX3_breaks 51 = .ok (.iconst 5, 1) := by decide +kernel
theorem dX3_breaks_52 : decode cX3_breaks 52 = .ok (.goto 4, 3) := by decide +kernel
theorem dX3_breaks_55 : decode cX3_breaks 55 = .ok (.iconst 0, 1) := by decide +kernel
theorem dX3_breaks_56 : decode cX3_breaks 56 = .ok (.iadd, 1) := by decide +kernel
theorem dX3_breaks_57 : decode cX3_breaks 57 = .ok (.invokestatic 86, 3) := by decide +kernel
theorem dX3_breaks_60 : decode cX3_breaks 60 = .ok (.istore 5, 2) := by decide +kernel
theorem dX3_breaks_62 : decode cX3_breaks 62 = .ok (.aload_n 3, 1) := by decide +kernel
theorem dX3_breaks_63 : decode cX3_breaks 63 = .ok (.iconst 1, 1) := by decide +kernel
theorem dX3_breaks_64 : decode cX3_breaks 64 = .ok (.iaload, 1) := by decide +kernel
theorem dX3_breaks_65 : decode cX3_breaks 65 = .ok (.iload 5, 2) := by decide +kernel
theorem dX3_breaks_67 : decode cX3_breaks 67 = .ok (.imul, 1) := by decide +kernel
theorem dX3_breaks_68 : decode cX3_breaks 68 = .ok (.bipush 99, 2) := by decide +kernel
theorem dX3_breaks_70 : decode cX3_breaks 70 = .ok (.iadd, 1) := by decide +kernel
theorem dX3_breaks_71 : decode cX3_breaks 71 = .ok (.bipush 100, 2) := by decide +kernel
theorem dX3_breaks_73 : decode cX3_breaks 73 = .ok (.idiv, 1) := by decide +kernel
theorem dX3_breaks_74 : decode cX3_breaks 74 = .ok (.ireturn, 1) := by decide +kernel
theorem dX3_pipes_0 : decode cX3_pipes 0 = .ok (.iconst 0, 1) := by decide +kernel
theorem dX3_pipes_1 : decode cX3_pipes 1 = .ok (.istore_n 3, 1) := by decide +kernel
theorem dX3_pipes_2 : decode cX3_pipes 2 = .ok (.iload_n 1, 1) := by decide +kernel
theorem dX3_pipes_3 : decode cX3_pipes 3 = .ok (.istore 4, 2) := by decide +kernel
theorem dX3_pipes_5 : decode cX3_pipes 5 = .ok (.iload 4, 2) := by decide +kernel
theorem dX3_pipes_7 : decode cX3_pipes 7 = .ok (.iload_n 2, 1) := by decide +kernel
theorem dX3_pipes_8 : decode cX3_pipes 8 = .ok (.if_icmp .ge 21, 3) := by decide +kernel
theorem dX3_pipes_11 : decode cX3_pipes 11 = .ok (.iload_n 3, 1) := by decide +kernel
theorem dX3_pipes_12 : decode cX3_pipes 12 = .ok (.aload_n 0, 1) := by decide +kernel
theorem dX3_pipes_13 : decode cX3_pipes 13 = .ok (.getfield 34, 3) := by decide +kernel
theorem dX3_pipes_16 : decode cX3_pipes 16 = .ok (.iload 4, 2) := by decide +kernel
theorem dX3_pipes_18 : decode cX3_pipes 18 = .ok (.aaload, 1) := by decide +kernel
theorem dX3_pipes_19 : decode cX3_pipes 19 = .ok (.iconst 1, 1) := by decide +kernel
theorem dX3_pipes_20 : decode cX3_pipes 20 = .ok (.iaload, 1) := by decide +kernel
theorem dX3_pipes_21 : decode cX3_pipes 21 = .ok (.iadd, 1) := by decide +kernel
theorem dX3_pipes_22 : decode cX3_pipes 22 = .ok (.istore_n 3, 1) := by decide +kernel
theorem dX3_pipes_23 : decode cX3_pipes 23 = .ok (.iinc 4 1, 3) := by decide +kernel
theorem dX3_pipes_26 : decode cX3_pipes 26 = .ok (.goto (-21), 3) := by decide +kernel
theorem dX3_pipes_29 : decode cX3_pipes 29 = .ok (.iload_n 3, 1) := by decide +kernel
theorem dX3_pipes_30 : decode cX3_pipes 30 = .ok (.ireturn, 1) := by decide +kernel
theorem dX3_inSaggars_0 : decode cX3_inSaggars 0 = .ok (.aload_n 0, 1) := by decide +kernel
theorem dX3_inSaggars_1 : decode cX3_inSaggars 1 = .ok (.bipush 10, 2) := by decide +kernel
theorem dX3_inSaggars_3 : decode cX3_inSaggars 3 = .ok (.bipush 16, 2) := by decide +kernel
theorem dX3_inSaggars_5 : decode cX3_inSaggars 5 = .ok (.invokevirtual 128, 3) := by decide +kernel
theorem dX3_inSaggars_8 : decode cX3_inSaggars 8 = .ok (.ireturn, 1) := by decide +kernel
theorem dX3_stored_0 : decode cX3_stored 0 = .ok (.iconst 0, 1) := by decide +kernel
theorem dX3_stored_1 : decode cX3_stored 1 = .ok (.istore_n 1, 1) := by decide +kernel
theorem dX3_stored_2 : decode cX3_stored 2 = .ok (.aload_n 0, 1) := by decide +kernel
theorem dX3_stored_3 : decode cX3_stored 3 = .ok (.getfield 37, 3) := by decide +kernel
theorem dX3_stored_6 : decode cX3_stored 6 = .ok (.astore_n 2, 1) := by decide +kernel
theorem dX3_stored_7 : decode cX3_stored 7 = .ok (.aload_n 2, 1) := by decide +kernel
theorem dX3_stored_8 : decode cX3_stored 8 = .ok (.arraylength, 1) := by decide +kernel
theorem dX3_stored_9 : decode cX3_stored 9 = .ok (.istore_n 3, 1) := by decide +kernel
theorem dX3_stored_10 : decode cX3_stored 10 = .ok (.iconst 0, 1) := by decide +kernel
theorem dX3_stored_11 : decode cX3_stored 11 = .ok (.istore 4, 2) := by decide +kernel
theorem dX3_stored_13 : decode cX3_stored 13 = .ok (.iload 4, 2) := by decide +kernel
theorem dX3_stored_15 : decode cX3_stored 15 = .ok (.iload_n 3, 1) := by decide +kernel
theorem dX3_stored_16 : decode cX3_stored 16 = .ok (.if_icmp .ge 20, 3) := by decide +kernel
theorem dX3_stored_19 : decode cX3_stored 19 = .ok (.aload_n 2, 1) := by decide +kernel
theorem dX3_stored_20 : decode cX3_stored 20 = .ok (.iload 4, 2) := by decide +kernel
theorem dX3_stored_22 : decode cX3_stored 22 = .ok (.iaload, 1) := by decide +kernel
theorem dX3_stored_23 : decode cX3_stored 23 = .ok (.istore 5, 2) := by decide +kernel
theorem dX3_stored_25 : decode cX3_stored 25 = .ok (.iload_n 1, 1) := by decide +kernel
theorem dX3_stored_26 : decode cX3_stored 26 = .ok (.iload 5, 2) := by decide +kernel
theorem dX3_stored_28 : decode cX3_stored 28 = .ok (.iadd, 1) := by decide +kernel
theorem dX3_stored_29 : decode cX3_stored 29 = .ok (.istore_n 1, 1) := by decide +kernel
theorem dX3_stored_30 : decode cX3_stored 30 = .ok (.iinc 4 1, 3) := by decide +kernel
theorem dX3_stored_33 : decode cX3_stored 33 = .ok (.goto (-20), 3) := by decide +kernel
theorem dX3_stored_36 : decode cX3_stored 36 = .ok (.iload_n 1, 1) := by decide +kernel
theorem dX3_stored_37 : decode cX3_stored 37 = .ok (.ireturn, 1) := by decide +kernel
theorem dX3_counted_0 : decode cX3_counted 0 = .ok (.bipush 12, 2) := by decide +kernel
theorem dX3_counted_2 : decode cX3_counted 2 = .ok (.newarray .int, 2) := by decide +kernel
theorem dX3_counted_4 : decode cX3_counted 4 = .ok (.dup, 1) := by decide +kernel
theorem dX3_counted_5 : decode cX3_counted 5 = .ok (.iconst 0, 1) := by decide +kernel
theorem dX3_counted_6 : decode cX3_counted 6 = .ok (.aload_n 0, 1) := by decide +kernel
theorem dX3_counted_7 : decode cX3_counted 7 = .ok (.getfield 46, 3) := by decide +kernel
theorem dX3_counted_10 : decode cX3_counted 10 = .ok (.iastore, 1) := by decide +kernel
theorem dX3_counted_11 : decode cX3_counted 11 = .ok (.dup, 1) := by decide +kernel
theorem dX3_counted_12 : decode cX3_counted 12 = .ok (.iconst 1, 1) := by decide +kernel
theorem dX3_counted_13 : decode cX3_counted 13 = .ok (.aload_n 0, 1) := by decide +kernel
theorem dX3_counted_14 : decode cX3_counted 14 = .ok (.getfield 15, 3) := by decide +kernel
theorem dX3_counted_17 : decode cX3_counted 17 = .ok (.iastore, 1) := by decide +kernel
theorem dX3_counted_18 : decode cX3_counted 18 = .ok (.dup, 1) := by decide +kernel
theorem dX3_counted_19 : decode cX3_counted 19 = .ok (.iconst 2, 1) := by decide +kernel
theorem dX3_counted_20 : decode cX3_counted 20 = .ok (.aload_n 0, 1) := by decide +kernel
theorem dX3_counted_21 : decode cX3_counted 21 = .ok (.getfield 19, 3) := by decide +kernel
theorem dX3_counted_24 : decode cX3_counted 24 = .ok (.iastore, 1) := by decide +kernel
theorem dX3_counted_25 : decode cX3_counted 25 = .ok (.dup, 1) := by decide +kernel
theorem dX3_counted_26 : decode cX3_counted 26 = .ok (.iconst 3, 1) := by decide +kernel
theorem dX3_counted_27 : decode cX3_counted 27 = .ok (.aload_n 0, 1) := by decide +kernel
theorem dX3_counted_28 : decode cX3_counted 28 = .ok (.getfield 22, 3) := by decide +kernel
theorem dX3_counted_31 : decode cX3_counted 31 = .ok (.iastore, 1) := by decide +kernel
theorem dX3_counted_32 : decode cX3_counted 32 = .ok (.dup, 1) := by decide +kernel
theorem dX3_counted_33 : decode cX3_counted 33 = .ok (.iconst 4, 1) := by decide +kernel
theorem dX3_counted_34 : decode cX3_counted 34 = .ok (.aload_n 0, 1) := by decide +kernel
theorem dX3_counted_35 : decode cX3_counted 35 = .ok (.getfield 49, 3) := by decide +kernel
theorem dX3_counted_38 : decode cX3_counted 38 = .ok (.iastore, 1) := by decide +kernel
theorem dX3_counted_39 : decode cX3_counted 39 = .ok (.dup, 1) := by decide +kernel
theorem dX3_counted_40 : decode cX3_counted 40 = .ok (.iconst 5, 1) := by decide +kernel
theorem dX3_counted_41 : decode cX3_counted 41 = .ok (.aload_n 0, 1) := by decide +kernel
theorem dX3_counted_42 : decode cX3_counted 42 = .ok (.getfield 52, 3) := by decide +kernel
theorem dX3_counted_45 : decode cX3_counted 45 = .ok (.iastore, 1) := by decide +kernel
theorem dX3_counted_46 : decode cX3_counted 46 = .ok (.dup, 1) := by decide +kernel
theorem dX3_counted_47 : decode cX3_counted 47 = .ok (.bipush 6, 2) := by decide +kernel
theorem dX3_counted_49 : decode cX3_counted 49 = .ok (.aload_n 0, 1) := by decide +kernel
theorem dX3_counted_50 : decode cX3_counted 50 = .ok (.iconst 0, 1) := by decide +kernel
theorem dX3_counted_51 : decode cX3_counted 51 = .ok (.aload_n 0, 1) := by decide +kernel
theorem dX3_counted_52 : decode cX3_counted 52 = .ok (.getfield 61, 3) := by decide +kernel
theorem dX3_counted_55 : decode cX3_counted 55 = .ok (.invokevirtual 128, 3) := by decide +kernel
theorem dX3_counted_58 : decode cX3_counted 58 = .ok (.iastore, 1) := by decide +kernel
theorem dX3_counted_59 : decode cX3_counted 59 = .ok (.dup, 1) := by decide +kernel
theorem dX3_counted_60 : decode cX3_counted 60 = .ok (.bipush 7, 2) := by decide +kernel
theorem dX3_counted_62 : decode cX3_counted 62 = .ok (.aload_n 0, 1) := by decide +kernel
theorem dX3_counted_63 : decode cX3_counted 63 = .ok (.invokevirtual 131, 3) := by decide +kernel
theorem dX3_counted_66 : decode cX3_counted 66 = .ok (.iastore, 1) := by decide +kernel
theorem dX3_counted_67 : decode cX3_counted 67 = .ok (.dup, 1) := by decide +kernel
theorem dX3_counted_68 : decode cX3_counted 68 = .ok (.bipush 8, 2) := by decide +kernel
theorem dX3_counted_70 : decode cX3_counted 70 = .ok (.aload_n 0, 1) := by decide +kernel
theorem dX3_counted_71 : decode cX3_counted 71 = .ok (.invokevirtual 135, 3) := by decide +kernel
theorem dX3_counted_74 : decode cX3_counted 74 = .ok (.iastore, 1) := by decide +kernel
theorem dX3_counted_75 : decode cX3_counted 75 = .ok (.dup, 1) := by decide +kernel
theorem dX3_counted_76 : decode cX3_counted 76 = .ok (.bipush 9, 2) := by decide +kernel
theorem dX3_counted_78 : decode cX3_counted 78 = .ok (.aload_n 0, 1) := by decide +kernel
theorem dX3_counted_79 : decode cX3_counted 79 = .ok (.getfield 64, 3) := by decide +kernel
theorem dX3_counted_82 : decode cX3_counted 82 = .ok (.iastore, 1) := by decide +kernel
theorem dX3_counted_83 : decode cX3_counted 83 = .ok (.dup, 1) := by decide +kernel
theorem dX3_counted_84 : decode cX3_counted 84 = .ok (.bipush 10, 2) := by decide +kernel
theorem dX3_counted_86 : decode cX3_counted 86 = .ok (.aload_n 0, 1) := by decide +kernel
theorem dX3_counted_87 : decode cX3_counted 87 = .ok (.getfield 55, 3) := by decide +kernel
theorem dX3_counted_90 : decode cX3_counted 90 = .ok (.iastore, 1) := by decide +kernel
theorem dX3_counted_91 : decode cX3_counted 91 = .ok (.dup, 1) := by decide +kernel
theorem dX3_counted_92 : decode cX3_counted 92 = .ok (.bipush 11, 2) := by decide +kernel
theorem dX3_counted_94 : decode cX3_counted 94 = .ok (.aload_n 0, 1) := by decide +kernel
theorem dX3_counted_95 : decode cX3_counted 95 = .ok (.getfield 58, 3) := by decide +kernel
theorem dX3_counted_98 : decode cX3_counted 98 = .ok (.iastore, 1) := by decide +kernel
theorem dX3_counted_99 : decode cX3_counted 99 = .ok (.astore_n 2, 1) := by decide +kernel
theorem dX3_counted_100 : decode cX3_counted 100 = .ok (.aload_n 2, 1) := by decide +kernel
theorem dX3_counted_101 : decode cX3_counted 101 = .ok (.iload_n 1, 1) := by decide +kernel
theorem dX3_counted_102 : decode cX3_counted 102 = .ok (.iaload, 1) := by decide +kernel
theorem dX3_counted_103 : decode cX3_counted 103 = .ok (.ireturn, 1) := by decide +kernel
end
section
theorem dX4_init_0 : decode cX4_init 0 = .ok (.aload_n 0, 1) := by decide +kernel
theorem dX4_init_1 : decode cX4_init 1 = .ok (.invokespecial 1, 3) := by decide +kernel
theorem dX4_init_4 : decode cX4_init 4 = .ok (.aload_n 0, 1) := by decide +kernel
theorem dX4_init_5 : decode cX4_init 5 = .ok (.bipush 7, 2) := by decide +kernel
theorem dX4_init_7 : decode cX4_init 7 = .ok (.newarray .int, 2) := by decide +kernel
theorem dX4_init_9 : decode cX4_init 9 = .ok (.dup, 1) := by decide +kernel
theorem dX4_init_10 : decode cX4_init 10 = .ok (.iconst 0, 1) := by decide +kernel
theorem dX4_init_11 : decode cX4_init 11 = .ok (.iconst 1, 1) := by decide +kernel
theorem dX4_init_12 : decode cX4_init 12 = .ok (.iastore, 1) := by decide +kernel
theorem dX4_init_13 : decode cX4_init 13 = .ok (.dup, 1) := by decide +kernel
theorem dX4_init_14 : decode cX4_init 14 = .ok (.iconst 1, 1) := by decide +kernel
theorem dX4_init_15 : decode cX4_init 15 = .ok (.iconst 1, 1) := by decide +kernel
theorem dX4_init_16 : decode cX4_init 16 = .ok (.iastore, 1) := by decide +kernel
theorem dX4_init_17 : decode cX4_init 17 = .ok (.dup, 1) := by decide +kernel
theorem dX4_init_18 : decode cX4_init 18 = .ok (.iconst 2, 1) := by decide +kernel
theorem dX4_init_19 : decode cX4_init 19 = .ok (.iconst 1, 1) := by decide +kernel
theorem dX4_init_20 : decode cX4_init 20 = .ok (.iastore, 1) := by decide +kernel
theorem dX4_init_21 : decode cX4_init 21 = .ok (.dup, 1) := by decide +kernel
theorem dX4_init_22 : decode cX4_init 22 = .ok (.iconst 3, 1) := by decide +kernel
theorem dX4_init_23 : decode cX4_init 23 = .ok (.iconst 1, 1) := by decide +kernel
theorem dX4_init_24 : decode cX4_init 24 = .ok (.iastore, 1) := by decide +kernel
theorem dX4_init_25 : decode cX4_init 25 = .ok (.dup, 1) := by decide +kernel
theorem dX4_init_26 : decode cX4_init 26 = .ok (.iconst 4, 1) := by decide +kernel
theorem dX4_init_27 : decode cX4_init 27 = .ok (.iconst 1, 1) := by decide +kernel
theorem dX4_init_28 : decode cX4_init 28 = .ok (.iastore, 1) := by decide +kernel
theorem dX4_init_29 : decode cX4_init 29 = .ok (.dup, 1) := by decide +kernel
theorem dX4_init_30 : decode cX4_init 30 = .ok (.iconst 5, 1) := by decide +kernel
theorem dX4_init_31 : decode cX4_init 31 = .ok (.iconst 1, 1) := by decide +kernel
theorem dX4_init_32 : decode cX4_init 32 = .ok (.iastore, 1) := by decide +kernel
theorem dX4_init_33 : decode cX4_init 33 = .ok (.dup, 1) := by decide +kernel
theorem dX4_init_34 : decode cX4_init 34 = .ok (.bipush 6, 2) := by decide +kernel
theorem dX4_init_36 : decode cX4_init 36 = .ok (.iconst 1, 1) := by decide +kernel
theorem dX4_init_37 : decode cX4_init 37 = .ok (.iastore, 1) := by decide +kernel
theorem dX4_init_38 : decode cX4_init 38 = .ok (.putfield 7, 3) := by decide +kernel
theorem dX4_init_41 : decode cX4_init 41 = .ok (.aload_n 0, 1) := by decide +kernel
theorem dX4_init_42 : decode cX4_init 42 = .ok (.bipush 6, 2) := by decide +kernel
theorem dX4_init_44 : decode cX4_init 44 = .ok (.newarray .int, 2) := by decide +kernel
theorem dX4_init_46 : decode cX4_init 46 = .ok (.putfield 13, 3) := by decide +kernel
theorem dX4_init_49 : decode cX4_init 49 = .ok (.aload_n 0, 1) := by decide +kernel
theorem dX4_init_50 : decode cX4_init 50 = .ok (.iconst 5, 1) := by decide +kernel
theorem dX4_init_51 : decode cX4_init 51 = .ok (.newarray .int, 2) := by decide +kernel
theorem dX4_init_53 : decode cX4_init 53 = .ok (.putfield 16, 3) := by decide +kernel
theorem dX4_init_56 : decode cX4_init 56 = .ok (.aload_n 0, 1) := by decide +kernel
theorem dX4_init_57 : decode cX4_init 57 = .ok (.iconst 5, 1) := by decide +kernel
theorem dX4_init_58 : decode cX4_init 58 = .ok (.newarray .int, 2) := by decide +kernel
theorem dX4_init_60 : decode cX4_init 60 = .ok (.putfield 19, 3) := by decide +kernel
theorem dX4_init_63 : decode cX4_init 63 = .ok (.aload_n 0, 1) := by decide +kernel
theorem dX4_init_64 : decode cX4_init 64 = .ok (.new 22, 3) := by decide +kernel
theorem dX4_init_67 : decode cX4_init 67 = .ok (.dup, 1) := by decide +kernel
theorem dX4_init_68 : decode cX4_init 68 = .ok (.aload_n 0, 1) := by decide +kernel
theorem dX4_init_69 : decode cX4_init 69 = .ok (.invokespecial 24, 3) := by decide +kernel
theorem dX4_init_72 : decode cX4_init 72 = .ok (.putfield 27, 3) := by decide +kernel
theorem dX4_init_75 : decode cX4_init 75 = .ok (.aload_n 0, 1) := by decide +kernel
theorem dX4_init_76 : decode cX4_init 76 = .ok (.new 22, 3) := by decide +kernel
theorem dX4_init_79 : decode cX4_init 79 = .ok (.dup, 1) := by decide +kernel
theorem dX4_init_80 : decode cX4_init 80 = .ok (.aload_n 0, 1) := by decide +kernel
theorem dX4_init_81 : decode cX4_init 81 = .ok (.invokespecial 24, 3) := by decide +kernel
theorem dX4_init_84 : decode cX4_init 84 = .ok (.putfield 31, 3) := by decide +kernel
theorem dX4_init_87 : decode cX4_init 87 = .ok (.return_, 1) := by decide +kernel
theorem dX4_thrown_0 : decode cX4_thrown 0 = .ok (.aload_n 0, 1) := by decide +kernel
theorem dX4_thrown_1 : decode cX4_thrown 1 = .ok (.getfield 34, 3) := by decide +kernel
theorem dX4_thrown_4 : decode cX4_thrown 4 = .ok (.ireturn, 1) := by decide +kernel
theorem dX4_no_0 : decode cX4_no 0 = .ok (.aload_n 0, 1) := by decide +kernel
theorem dX4_no_1 : decode cX4_no 1 = .ok (.iload_n 1, 1) := by decide +kernel
theorem dX4_no_2 : decode cX4_no 2 = .ok (.putfield 34, 3) := by decide +kernel
theorem dX4_no_5 : decode cX4_no 5 = .ok (.iconst 0, 1) := by decide +kernel
theorem dX4_no_6 : decode cX4_no 6 = .ok (.ireturn, 1) := by decide +kernel
theorem dX4_isIn_0 : decode cX4_isIn 0 = .ok (.iload_n 0, 1) := by decide +kernel
theorem dX4_isIn_1 : decode cX4_isIn 1 = .ok (.iload_n 1, 1) := by decide +kernel
theorem dX4_isIn_2 : decode cX4_isIn 2 = .ok (.if_icmp .lt 12, 3) := by decide +kernel
theorem dX4_isIn_5 : decode cX4_isIn 5 = .ok (.iload_n 0, 1) := by decide +kernel
theorem dX4_isIn_6 : decode cX4_isIn 6 = .ok (.iload_n 2, 1) := by decide +kernel
theorem dX4_isIn_7 : decode cX4_isIn 7 = .ok (.if_icmp .gt 7, 3) := by decide +kernel
theorem dX4_isIn_10 : decode cX4_isIn 10 = .ok (.iconst 1, 1) := by decide +kernel
theorem dX4_isIn_11 : decode cX4_isIn 11 = .ok (.goto 4, 3) := by decide +kernel
theorem dX4_isIn_14 : decode cX4_isIn 14 = .ok (.iconst 0, 1) := by decide +kernel
theorem dX4_isIn_15 : decode cX4_isIn 15 = .ok (.ireturn, 1) := by decide +kernel
theorem dX4_isLength_0 : decode cX4_isLength 0 = .ok (.iload_n 0, 1) := by decide +kernel
theorem dX4_isLength_1 : decode cX4_isLength 1 = .ok (.iconst 4, 1) := by decide +kernel
theorem dX4_isLength_2 : decode cX4_isLength 2 = .ok (.bipush 24, 2) := by decide +kernel
theorem dX4_isLength_4 : decode cX4_isLength 4 = .ok (.invokestatic 38, 3) := by decide +kernel
theorem dX4_isLength_7 : decode cX4_isLength 7 = .ok (.ireturn, 1) := by decide +kernel
theorem dX4_isMould_0 : decode cX4_isMould 0 = .ok (.iload_n 1, 1) := by decide +kernel
theorem dX4_isMould_1 : decode cX4_isMould 1 = .ok (.iconst 0, 1) := by decide +kernel
theorem dX4_isMould_2 : decode cX4_isMould 2 = .ok (.aload_n 0, 1) := by decide +kernel
theorem dX4_isMould_3 : decode cX4_isMould 3 = .ok (.getfield 42, 3) := by decide +kernel
theorem dX4_isMould_6 : decode cX4_isMould 6 = .ok (.iconst 1, 1) := by decide +kernel
theorem dX4_isMould_7 : decode cX4_isMould 7 = .ok (.isub, 1) := by decide +kernel
theorem dX4_isMould_8 : decode cX4_isMould 8 = .ok (.invokestatic 38, 3) := by decide +kernel
theorem dX4_isMould_11 : decode cX4_isMould 11 = .ok (.ireturn, 1) := by decide +kernel
theorem dX4_isMaker_0 : decode cX4_isMaker 0 = .ok (.iload_n 1, 1) := by decide +kernel
theorem dX4_isMaker_1 : decode cX4_isMaker 1 = .ok (.iconst 0, 1) := by decide +kernel
theorem dX4_isMaker_2 : decode cX4_isMaker 2 = .ok (.aload_n 0, 1) := by decide +kernel
theorem dX4_isMaker_3 : decode cX4_isMaker 3 = .ok (.getfield 45, 3) := by decide +kernel
theorem dX4_isMaker_6 : decode cX4_isMaker 6 = .ok (.iconst 1, 1) := by decide +kernel
theorem dX4_isMaker_7 : decode cX4_isMaker 7 = .ok (.isub, 1) := by decide +kernel
theorem dX4_isMaker_8 : decode cX4_isMaker 8 = .ok (.invokestatic 38, 3) := by decide +kernel
theorem dX4_isMaker_11 : decode cX4_isMaker 11 = .ok (.ireturn, 1) := by decide +kernel
theorem dX4_isBatch_0 : decode cX4_isBatch 0 = .ok (.iload_n 1, 1) := by decide +kernel
theorem dX4_isBatch_1 : decode cX4_isBatch 1 = .ok (.iconst 0, 1) := by decide +kernel
theorem dX4_isBatch_2 : decode cX4_isBatch 2 = .ok (.aload_n 0, 1) := by decide +kernel
theorem dX4_isBatch_3 : decode cX4_isBatch 3 = .ok (.getfield 27, 3) := by decide +kernel
theorem dX4_isBatch_6 : decode cX4_isBatch 6 = .ok (.getfield 48, 3) := by decide +kernel
theorem dX4_isBatch_9 : decode cX4_isBatch 9 = .ok (.iconst 1, 1) := by decide +kernel
theorem dX4_isBatch_10 : decode cX4_isBatch 10 = .ok (.isub, 1) := by decide +kernel
theorem dX4_isBatch_11 : decode cX4_isBatch 11 = .ok (.invokestatic 38, 3) := by decide +kernel
theorem dX4_isBatch_14 : decode cX4_isBatch 14 = .ok (.ireturn, 1) := by decide +kernel
theorem dX4_isSaggar_0 : decode cX4_isSaggar 0 = .ok (.iload_n 0, 1) := by decide +kernel
theorem dX4_isSaggar_1 : decode cX4_isSaggar 1 = .ok (.iconst 0, 1) := by decide +kernel
theorem dX4_isSaggar_2 : decode cX4_isSaggar 2 = .ok (.iconst 5, 1) := by decide +kernel
theorem dX4_isSaggar_3 : decode cX4_isSaggar 3 = .ok (.invokestatic 38, 3) := by decide +kernel
theorem dX4_isSaggar_6 : decode cX4_isSaggar 6 = .ok (.ireturn, 1) := by decide +kernel
theorem dX4_clayOf_0 : decode cX4_clayOf 0 = .ok (.aload_n 0, 1) := by decide +kernel
theorem dX4_clayOf_1 : decode cX4_clayOf 1 = .ok (.getfield 13, 3) := by decide +kernel
theorem dX4_clayOf_4 : decode cX4_clayOf 4 = .ok (.iload_n 1, 1) := by decide +kernel
theorem dX4_clayOf_5 : decode cX4_clayOf 5 = .ok (.iaload, 1) := by decide +kernel
theorem dX4_clayOf_6 : decode cX4_clayOf 6 = .ok (.bipush 7, 2) := by decide +kernel
theorem dX4_clayOf_8 : decode cX4_clayOf 8 = .ok (.iadd, 1) := by decide +kernel
theorem dX4_clayOf_9 : decode cX4_clayOf 9 = .ok (.bipush 8, 2) := by decide +kernel
theorem dX4_clayOf_11 : decode cX4_clayOf 11 = .ok (.idiv, 1) := by decide +kernel
theorem dX4_clayOf_12 : decode cX4_clayOf 12 = .ok (.ireturn, 1) := by decide +kernel
theorem dX4_mould_0 : decode cX4_mould 0 = .ok (.aload_n 0, 1) := by decide +kernel
theorem dX4_mould_1 : decode cX4_mould 1 = .ok (.iconst 0, 1) := by decide +kernel
theorem dX4_mould_2 : decode cX4_mould 2 = .ok (.putfield 34, 3) := by decide +kernel
theorem dX4_mould_5 : decode cX4_mould 5 = .ok (.iload_n 1, 1) := by decide +kernel
theorem dX4_mould_6 : decode cX4_mould 6 = .ok (.invokestatic 51, 3) := by decide +kernel
theorem dX4_mould_9 : decode cX4_mould 9 = .ok (.ifCond .eq 13, 3) := by decide +kernel
theorem dX4_mould_12 : decode cX4_mould 12 = .ok (.iload_n 2, 1) := by decide +kernel
theorem dX4_mould_13 : decode cX4_mould 13 = .ok (.iconst 0, 1) := by decide +kernel
theorem dX4_mould_14 : decode cX4_mould 14 = .ok (.bipush 9, 2) := by decide +kernel
theorem dX4_mould_16 : decode cX4_mould 16 = .ok (.invokestatic 38, 3) := by decide +kernel
theorem dX4_mould_19 : decode cX4_mould 19 = .ok (.ifCond .ne 9, 3) := by decide +kernel
theorem dX4_mould_22 : decode cX4_mould 22 = .ok (.aload_n 0, 1) := by decide +kernel
theorem dX4_mould_23 : decode cX4_mould 23 = .ok (.iconst 1, 1) := by decide +kernel
theorem dX4_mould_24 : decode cX4_mould 24 = .ok (.invokevirtual 55, 3) := by decide +kernel
theorem dX4_mould_27 : decode cX4_mould 27 = .ok (.ireturn, 1) := by decide +kernel
theorem dX4_mould_28 : decode cX4_mould 28 = .ok (.aload_n 0, 1) := by decide +kernel
theorem dX4_mould_29 : decode cX4_mould 29 = .ok (.getfield 42, 3) := by decide +kernel
theorem dX4_mould_32 : decode cX4_mould 32 = .ok (.bipush 6, 2) := by decide +kernel
theorem dX4_mould_34 : decode cX4_mould 34 = .ok (.if_icmp .ne 9, 3) := by decide +kernel
theorem dX4_mould_37 : decode cX4_mould 37 = .ok (.aload_n 0, 1) := by decide +kernel
theorem dX4_mould_38 : decode cX4_mould 38 = .ok (.iconst 2, 1) := by decide +kernel
theorem dX4_mould_39 : decode cX4_mould 39 = .ok (.invokevirtual 55, 3) := by decide +kernel
theorem dX4_mould_42 : decode cX4_mould 42 = .ok (.ireturn, 1) := by decide +kernel
theorem dX4_mould_43 : decode cX4_mould 43 = .ok (.aload_n 0, 1) := by decide +kernel
theorem dX4_mould_44 : decode cX4_mould 44 = .ok (.getfield 13, 3) := by decide +kernel
theorem dX4_mould_47 : decode cX4_mould 47 = .ok (.aload_n 0, 1) := by decide +kernel
theorem dX4_mould_48 : decode cX4_mould 48 = .ok (.getfield 42, 3) := by decide +kernel
theorem dX4_mould_51 : decode cX4_mould 51 = .ok (.iload_n 1, 1) := by decide +kernel
theorem dX4_mould_52 : decode cX4_mould 52 = .ok (.iastore, 1) := by decide +kernel
theorem dX4_mould_53 : decode cX4_mould 53 = .ok (.aload_n 0, 1) := by decide +kernel
theorem dX4_mould_54 : decode cX4_mould 54 = .ok (.getfield 27, 3) := by decide +kernel
theorem dX4_mould_57 : decode cX4_mould 57 = .ok (.getfield 59, 3) := by decide +kernel
theorem dX4_mould_60 : decode cX4_mould 60 = .ok (.aload_n 0, 1) := by decide +kernel
theorem dX4_mould_61 : decode cX4_mould 61 = .ok (.getfield 42, 3) := by decide +kernel
theorem dX4_mould_64 : decode cX4_mould 64 = .ok (.iload_n 2, 1) := by decide +kernel
theorem dX4_mould_65 : decode cX4_mould 65 = .ok (.iastore, 1) := by decide +kernel
theorem dX4_mould_66 : decode cX4_mould 66 = .ok (.aload_n 0, 1) := by decide +kernel
theorem dX4_mould_67 : decode cX4_mould 67 = .ok (.dup, 1) := by decide +kernel
theorem dX4_mould_68 : decode cX4_mould 68 = .ok (.getfield 42, 3) := by decide +kernel
theorem dX4_mould_71 : decode cX4_mould 71 = .ok (.iconst 1, 1) := by decide +kernel
theorem dX4_mould_72 : decode cX4_mould 72 = .ok (.iadd, 1) := by decide +kernel
theorem dX4_mould_73 : decode cX4_mould 73 = .ok (.putfield 42, 3) := by decide +kernel
theorem dX4_mould_76 : decode cX4_mould 76 = .ok (.aload_n 0, 1) := by decide +kernel
theorem dX4_mould_77 : decode cX4_mould 77 = .ok (.getfield 42, 3) := by decide +kernel
theorem dX4_mould_80 : decode cX4_mould 80 = .ok (.iconst 1, 1) := by decide +kernel
theorem dX4_mould_81 : decode cX4_mould 81 = .ok (.isub, 1) := by decide +kernel
theorem dX4_mould_82 : decode cX4_mould 82 = .ok (.ireturn, 1) := by decide +kernel
theorem dX4_refit_0 : decode cX4_refit 0 = .ok (.aload_n 0, 1) := by decide +kernel
theorem dX4_refit_1 : decode cX4_refit 1 = .ok (.iconst 0, 1) := by decide +kernel
theorem dX4_refit_2 : decode cX4_refit 2 = .ok (.putfield 34, 3) := by decide +kernel
theorem dX4_refit_5 : decode cX4_refit 5 = .ok (.aload_n 0, 1) := by decide +kernel
theorem dX4_refit_6 : decode cX4_refit 6 = .ok (.iload_n 1, 1) := by decide +kernel
theorem dX4_refit_7 : decode cX4_refit 7 = .ok (.invokevirtual 62, 3) := by decide +kernel
theorem dX4_refit_10 : decode cX4_refit 10 = .ok (.ifCond .ne 9, 3) := by decide +kernel
theorem dX4_refit_13 : decode cX4_refit 13 = .ok (.aload_n 0, 1) := by decide +kernel
theorem dX4_refit_14 : decode cX4_refit 14 = .ok (.iconst 1, 1) := by decide +kernel
theorem dX4_refit_15 : decode cX4_refit 15 = .ok (.invokevirtual 55, 3) := by decide +kernel
theorem dX4_refit_18 : decode cX4_refit 18 = .ok (.ireturn, 1) := by decide +kernel
theorem dX4_refit_19 : decode cX4_refit 19 = .ok (.aload_n 0, 1) := by decide +kernel
theorem dX4_refit_20 : decode cX4_refit 20 = .ok (.getfield 27, 3) := by decide +kernel
theorem dX4_refit_23 : decode cX4_refit 23 = .ok (.getfield 59, 3) := by decide +kernel
theorem dX4_refit_26 : decode cX4_refit 26 = .ok (.iload_n 1, 1) := by decide +kernel
theorem dX4_refit_27 : decode cX4_refit 27 = .ok (.iaload, 1) := by decide +kernel
theorem dX4_refit_28 : decode cX4_refit 28 = .ok (.istore_n 2, 1) := by decide +kernel
theorem dX4_refit_29 : decode cX4_refit 29 = .ok (.iload_n 2, 1) := by decide +kernel
theorem dX4_refit_30 : decode cX4_refit 30 = .ok (.bipush 9, 2) := by decide +kernel
theorem dX4_refit_32 : decode cX4_refit 32 = .ok (.if_icmp .eq 14, 3) := by decide +kernel
theorem dX4_refit_35 : decode cX4_refit 35 = .ok (.aload_n 0, 1) := by decide +kernel
theorem dX4_refit_36 : decode cX4_refit 36 = .ok (.getfield 27, 3) := by decide +kernel
theorem dX4_refit_39 : decode cX4_refit 39 = .ok (.getfield 65, 3) := by decide +kernel
theorem dX4_refit_42 : decode cX4_refit 42 = .ok (.iconst 2, 1) := by decide +kernel
theorem dX4_refit_43 : decode cX4_refit 43 = .ok (.if_icmp .ge 9, 3) := by decide +kernel
theorem dX4_refit_46 : decode cX4_refit 46 = .ok (.aload_n 0, 1) := by decide +kernel
theorem dX4_refit_47 : decode cX4_refit 47 = .ok (.iconst 2, 1) := by decide +kernel
theorem dX4_refit_48 : decode cX4_refit 48 = .ok (.invokevirtual 55, 3) := by decide +kernel
theorem dX4_refit_51 : decode cX4_refit 51 = .ok (.ireturn, 1) := by decide +kernel
theorem dX4_refit_52 : decode cX4_refit 52 = .ok (.aload_n 0, 1) := by decide +kernel
theorem dX4_refit_53 : decode cX4_refit 53 = .ok (.getfield 27, 3) := by decide +kernel
theorem dX4_refit_56 : decode cX4_refit 56 = .ok (.getfield 59, 3) := by decide +kernel
theorem dX4_refit_59 : decode cX4_refit 59 = .ok (.iload_n 1, 1) := by decide +kernel
theorem dX4_refit_60 : decode cX4_refit 60 = .ok (.bipush 9, 2) := by decide +kernel
theorem dX4_refit_62 : decode cX4_refit 62 = .ok (.iastore, 1) := by decide +kernel
theorem dX4_refit_63 : decode cX4_refit 63 = .ok (.aload_n 0, 1) := by decide +kernel
theorem dX4_refit_64 : decode cX4_refit 64 = .ok (.getfield 27, 3) := by decide +kernel
theorem dX4_refit_67 : decode cX4_refit 67 = .ok (.dup, 1) := by decide +kernel
theorem dX4_refit_68 : decode cX4_refit 68 = .ok (.getfield 65, 3) := by decide +kernel
theorem dX4_refit_71 : decode cX4_refit 71 = .ok (.iconst 2, 1) := by decide +kernel
theorem dX4_refit_72 : decode cX4_refit 72 = .ok (.isub, 1) := by decide +kernel
theorem dX4_refit_73 : decode cX4_refit 73 = .ok (.putfield 65, 3) := by decide +kernel
theorem dX4_refit_76 : decode cX4_refit 76 = .ok (.iload_n 2, 1) := by decide +kernel
theorem dX4_refit_77 : decode cX4_refit 77 = .ok (.ireturn, 1) := by decide +kernel
theorem dX4_maker_0 : decode cX4_maker 0 = .ok (.aload_n 0, 1) := by decide +kernel
theorem dX4_maker_1 : decode cX4_maker 1 = .ok (.iconst 0, 1) := by decide +kernel
theorem dX4_maker_2 : decode cX4_maker 2 = .ok (.putfield 34, 3) := by decide +kernel
theorem dX4_maker_5 : decode cX4_maker 5 = .ok (.iload_n 1, 1) := by decide +kernel
theorem dX4_maker_6 : decode cX4_maker 6 = .ok (.iconst 1, 1) := by decide +kernel
theorem dX4_maker_7 : decode cX4_maker 7 = .ok (.bipush 9, 2) := by decide +kernel
theorem dX4_maker_9 : decode cX4_maker 9 = .ok (.invokestatic 38, 3) := by decide +kernel
theorem dX4_maker_12 : decode cX4_maker 12 = .ok (.ifCond .ne 9, 3) := by decide +kernel
theorem dX4_maker_15 : decode cX4_maker 15 = .ok (.aload_n 0, 1) := by decide +kernel
theorem dX4_maker_16 : decode cX4_maker 16 = .ok (.iconst 1, 1) := by decide +kernel
theorem dX4_maker_17 : decode cX4_maker 17 = .ok (.invokevirtual 55, 3) := by decide +kernel
theorem dX4_maker_20 : decode cX4_maker 20 = .ok (.ireturn, 1) := by decide +kernel
theorem dX4_maker_21 : decode cX4_maker 21 = .ok (.aload_n 0, 1) := by decide +kernel
theorem dX4_maker_22 : decode cX4_maker 22 = .ok (.getfield 45, 3) := by decide +kernel
theorem dX4_maker_25 : decode cX4_maker 25 = .ok (.iconst 5, 1) := by decide +kernel
theorem dX4_maker_26 : decode cX4_maker 26 = .ok (.if_icmp .ne 9, 3) := by decide +kernel
theorem dX4_maker_29 : decode cX4_maker 29 = .ok (.aload_n 0, 1) := by decide +kernel
theorem dX4_maker_30 : decode cX4_maker 30 = .ok (.iconst 2, 1) := by decide +kernel
theorem dX4_maker_31 : decode cX4_maker 31 = .ok (.invokevirtual 55, 3) := by decide +kernel
theorem dX4_maker_34 : decode cX4_maker 34 = .ok (.ireturn, 1) := by decide +kernel
theorem dX4_maker_35 : decode cX4_maker 35 = .ok (.aload_n 0, 1) := by decide +kernel
theorem dX4_maker_36 : decode cX4_maker 36 = .ok (.getfield 16, 3) := by decide +kernel
theorem dX4_maker_39 : decode cX4_maker 39 = .ok (.aload_n 0, 1) := by decide +kernel
theorem dX4_maker_40 : decode cX4_maker 40 = .ok (.getfield 45, 3) := by decide +kernel
theorem dX4_maker_43 : decode cX4_maker 43 = .ok (.iload_n 1, 1) := by decide +kernel
theorem dX4_maker_44 : decode cX4_maker 44 = .ok (.iastore, 1) := by decide +kernel
theorem dX4_maker_45 : decode cX4_maker 45 = .ok (.aload_n 0, 1) := by decide +kernel
theorem dX4_maker_46 : decode cX4_maker 46 = .ok (.getfield 19, 3) := by decide +kernel
theorem dX4_maker_49 : decode cX4_maker 49 = .ok (.aload_n 0, 1) := by decide +kernel
theorem dX4_maker_50 : decode cX4_maker 50 = .ok (.getfield 45, 3) := by decide +kernel
theorem dX4_maker_53 : decode cX4_maker 53 = .ok (.iconst (-1), 1) := by decide +kernel
theorem dX4_maker_54 : decode cX4_maker 54 = .ok (.iastore, 1) := by decide +kernel
theorem dX4_maker_55 : decode cX4_maker 55 = .ok (.aload_n 0, 1) := by decide +kernel
theorem dX4_maker_56 : decode cX4_maker 56 = .ok (.dup, 1) := by decide +kernel
theorem dX4_maker_57 : decode cX4_maker 57 = .ok (.getfield 45, 3) := by decide +kernel
theorem dX4_maker_60 : decode cX4_maker 60 = .ok (.iconst 1, 1) := by decide +kernel
theorem dX4_maker_61 : decode cX4_maker 61 = .ok (.iadd, 1) := by decide +kernel
theorem dX4_maker_62 : decode cX4_maker 62 = .ok (.putfield 45, 3) := by decide +kernel
theorem dX4_maker_65 : decode cX4_maker 65 = .ok (.aload_n 0, 1) := by decide +kernel
theorem dX4_maker_66 : decode cX4_maker 66 = .ok (.getfield 45, 3) := by decide +kernel
theorem dX4_maker_69 : decode cX4_maker 69 = .ok (.iconst 1, 1) := by decide +kernel
theorem dX4_maker_70 : decode cX4_maker 70 = .ok (.isub, 1) := by decide +kernel
theorem dX4_maker_71 : decode cX4_maker 71 = .ok (.ireturn, 1) := by decide +kernel
theorem dX4_makerAt_0 : decode cX4_makerAt 0 = .ok (.iconst 0, 1) := by decide +kernel
theorem dX4_makerAt_1 : decode cX4_makerAt 1 = .ok (.istore_n 2, 1) := by decide +kernel
theorem dX4_makerAt_2 : decode cX4_makerAt 2 = .ok (.iload_n 2, 1) := by decide +kernel
theorem dX4_makerAt_3 : decode cX4_makerAt 3 = .ok (.aload_n 0, 1) := by decide +kernel
theorem dX4_makerAt_4 : decode cX4_makerAt 4 = .ok (.getfield 45, 3) := by decide +kernel
theorem dX4_makerAt_7 : decode cX4_makerAt 7 = .ok (.if_icmp .ge 21, 3) := by decide +kernel
theorem dX4_makerAt_10 : decode cX4_makerAt 10 = .ok (.aload_n 0, 1) := by decide +kernel
theorem dX4_makerAt_11 : decode cX4_makerAt 11 = .ok (.getfield 19, 3) := by decide +kernel
theorem dX4_makerAt_14 : decode cX4_makerAt 14 = .ok (.iload_n 2, 1) := by decide +kernel
theorem dX4_makerAt_15 : decode cX4_makerAt 15 = .ok (.iaload, 1) := by decide +kernel
theorem dX4_makerAt_16 : decode cX4_makerAt 16 = .ok (.iload_n 1, 1) := by decide +kernel
theorem dX4_makerAt_17 : decode cX4_makerAt 17 = .ok (.if_icmp .ne 5, 3) := by decide +kernel
theorem dX4_makerAt_20 : decode cX4_makerAt 20 = .ok (.iload_n 2, 1) := by decide +kernel
theorem dX4_makerAt_21 : decode cX4_makerAt 21 = .ok (.ireturn, 1) := by decide +kernel
theorem dX4_makerAt_22 : decode cX4_makerAt 22 = .ok (.iinc 2 1, 3) := by decide +kernel
theorem dX4_makerAt_25 : decode cX4_makerAt 25 = .ok (.goto (-23), 3) := by decide +kernel
theorem dX4_makerAt_28 : decode cX4_makerAt 28 = .ok (.iconst (-1), 1) := by decide +kernel
theorem dX4_makerAt_29 : decode cX4_makerAt 29 = .ok (.ireturn, 1) := by decide +kernel
theorem dX4_place_0 : decode cX4_place 0 = .ok (.aload_n 0, 1) := by decide +kernel
theorem dX4_place_1 : decode cX4_place 1 = .ok (.iconst 0, 1) := by decide +kernel
theorem dX4_place_2 : decode cX4_place 2 = .ok (.putfield 34, 3) := by decide +kernel
theorem dX4_place_5 : decode cX4_place 5 = .ok (.aload_n 0, 1) := by decide +kernel
theorem dX4_place_6 : decode cX4_place 6 = .ok (.iload_n 1, 1) := by decide +kernel
theorem dX4_place_7 : decode cX4_place 7 = .ok (.invokevirtual 68, 3) := by decide +kernel
theorem dX4_place_10 : decode cX4_place 10 = .ok (.ifCond .eq 16, 3) := by decide +kernel
theorem dX4_place_13 : decode cX4_place 13 = .ok (.iload_n 2, 1) := by decide +kernel
theorem dX4_place_14 : decode cX4_place 14 = .ok (.iconst (-1), 1) := by decide +kernel
theorem dX4_place_15 : decode cX4_place 15 = .ok (.if_icmp .eq 17, 3) := by decide +kernel
theorem dX4_place_18 : decode cX4_place 18 = .ok (.aload_n 0, 1) := by decide +kernel
theorem dX4_place_19 : decode cX4_place 19 = .ok (.iload_n 2, 1) := by decide +kernel
theorem dX4_place_20 : decode cX4_place 20 = .ok (.invokevirtual 62, 3) := by decide +kernel
theorem dX4_place_23 : decode cX4_place 23 = .ok (.ifCond .ne 9, 3) := by decide +kernel
theorem dX4_place_26 : decode cX4_place 26 = .ok (.aload_n 0, 1) := by decide +kernel
theorem dX4_place_27 : decode cX4_place 27 = .ok (.iconst 1, 1) := by decide +kernel
theorem dX4_place_28 : decode cX4_place 28 = .ok (.invokevirtual 55, 3) := by decide +kernel
theorem dX4_place_31 : decode cX4_place 31 = .ok (.ireturn, 1) := by decide +kernel
theorem dX4_place_32 : decode cX4_place 32 = .ok (.iload_n 2, 1) := by decide +kernel
theorem dX4_place_33 : decode cX4_place 33 = .ok (.iconst (-1), 1) := by decide +kernel
theorem dX4_place_34 : decode cX4_place 34 = .ok (.if_icmp .eq 27, 3) := by decide +kernel
theorem dX4_place_37 : decode cX4_place 37 = .ok (.aload_n 0, 1) := by decide +kernel
theorem dX4_place_38 : decode cX4_place 38 = .ok (.iload_n 2, 1) := by decide +kernel
theorem dX4_place_39 : decode cX4_place 39 = .ok (.invokevirtual 71, 3) := by decide +kernel
theorem dX4_place_42 : decode cX4_place 42 = .ok (.iconst (-1), 1) := by decide +kernel
theorem dX4_place_43 : decode cX4_place 43 = .ok (.if_icmp .eq 18, 3) := by decide +kernel
theorem dX4_place_46 : decode cX4_place 46 = .ok (.aload_n 0, 1) := by decide +kernel
theorem dX4_place_47 : decode cX4_place 47 = .ok (.iload_n 2, 1) := by decide +kernel
theorem dX4_place_48 : decode cX4_place 48 = .ok (.invokevirtual 71, 3) := by decide +kernel
theorem dX4_place_51 : decode cX4_place 51 = .ok (.iload_n 1, 1) := by decide +kernel
theorem dX4_place_52 : decode cX4_place 52 = .ok (.if_icmp .eq 9, 3) := by decide +kernel
theorem dX4_place_55 : decode cX4_place 55 = .ok (.aload_n 0, 1) := by decide +kernel
theorem dX4_place_56 : decode cX4_place 56 = .ok (.iconst 2, 1) := by decide +kernel
theorem dX4_place_57 : decode cX4_place 57 = .ok (.invokevirtual 55, 3) := by decide +kernel
theorem dX4_place_60 : decode cX4_place 60 = .ok (.ireturn, 1) := by decide +kernel
theorem dX4_place_61 : decode cX4_place 61 = .ok (.aload_n 0, 1) := by decide +kernel
theorem dX4_place_62 : decode cX4_place 62 = .ok (.getfield 19, 3) := by decide +kernel
theorem dX4_place_65 : decode cX4_place 65 = .ok (.iload_n 1, 1) := by decide +kernel
theorem dX4_place_66 : decode cX4_place 66 = .ok (.iaload, 1) := by decide +kernel
theorem dX4_place_67 : decode cX4_place 67 = .ok (.istore_n 3, 1) := by decide +kernel
theorem dX4_place_68 : decode cX4_place 68 = .ok (.aload_n 0, 1) := by decide +kernel
theorem dX4_place_69 : decode cX4_place 69 = .ok (.getfield 19, 3) := by decide +kernel
theorem dX4_place_72 : decode cX4_place 72 = .ok (.iload_n 1, 1) := by decide +kernel
theorem dX4_place_73 : decode cX4_place 73 = .ok (.iload_n 2, 1) := by decide +kernel
theorem dX4_place_74 : decode cX4_place 74 = .ok (.iastore, 1) := by decide +kernel
theorem dX4_place_75 : decode cX4_place 75 = .ok (.iload_n 3, 1) := by decide +kernel
theorem dX4_place_76 : decode cX4_place 76 = .ok (.ireturn, 1) := by decide +kernel
theorem dX4_buy_0 : decode cX4_buy 0 = .ok (.aload_n 0, 1) := by decide +kernel
theorem dX4_buy_1 : decode cX4_buy 1 = .ok (.iconst 0, 1) := by decide +kernel
theorem dX4_buy_2 : decode cX4_buy 2 = .ok (.putfield 34, 3) := by decide +kernel
theorem dX4_buy_5 : decode cX4_buy 5 = .ok (.iload_n 1, 1) := by decide +kernel
theorem dX4_buy_6 : decode cX4_buy 6 = .ok (.iconst 0, 1) := by decide +kernel
theorem dX4_buy_7 : decode cX4_buy 7 = .ok (.iconst 1, 1) := by decide +kernel
theorem dX4_buy_8 : decode cX4_buy 8 = .ok (.invokestatic 38, 3) := by decide +kernel
theorem dX4_buy_11 : decode cX4_buy 11 = .ok (.ifCond .ne 9, 3) := by decide +kernel
theorem dX4_buy_14 : decode cX4_buy 14 = .ok (.aload_n 0, 1) := by decide +kernel
theorem dX4_buy_15 : decode cX4_buy 15 = .ok (.iconst 1, 1) := by decide +kernel
theorem dX4_buy_16 : decode cX4_buy 16 = .ok (.invokevirtual 55, 3) := by decide +kernel
theorem dX4_buy_19 : decode cX4_buy 19 = .ok (.ireturn, 1) := by decide +kernel
theorem dX4_buy_20 : decode cX4_buy 20 = .ok (.iload_n 2, 1) := by decide +kernel
theorem dX4_buy_21 : decode cX4_buy 21 = .ok (.iconst 1, 1) := by decide +kernel
theorem dX4_buy_22 : decode cX4_buy 22 = .ok (.sipush 200, 3) := by decide +kernel
theorem dX4_buy_25 : decode cX4_buy 25 = .ok (.invokestatic 38, 3) := by decide +kernel
theorem dX4_buy_28 : decode cX4_buy 28 = .ok (.ifCond .ne 9, 3) := by decide +kernel
theorem dX4_buy_31 : decode cX4_buy 31 = .ok (.aload_n 0, 1) := by decide +kernel
theorem dX4_buy_32 : decode cX4_buy 32 = .ok (.iconst 2, 1) := by decide +kernel
theorem dX4_buy_33 : decode cX4_buy 33 = .ok (.invokevirtual 55, 3) := by decide +kernel
theorem dX4_buy_36 : decode cX4_buy 36 = .ok (.ireturn, 1) := by decide +kernel
theorem dX4_buy_37 : decode cX4_buy 37 = .ok (.iload_n 1, 1) := by decide +kernel
theorem dX4_buy_38 : decode cX4_buy 38 = .ok (.ifCond .ne 11, 3) := by decide +kernel
theorem dX4_buy_41 : decode cX4_buy 41 = .ok (.iload_n 2, 1) := by decide +kernel
theorem dX4_buy_42 : decode cX4_buy 42 = .ok (.iconst 3, 1) := by decide +kernel
theorem dX4_buy_43 : decode cX4_buy 43 = .ok (.iadd, 1) := by decide +kernel
theorem dX4_buy_44 : decode cX4_buy 44 = .ok (.iconst 4, 1) := by decide +kernel
theorem dX4_buy_45 : decode cX4_buy 45 = .ok (.idiv, 1) := by decide +kernel
theorem dX4_buy_46 : decode cX4_buy 46 = .ok (.goto 4, 3) := by decide +kernel
theorem dX4_buy_49 : decode cX4_buy 49 = .ok (.iload_n 2, 1) := by decide +kernel
theorem dX4_buy_50 : decode cX4_buy 50 = .ok (.istore_n 3, 1) := by decide +kernel
theorem dX4_buy_51 : decode cX4_buy 51 = .ok (.aload_n 0, 1) := by decide +kernel
theorem dX4_buy_52 : decode cX4_buy 52 = .ok (.getfield 27, 3) := by decide +kernel
theorem dX4_buy_55 : decode cX4_buy 55 = .ok (.getfield 65, 3) := by decide +kernel
theorem dX4_buy_58 : decode cX4_buy 58 = .ok (.iload_n 3, 1) := by decide +kernel
theorem dX4_buy_59 : decode cX4_buy 59 = .ok (.if_icmp .ge 9, 3) := by decide +kernel
theorem dX4_buy_62 : decode cX4_buy 62 = .ok (.aload_n 0, 1) := by decide +kernel
theorem dX4_buy_63 : decode cX4_buy 63 = .ok (.iconst 3, 1) := by decide +kernel
theorem dX4_buy_64 : decode cX4_buy 64 = .ok (.invokevirtual 55, 3) := by decide +kernel
theorem dX4_buy_67 : decode cX4_buy 67 = .ok (.ireturn, 1) := by decide +kernel
theorem dX4_buy_68 : decode cX4_buy 68 = .ok (.aload_n 0, 1) := by decide +kernel
theorem dX4_buy_69 : decode cX4_buy 69 = .ok (.getfield 27, 3) := by decide +kernel
theorem dX4_buy_72 : decode cX4_buy 72 = .ok (.dup, 1) := by decide +kernel
theorem dX4_buy_73 : decode cX4_buy 73 = .ok (.getfield 65, 3) := by decide +kernel
theorem dX4_buy_76 : decode cX4_buy 76 = .ok (.iload_n 3, 1) := by decide +kernel
theorem dX4_buy_77 : decode cX4_buy 77 = .ok (.isub, 1) := by decide +kernel
theorem dX4_buy_78 : decode cX4_buy 78 = .ok (.putfield 65, 3) := by decide +kernel
theorem dX4_buy_81 : decode cX4_buy 81 = .ok (.aload_n 0, 1) := by decide +kernel
theorem dX4_buy_82 : decode cX4_buy 82 = .ok (.getfield 27, 3) := by decide +kernel
theorem dX4_buy_85 : decode cX4_buy 85 = .ok (.dup, 1) := by decide +kernel
theorem dX4_buy_86 : decode cX4_buy 86 = .ok (.getfield 74, 3) := by decide +kernel
theorem dX4_buy_89 : decode cX4_buy 89 = .ok (.iload_n 1, 1) := by decide +kernel
theorem dX4_buy_90 : decode cX4_buy 90 = .ok (.ifCond .ne 7, 3) := by decide +kernel
theorem dX4_buy_93 : decode cX4_buy 93 = .ok (.iload_n 2, 1) := by decide +kernel
theorem dX4_buy_94 : decode cX4_buy 94 = .ok (.goto 4, 3) := by decide +kernel
theorem dX4_buy_97 : decode cX4_buy 97 = .ok (.iconst 0, 1) := by decide +kernel
theorem dX4_buy_98 : decode cX4_buy 98 = .ok (.iadd, 1) := by decide +kernel
theorem dX4_buy_99 : decode cX4_buy 99 = .ok (.putfield 74, 3) := by decide +kernel
theorem dX4_buy_102 : decode cX4_buy 102 = .ok (.aload_n 0, 1) := by decide +kernel
theorem dX4_buy_103 : decode cX4_buy 103 = .ok (.getfield 27, 3) := by decide +kernel
theorem dX4_buy_106 : decode cX4_buy 106 = .ok (.dup, 1) := by decide +kernel
theorem dX4_buy_107 : decode cX4_buy 107 = .ok (.getfield 77, 3) := by decide +kernel
theorem dX4_buy_110 : decode cX4_buy 110 = .ok (.iload_n 1, 1) := by decide +kernel
theorem dX4_buy_111 : decode cX4_buy 111 = .ok (.iconst 1, 1) := by decide +kernel
theorem dX4_buy_112 : decode cX4_buy 112 = .ok (.if_icmp .ne 7, 3) := by decide +kernel
theorem dX4_buy_115 : decode cX4_buy 115 = .ok (.iload_n 2, 1) := by decide +kernel
theorem dX4_buy_116 : decode cX4_buy 116 = .ok (.goto 4, 3) := by decide +kernel
theorem dX4_buy_119 : decode cX4_buy 119 = .ok (.iconst 0, 1) := by decide +kernel
theorem dX4_buy_120 : decode cX4_buy 120 = .ok (.iadd, 1) := by decide +kernel
theorem dX4_buy_121 : decode cX4_buy 121 = .ok (.putfield 77, 3) := by decide +kernel
theorem dX4_buy_124 : decode cX4_buy 124 = .ok (.iload_n 1, 1) := by decide +kernel
theorem dX4_buy_125 : decode cX4_buy 125 = .ok (.ifCond .ne 13, 3) := by decide +kernel
theorem dX4_buy_128 : decode cX4_buy 128 = .ok (.aload_n 0, 1) := by decide +kernel
theorem dX4_buy_129 : decode cX4_buy 129 = .ok (.getfield 27, 3) := by decide +kernel
theorem dX4_buy_132 : decode cX4_buy 132 = .ok (.getfield 74, 3) := by decide +kernel
theorem dX4_buy_135 : decode cX4_buy 135 = .ok (.goto 10, 3) := by decide +kernel
theorem dX4_buy_138 : decode cX4_buy 138 = .ok (.aload_n 0, 1) := by decide +kernel
theorem dX4_buy_139 : decode cX4_buy 139 = .ok (.getfield 27, 3) := by decide +kernel
theorem dX4_buy_142 : decode cX4_buy 142 = .ok (.getfield 77, 3) := by decide +kernel
theorem dX4_buy_145 : decode cX4_buy 145 = .ok (.ireturn, 1) := by decide +kernel
theorem dX4_setDry_0 : decode cX4_setDry 0 = .ok (.aload_n 0, 1) := by decide +kernel
theorem dX4_setDry_1 : decode cX4_setDry 1 = .ok (.iconst 0, 1) := by decide +kernel
theorem dX4_setDry_2 : decode cX4_setDry 2 = .ok (.putfield 34, 3) := by decide +kernel
theorem dX4_setDry_5 : decode cX4_setDry 5 = .ok (.iload_n 1, 1) := by decide +kernel
theorem dX4_setDry_6 : decode cX4_setDry 6 = .ok (.iconst 0, 1) := by decide +kernel
theorem dX4_setDry_7 : decode cX4_setDry 7 = .ok (.bipush 6, 2) := by decide +kernel
theorem dX4_setDry_9 : decode cX4_setDry 9 = .ok (.invokestatic 38, 3) := by decide +kernel
theorem dX4_setDry_12 : decode cX4_setDry 12 = .ok (.ifCond .ne 9, 3) := by decide +kernel
theorem dX4_setDry_15 : decode cX4_setDry 15 = .ok (.aload_n 0, 1) := by decide +kernel
theorem dX4_setDry_16 : decode cX4_setDry 16 = .ok (.iconst 1, 1) := by decide +kernel
theorem dX4_setDry_17 : decode cX4_setDry 17 = .ok (.invokevirtual 55, 3) := by decide +kernel
theorem dX4_setDry_20 : decode cX4_setDry 20 = .ok (.ireturn, 1) := by decide +kernel
theorem dX4_setDry_21 : decode cX4_setDry 21 = .ok (.iload_n 2, 1) := by decide +kernel
theorem dX4_setDry_22 : decode cX4_setDry 22 = .ok (.iconst 0, 1) := by decide +kernel
theorem dX4_setDry_23 : decode cX4_setDry 23 = .ok (.iconst 3, 1) := by decide +kernel
theorem dX4_setDry_24 : decode cX4_setDry 24 = .ok (.invokestatic 38, 3) := by decide +kernel
theorem dX4_setDry_27 : decode cX4_setDry 27 = .ok (.ifCond .ne 9, 3) := by decide +kernel
theorem dX4_setDry_30 : decode cX4_setDry 30 = .ok (.aload_n 0, 1) := by decide +kernel
theorem dX4_setDry_31 : decode cX4_setDry 31 = .ok (.iconst 2, 1) := by decide +kernel
theorem dX4_setDry_32 : decode cX4_setDry 32 = .ok (.invokevirtual 55, 3) := by decide +kernel
theorem dX4_setDry_35 : decode cX4_setDry 35 = .ok (.ireturn, 1) := by decide +kernel
theorem dX4_setDry_36 : decode cX4_setDry 36 = .ok (.aload_n 0, 1) := by decide +kernel
theorem dX4_setDry_37 : decode cX4_setDry 37 = .ok (.getfield 7, 3) := by decide +kernel
theorem dX4_setDry_40 : decode cX4_setDry 40 = .ok (.iload_n 1, 1) := by decide +kernel
theorem dX4_setDry_41 : decode cX4_setDry 41 = .ok (.iaload, 1) := by decide +kernel
theorem dX4_setDry_42 : decode cX4_setDry 42 = .ok (.istore_n 3, 1) := by decide +kernel
theorem dX4_setDry_43 : decode cX4_setDry 43 = .ok (.aload_n 0, 1) := by decide +kernel
theorem dX4_setDry_44 : decode cX4_setDry 44 = .ok (.getfield 7, 3) := by decide +kernel
theorem dX4_setDry_47 : decode cX4_setDry 47 = .ok (.iload_n 1, 1) := by decide +kernel
theorem dX4_setDry_48 : decode cX4_setDry 48 = .ok (.iload_n 2, 1) := by decide +kernel
theorem dX4_setDry_49 : decode cX4_setDry 49 = .ok (.iastore, 1) := by decide +kernel
theorem dX4_setDry_50 : decode cX4_setDry 50 = .ok (.iload_n 3, 1) := by decide +kernel
theorem dX4_setDry_51 : decode cX4_setDry 51 = .ok (.ireturn, 1) := by decide +kernel
theorem dX4_pack_0 : decode cX4_pack 0 = .ok (.aload_n 0, 1) := by decide +kernel
theorem dX4_pack_1 : decode cX4_pack 1 = .ok (.iconst 0, 1) := by decide +kernel
theorem dX4_pack_2 : decode cX4_pack 2 = .ok (.putfield 34, 3) := by decide +kernel
theorem dX4_pack_5 : decode cX4_pack 5 = .ok (.aload_n 0, 1) := by decide +kernel
theorem dX4_pack_6 : decode cX4_pack 6 = .ok (.iload_n 1, 1) := by decide +kernel
theorem dX4_pack_7 : decode cX4_pack 7 = .ok (.invokevirtual 80, 3) := by decide +kernel
theorem dX4_pack_10 : decode cX4_pack 10 = .ok (.ifCond .eq 10, 3) := by decide +kernel
theorem dX4_pack_13 : decode cX4_pack 13 = .ok (.iload_n 2, 1) := by decide +kernel
theorem dX4_pack_14 : decode cX4_pack 14 = .ok (.invokestatic 83, 3) := by decide +kernel
theorem dX4_pack_17 : decode cX4_pack 17 = .ok (.ifCond .ne 9, 3) := by decide +kernel
theorem dX4_pack_20 : decode cX4_pack 20 = .ok (.aload_n 0, 1) := by decide +kernel
theorem dX4_pack_21 : decode cX4_pack 21 = .ok (.iconst 1, 1) := by decide +kernel
theorem dX4_pack_22 : decode cX4_pack 22 = .ok (.invokevirtual 55, 3) := by decide +kernel
theorem dX4_pack_25 : decode cX4_pack 25 = .ok (.ireturn, 1) := by decide +kernel
theorem dX4_pack_26 : decode cX4_pack 26 = .ok (.iload_n 3, 1) := by decide +kernel
theorem dX4_pack_27 : decode cX4_pack 27 = .ok (.iconst 1, 1) := by decide +kernel
theorem dX4_pack_28 : decode cX4_pack 28 = .ok (.bipush 24, 2) := by decide +kernel
theorem dX4_pack_30 : decode cX4_pack 30 = .ok (.invokestatic 38, 3) := by decide +kernel
theorem dX4_pack_33 : decode cX4_pack 33 = .ok (.ifCond .ne 9, 3) := by decide +kernel
theorem dX4_pack_36 : decode cX4_pack 36 = .ok (.aload_n 0, 1) := by decide +kernel
theorem dX4_pack_37 : decode cX4_pack 37 = .ok (.iconst 2, 1) := by decide +kernel
theorem dX4_pack_38 : decode cX4_pack 38 = .ok (.invokevirtual 55, 3) := by decide +kernel
theorem dX4_pack_41 : decode cX4_pack 41 = .ok (.ireturn, 1) := by decide +kernel
theorem dX4_pack_42 : decode cX4_pack 42 = .ok (.aload_n 0, 1) := by decide +kernel
theorem dX4_pack_43 : decode cX4_pack 43 = .ok (.getfield 27, 3) := by decide +kernel
theorem dX4_pack_46 : decode cX4_pack 46 = .ok (.getfield 86, 3) := by decide +kernel
theorem dX4_pack_49 : decode cX4_pack 49 = .ok (.iload_n 1, 1) := by decide +kernel
theorem dX4_pack_50 : decode cX4_pack 50 = .ok (.aaload, 1) := by decide +kernel
theorem dX4_pack_51 : decode cX4_pack 51 = .ok (.astore 4, 2) := by decide +kernel
theorem dX4_pack_53 : decode cX4_pack 53 = .ok (.aload_n 0, 1) := by decide +kernel
theorem dX4_pack_54 : decode cX4_pack 54 = .ok (.getfield 27, 3) := by decide +kernel
theorem dX4_pack_57 : decode cX4_pack 57 = .ok (.iload_n 2, 1) := by decide +kernel
theorem dX4_pack_58 : decode cX4_pack 58 = .ok (.invokevirtual 90, 3) := by decide +kernel
theorem dX4_pack_61 : decode cX4_pack 61 = .ok (.iconst 1, 1) := by decide +kernel
theorem dX4_pack_62 : decode cX4_pack 62 = .ok (.iaload, 1) := by decide +kernel
theorem dX4_pack_63 : decode cX4_pack 63 = .ok (.ifCond .gt 11, 3) := by decide +kernel
theorem dX4_pack_66 : decode cX4_pack 66 = .ok (.aload 4, 2) := by decide +kernel
theorem dX4_pack_68 : decode cX4_pack 68 = .ok (.iconst 1, 1) := by decide +kernel
theorem dX4_pack_69 : decode cX4_pack 69 = .ok (.iaload, 1) := by decide +kernel
theorem dX4_pack_70 : decode cX4_pack 70 = .ok (.iload_n 3, 1) := by decide +kernel
theorem dX4_pack_71 : decode cX4_pack 71 = .ok (.if_icmp .ge 9, 3) := by decide +kernel
theorem dX4_pack_74 : decode cX4_pack 74 = .ok (.aload_n 0, 1) := by decide +kernel
theorem dX4_pack_75 : decode cX4_pack 75 = .ok (.iconst 3, 1) := by decide +kernel
theorem dX4_pack_76 : decode cX4_pack 76 = .ok (.invokevirtual 55, 3) := by decide +kernel
theorem dX4_pack_79 : decode cX4_pack 79 = .ok (.ireturn, 1) := by decide +kernel
theorem dX4_pack_80 : decode cX4_pack 80 = .ok (.aload_n 0, 1) := by decide +kernel
theorem dX4_pack_81 : decode cX4_pack 81 = .ok (.getfield 27, 3) := by decide +kernel
theorem dX4_pack_84 : decode cX4_pack 84 = .ok (.aload_n 0, 1) := by decide +kernel
theorem dX4_pack_85 : decode cX4_pack 85 = .ok (.getfield 27, 3) := by decide +kernel
theorem dX4_pack_88 : decode cX4_pack 88 = .ok (.iload_n 2, 1) := by decide +kernel
theorem dX4_pack_89 : decode cX4_pack 89 = .ok (.invokevirtual 90, 3) := by decide +kernel
theorem dX4_pack_92 : decode cX4_pack 92 = .ok (.aload 4, 2) := by decide +kernel
theorem dX4_pack_94 : decode cX4_pack 94 = .ok (.iconst 0, 1) := by decide +kernel
theorem dX4_pack_95 : decode cX4_pack 95 = .ok (.iaload, 1) := by decide +kernel
theorem dX4_pack_96 : decode cX4_pack 96 = .ok (.iload_n 3, 1) := by decide +kernel
theorem dX4_pack_97 : decode cX4_pack 97 = .ok (.aload 4, 2) := by decide +kernel
theorem dX4_pack_99 : decode cX4_pack 99 = .ok (.iconst 2, 1) := by decide +kernel
theorem dX4_pack_100 : decode cX4_pack 100 = .ok (.iaload, 1) := by decide +kernel
theorem dX4_pack_101 : decode cX4_pack 101 = .ok (.aload 4, 2) := by decide +kernel
theorem dX4_pack_103 : decode cX4_pack 103 = .ok (.iconst 3, 1) := by decide +kernel
theorem dX4_pack_104 : decode cX4_pack 104 = .ok (.iaload, 1) := by decide +kernel
theorem dX4_pack_105 : decode cX4_pack 105 = .ok (.invokevirtual 94, 3) := by decide +kernel
theorem dX4_pack_108 : decode cX4_pack 108 = .ok (.aload 4, 2) := by decide +kernel
theorem dX4_pack_110 : decode cX4_pack 110 = .ok (.iconst 1, 1) := by decide +kernel
theorem dX4_pack_111 : decode cX4_pack 111 = .ok (.dup2, 1) := by decide +kernel
theorem dX4_pack_112 : decode cX4_pack 112 = .ok (.iaload, 1) := by decide +kernel
theorem dX4_pack_113 : decode cX4_pack 113 = .ok (.iload_n 3, 1) := by decide +kernel
theorem dX4_pack_114 : decode cX4_pack 114 = .ok (.isub, 1) := by decide +kernel
theorem dX4_pack_115 : decode cX4_pack 115 = .ok (.iastore, 1) := by decide +kernel
theorem dX4_pack_116 : decode cX4_pack 116 = .ok (.aload 4, 2) := by decide +kernel
theorem dX4_pack_118 : decode cX4_pack 118 = .ok (.iconst 1, 1) := by decide +kernel
theorem dX4_pack_119 : decode cX4_pack 119 = .ok (.iaload, 1) := by decide +kernel
theorem dX4_pack_120 : decode cX4_pack 120 = .ok (.istore 5, 2) := by decide +kernel
theorem dX4_pack_122 : decode cX4_pack 122 = .ok (.iload 5, 2) := by decide +kernel
theorem dX4_pack_124 : decode cX4_pack 124 = .ok (.ifCond .ne 11, 3) := by decide +kernel
theorem dX4_pack_127 : decode cX4_pack 127 = .ok (.aload_n 0, 1) := by decide +kernel
theorem dX4_pack_128 : decode cX4_pack 128 = .ok (.getfield 27, 3) := by decide +kernel
theorem dX4_pack_131 : decode cX4_pack 131 = .ok (.iload_n 1, 1) := by decide +kernel
theorem dX4_pack_132 : decode cX4_pack 132 = .ok (.invokevirtual 98, 3) := by decide +kernel
theorem dX4_pack_135 : decode cX4_pack 135 = .ok (.iload 5, 2) := by decide +kernel
theorem dX4_pack_137 : decode cX4_pack 137 = .ok (.ireturn, 1) := by decide +kernel
theorem dX4_fire_0 : decode cX4_fire 0 = .ok (.aload_n 0, 1) := by decide +kernel
theorem dX4_fire_1 : decode cX4_fire 1 = .ok (.iconst 0, 1) := by decide +kernel
theorem dX4_fire_2 : decode cX4_fire 2 = .ok (.putfield 34, 3) := by decide +kernel
theorem dX4_fire_5 : decode cX4_fire 5 = .ok (.iload_n 1, 1) := by decide +kernel
theorem dX4_fire_6 : decode cX4_fire 6 = .ok (.iconst 1, 1) := by decide +kernel
theorem dX4_fire_7 : decode cX4_fire 7 = .ok (.bipush 30, 2) := by decide +kernel
theorem dX4_fire_9 : decode cX4_fire 9 = .ok (.invokestatic 38, 3) := by decide +kernel
theorem dX4_fire_12 : decode cX4_fire 12 = .ok (.ifCond .ne 9, 3) := by decide +kernel
theorem dX4_fire_15 : decode cX4_fire 15 = .ok (.aload_n 0, 1) := by decide +kernel
theorem dX4_fire_16 : decode cX4_fire 16 = .ok (.iconst 1, 1) := by decide +kernel
theorem dX4_fire_17 : decode cX4_fire 17 = .ok (.invokevirtual 55, 3) := by decide +kernel
theorem dX4_fire_20 : decode cX4_fire 20 = .ok (.ireturn, 1) := by decide +kernel
theorem dX4_fire_21 : decode cX4_fire 21 = .ok (.aload_n 0, 1) := by decide +kernel
theorem dX4_fire_22 : decode cX4_fire 22 = .ok (.getfield 27, 3) := by decide +kernel
theorem dX4_fire_25 : decode cX4_fire 25 = .ok (.getfield 77, 3) := by decide +kernel
theorem dX4_fire_28 : decode cX4_fire 28 = .ok (.iload_n 1, 1) := by decide +kernel
theorem dX4_fire_29 : decode cX4_fire 29 = .ok (.if_icmp .lt 13, 3) := by decide +kernel
theorem dX4_fire_32 : decode cX4_fire 32 = .ok (.aload_n 0, 1) := by decide +kernel
theorem dX4_fire_33 : decode cX4_fire 33 = .ok (.getfield 27, 3) := by decide +kernel
theorem dX4_fire_36 : decode cX4_fire 36 = .ok (.invokevirtual 102, 3) := by decide +kernel
theorem dX4_fire_39 : decode cX4_fire 39 = .ok (.ifCond .ne 9, 3) := by decide +kernel
theorem dX4_fire_42 : decode cX4_fire 42 = .ok (.aload_n 0, 1) := by decide +kernel
theorem dX4_fire_43 : decode cX4_fire 43 = .ok (.iconst 2, 1) := by decide +kernel
theorem dX4_fire_44 : decode cX4_fire 44 = .ok (.invokevirtual 55, 3) := by decide +kernel
theorem dX4_fire_47 : decode cX4_fire 47 = .ok (.ireturn, 1) := by decide +kernel
theorem dX4_fire_48 : decode cX4_fire 48 = .ok (.aload_n 0, 1) := by decide +kernel
theorem dX4_fire_49 : decode cX4_fire 49 = .ok (.getfield 27, 3) := by decide +kernel
theorem dX4_fire_52 : decode cX4_fire 52 = .ok (.dup, 1) := by decide +kernel
theorem dX4_fire_53 : decode cX4_fire 53 = .ok (.getfield 77, 3) := by decide +kernel
theorem dX4_fire_56 : decode cX4_fire 56 = .ok (.iload_n 1, 1) := by decide +kernel
theorem dX4_fire_57 : decode cX4_fire 57 = .ok (.isub, 1) := by decide +kernel
theorem dX4_fire_58 : decode cX4_fire 58 = .ok (.putfield 77, 3) := by decide +kernel
theorem dX4_fire_61 : decode cX4_fire 61 = .ok (.iconst 0, 1) := by decide +kernel
theorem dX4_fire_62 : decode cX4_fire 62 = .ok (.istore_n 2, 1) := by decide +kernel
theorem dX4_fire_63 : decode cX4_fire 63 = .ok (.iconst 0, 1) := by decide +kernel
theorem dX4_fire_64 : decode cX4_fire 64 = .ok (.istore_n 3, 1) := by decide +kernel
theorem dX4_fire_65 : decode cX4_fire 65 = .ok (.iload_n 3, 1) := by decide +kernel
theorem dX4_fire_66 : decode cX4_fire 66 = .ok (.bipush 6, 2) := by decide +kernel
theorem dX4_fire_68 : decode cX4_fire 68 = .ok (.if_icmp .ge 89, 3) := by decide +kernel
theorem dX4_fire_71 : decode cX4_fire 71 = .ok (.aload_n 0, 1) := by decide +kernel
theorem dX4_fire_72 : decode cX4_fire 72 = .ok (.getfield 27, 3) := by decide +kernel
theorem dX4_fire_75 : decode cX4_fire 75 = .ok (.iload_n 3, 1) := by decide +kernel
theorem dX4_fire_76 : decode cX4_fire 76 = .ok (.invokevirtual 90, 3) := by decide +kernel
theorem dX4_fire_79 : decode cX4_fire 79 = .ok (.astore 4, 2) := by decide +kernel
theorem dX4_fire_81 : decode cX4_fire 81 = .ok (.aload_n 0, 1) := by decide +kernel
theorem dX4_fire_82 : decode cX4_fire 82 = .ok (.getfield 27, 3) := by decide +kernel
theorem dX4_fire_85 : decode cX4_fire 85 = .ok (.iload_n 3, 1) := by decide +kernel
theorem dX4_fire_86 : decode cX4_fire 86 = .ok (.iload_n 1, 1) := by decide +kernel
theorem dX4_fire_87 : decode cX4_fire 87 = .ok (.invokevirtual 106, 3) := by decide +kernel
theorem dX4_fire_90 : decode cX4_fire 90 = .ok (.istore 5, 2) := by decide +kernel
theorem dX4_fire_92 : decode cX4_fire 92 = .ok (.aload_n 0, 1) := by decide +kernel
theorem dX4_fire_93 : decode cX4_fire 93 = .ok (.getfield 27, 3) := by decide +kernel
theorem dX4_fire_96 : decode cX4_fire 96 = .ok (.dup, 1) := by decide +kernel
theorem dX4_fire_97 : decode cX4_fire 97 = .ok (.getfield 110, 3) := by decide +kernel
theorem dX4_fire_100 : decode cX4_fire 100 = .ok (.iload 5, 2) := by decide +kernel
theorem dX4_fire_102 : decode cX4_fire 102 = .ok (.iadd, 1) := by decide +kernel
theorem dX4_fire_103 : decode cX4_fire 103 = .ok (.putfield 110, 3) := by decide +kernel
theorem dX4_fire_106 : decode cX4_fire 106 = .ok (.iload_n 2, 1) := by decide +kernel
theorem dX4_fire_107 : decode cX4_fire 107 = .ok (.aload 4, 2) := by decide +kernel
theorem dX4_fire_109 : decode cX4_fire 109 = .ok (.iconst 1, 1) := by decide +kernel
theorem dX4_fire_110 : decode cX4_fire 110 = .ok (.iaload, 1) := by decide +kernel
theorem dX4_fire_111 : decode cX4_fire 111 = .ok (.iload 5, 2) := by decide +kernel
theorem dX4_fire_113 : decode cX4_fire 113 = .ok (.isub, 1) := by decide +kernel
theorem dX4_fire_114 : decode cX4_fire 114 = .ok (.iadd, 1) := by decide +kernel
theorem dX4_fire_115 : decode cX4_fire 115 = .ok (.istore_n 2, 1) := by decide +kernel
theorem dX4_fire_116 : decode cX4_fire 116 = .ok (.aload_n 0, 1) := by decide +kernel
theorem dX4_fire_117 : decode cX4_fire 117 = .ok (.getfield 27, 3) := by decide +kernel
theorem dX4_fire_120 : decode cX4_fire 120 = .ok (.getfield 113, 3) := by decide +kernel
theorem dX4_fire_123 : decode cX4_fire 123 = .ok (.aload 4, 2) := by decide +kernel
theorem dX4_fire_125 : decode cX4_fire 125 = .ok (.iconst 0, 1) := by decide +kernel
theorem dX4_fire_126 : decode cX4_fire 126 = .ok (.iaload, 1) := by decide +kernel
theorem dX4_fire_127 : decode cX4_fire 127 = .ok (.dup2, 1) := by decide +kernel
theorem dX4_fire_128 : decode cX4_fire 128 = .ok (.iaload, 1) := by decide +kernel
theorem dX4_fire_129 : decode cX4_fire 129 = .ok (.aload 4, 2) := by decide +kernel
theorem dX4_fire_131 : decode cX4_fire 131 = .ok (.iconst 1, 1) := by decide +kernel
theorem dX4_fire_132 : decode cX4_fire 132 = .ok (.iaload, 1) := by decide +kernel
theorem dX4_fire_133 : decode cX4_fire 133 = .ok (.iload 5, 2) := by decide +kernel
theorem dX4_fire_135 : decode cX4_fire 135 = .ok (.isub, 1) := by decide +kernel
theorem dX4_fire_136 : decode cX4_fire 136 = .ok (.iadd, 1) := by decide +kernel
theorem dX4_fire_137 : decode cX4_fire 137 = .ok (.iastore, 1) := by decide +kernel
theorem dX4_fire_138 : decode cX4_fire 138 = .ok (.aload_n 0, 1) := by decide +kernel
theorem dX4_fire_139 : decode cX4_fire 139 = .ok (.getfield 27, 3) := by decide +kernel
theorem dX4_fire_142 : decode cX4_fire 142 = .ok (.aload 4, 2) := by decide +kernel
theorem dX4_fire_144 : decode cX4_fire 144 = .ok (.iconst 0, 1) := by decide +kernel
theorem dX4_fire_145 : decode cX4_fire 145 = .ok (.iconst 0, 1) := by decide +kernel
theorem dX4_fire_146 : decode cX4_fire 146 = .ok (.iconst 0, 1) := by decide +kernel
theorem dX4_fire_147 : decode cX4_fire 147 = .ok (.iconst 0, 1) := by decide +kernel
theorem dX4_fire_148 : decode cX4_fire 148 = .ok (.invokevirtual 94, 3) := by decide +kernel
theorem dX4_fire_151 : decode cX4_fire 151 = .ok (.iinc 3 1, 3) := by decide +kernel
theorem dX4_fire_154 : decode cX4_fire 154 = .ok (.goto (-89), 3) := by decide +kernel
theorem dX4_fire_157 : decode cX4_fire 157 = .ok (.iload_n 2, 1) := by decide +kernel
theorem dX4_fire_158 : decode cX4_fire 158 = .ok (.ireturn, 1) := by decide +kernel
theorem dX4_order_0 : decode cX4_order 0 = .ok (.aload_n 0, 1) := by decide +kernel
theorem dX4_order_1 : decode cX4_order 1 = .ok (.iconst 0, 1) := by decide +kernel
theorem dX4_order_2 : decode cX4_order 2 = .ok (.putfield 34, 3) := by decide +kernel
theorem dX4_order_5 : decode cX4_order 5 = .ok (.iload_n 1, 1) := by decide +kernel
theorem dX4_order_6 : decode cX4_order 6 = .ok (.invokestatic 51, 3) := by decide +kernel
theorem dX4_order_9 : decode cX4_order 9 = .ok (.ifCond .eq 34, 3) := by decide +kernel
theorem dX4_order_12 : decode cX4_order 12 = .ok (.iload_n 2, 1) := by decide +kernel
theorem dX4_order_13 : decode cX4_order 13 = .ok (.iconst 1, 1) := by decide +kernel
theorem dX4_order_14 : decode cX4_order 14 = .ok (.bipush 99, 2) := by decide +kernel
theorem dX4_order_16 : decode cX4_order 16 = .ok (.invokestatic 38, 3) := by decide +kernel
theorem dX4_order_19 : decode cX4_order 19 = .ok (.ifCond .eq 24, 3) := by decide +kernel
theorem dX4_order_22 : decode cX4_order 22 = .ok (.iload_n 3, 1) := by decide +kernel
theorem dX4_order_23 : decode cX4_order 23 = .ok (.iconst 0, 1) := by decide +kernel
theorem dX4_order_24 : decode cX4_order 24 = .ok (.bipush 30, 2) := by decide +kernel
theorem dX4_order_26 : decode cX4_order 26 = .ok (.invokestatic 38, 3) := by decide +kernel
theorem dX4_order_29 : decode cX4_order 29 = .ok (.ifCond .eq 14, 3) := by decide +kernel
theorem dX4_order_32 : decode cX4_order 32 = .ok (.iload 4, 2) := by decide +kernel
theorem dX4_order_34 : decode cX4_order 34 = .ok (.iconst 1, 1) := by decide +kernel
theorem dX4_order_35 : decode cX4_order 35 = .ok (.bipush 99, 2) := by decide +kernel
theorem dX4_order_37 : decode cX4_order 37 = .ok (.invokestatic 38, 3) := by decide +kernel
theorem dX4_order_40 : decode cX4_order 40 = .ok (.ifCond .ne 9, 3) := by decide +kernel
theorem dX4_order_43 : decode cX4_order 43 = .ok (.aload_n 0, 1) := by decide +kernel
theorem dX4_order_44 : decode cX4_order 44 = .ok (.iconst 1, 1) := by decide +kernel
theorem dX4_order_45 : decode cX4_order 45 = .ok (.invokevirtual 55, 3) := by decide +kernel
theorem dX4_order_48 : decode cX4_order 48 = .ok (.ireturn, 1) := by decide +kernel
theorem dX4_order_49 : decode cX4_order 49 = .ok (.aload_n 0, 1) := by decide +kernel
theorem dX4_order_50 : decode cX4_order 50 = .ok (.getfield 27, 3) := by decide +kernel
theorem dX4_order_53 : decode cX4_order 53 = .ok (.getfield 116, 3) := by decide +kernel
theorem dX4_order_56 : decode cX4_order 56 = .ok (.bipush 8, 2) := by decide +kernel
theorem dX4_order_58 : decode cX4_order 58 = .ok (.if_icmp .ne 9, 3) := by decide +kernel
theorem dX4_order_61 : decode cX4_order 61 = .ok (.aload_n 0, 1) := by decide +kernel
theorem dX4_order_62 : decode cX4_order 62 = .ok (.iconst 2, 1) := by decide +kernel
theorem dX4_order_63 : decode cX4_order 63 = .ok (.invokevirtual 55, 3) := by decide +kernel
theorem dX4_order_66 : decode cX4_order 66 = .ok (.ireturn, 1) := by decide +kernel
theorem dX4_order_67 : decode cX4_order 67 = .ok (.iconst 5, 1) := by decide +kernel
theorem dX4_order_68 : decode cX4_order 68 = .ok (.newarray .int, 2) := by decide +kernel
theorem dX4_order_70 : decode cX4_order 70 = .ok (.dup, 1) := by decide +kernel
theorem dX4_order_71 : decode cX4_order 71 = .ok (.iconst 0, 1) := by decide +kernel
theorem dX4_order_72 : decode cX4_order 72 = .ok (.iload_n 1, 1) := by decide +kernel
theorem dX4_order_73 : decode cX4_order 73 = .ok (.iastore, 1) := by decide +kernel
theorem dX4_order_74 : decode cX4_order 74 = .ok (.dup, 1) := by decide +kernel
theorem dX4_order_75 : decode cX4_order 75 = .ok (.iconst 1, 1) := by decide +kernel
theorem dX4_order_76 : decode cX4_order 76 = .ok (.iload_n 2, 1) := by decide +kernel
theorem dX4_order_77 : decode cX4_order 77 = .ok (.iastore, 1) := by decide +kernel
theorem dX4_order_78 : decode cX4_order 78 = .ok (.dup, 1) := by decide +kernel
theorem dX4_order_79 : decode cX4_order 79 = .ok (.iconst 2, 1) := by decide +kernel
theorem dX4_order_80 : decode cX4_order 80 = .ok (.iload_n 3, 1) := by decide +kernel
theorem dX4_order_81 : decode cX4_order 81 = .ok (.iastore, 1) := by decide +kernel
theorem dX4_order_82 : decode cX4_order 82 = .ok (.dup, 1) := by decide +kernel
theorem dX4_order_83 : decode cX4_order 83 = .ok (.iconst 3, 1) := by decide +kernel
theorem dX4_order_84 : decode cX4_order 84 = .ok (.iload 4, 2) := by decide +kernel
theorem dX4_order_86 : decode cX4_order 86 = .ok (.iastore, 1) := by decide +kernel
theorem dX4_order_87 : decode cX4_order 87 = .ok (.dup, 1) := by decide +kernel
theorem dX4_order_88 : decode cX4_order 88 = .ok (.iconst 4, 1) := by decide +kernel
theorem dX4_order_89 : decode cX4_order 89 = .ok (.iconst 0, 1) := by decide +kernel
theorem dX4_order_90 : decode cX4_order 90 = .ok (.iastore, 1) := by decide +kernel
theorem dX4_order_91 : decode cX4_order 91 = .ok (.astore 5, 2) := by decide +kernel
theorem dX4_order_93 : decode cX4_order 93 = .ok (.aload 5, 2) := by decide +kernel
theorem dX4_order_95 : decode cX4_order 95 = .ok (.iconst 0, 1) := by decide +kernel
theorem dX4_order_96 : decode cX4_order 96 = .ok (.aload_n 0, 1) := by decide +kernel
theorem dX4_order_97 : decode cX4_order 97 = .ok (.getfield 27, 3) := by decide +kernel
theorem dX4_order_100 : decode cX4_order 100 = .ok (.getfield 119, 3) := by decide +kernel
theorem dX4_order_103 : decode cX4_order 103 = .ok (.aload_n 0, 1) := by decide +kernel
theorem dX4_order_104 : decode cX4_order 104 = .ok (.getfield 27, 3) := by decide +kernel
theorem dX4_order_107 : decode cX4_order 107 = .ok (.getfield 116, 3) := by decide +kernel
theorem dX4_order_110 : decode cX4_order 110 = .ok (.aaload, 1) := by decide +kernel
theorem dX4_order_111 : decode cX4_order 111 = .ok (.iconst 0, 1) := by decide +kernel
theorem dX4_order_112 : decode cX4_order 112 = .ok (.iconst 5, 1) := by decide +kernel
theorem dX4_order_113 : decode cX4_order 113 = .ok (.invokestatic 122, 3) := by decide +kernel
theorem dX4_order_116 : decode cX4_order 116 = .ok (.aload_n 0, 1) := by decide +kernel
theorem dX4_order_117 : decode cX4_order 117 = .ok (.getfield 27, 3) := by decide +kernel
theorem dX4_order_120 : decode cX4_order 120 = .ok (.dup, 1) := by decide +kernel
theorem dX4_order_121 : decode cX4_order 121 = .ok (.getfield 116, 3) := by decide +kernel
theorem dX4_order_124 : decode cX4_order 124 = .ok (.iconst 1, 1) := by decide +kernel
theorem dX4_order_125 : decode cX4_order 125 = .ok (.iadd, 1) := by decide +kernel
theorem dX4_order_126 : decode cX4_order 126 = .ok (.putfield 116, 3) := by decide +kernel
theorem dX4_order_129 : decode cX4_order 129 = .ok (.aload_n 0, 1) := by decide +kernel
theorem dX4_order_130 : decode cX4_order 130 = .ok (.getfield 27, 3) := by decide +kernel
theorem dX4_order_133 : decode cX4_order 133 = .ok (.getfield 116, 3) := by decide +kernel
theorem dX4_order_136 : decode cX4_order 136 = .ok (.ireturn, 1) := by decide +kernel
theorem dX4_mouldTold_0 : decode cX4_mouldTold 0 = .ok (.bipush 6, 2) := by decide +kernel
theorem dX4_mouldTold_2 : decode cX4_mouldTold 2 = .ok (.newarray .int, 2) := by decide +kernel
theorem dX4_mouldTold_4 : decode cX4_mouldTold 4 = .ok (.dup, 1) := by decide +kernel
theorem dX4_mouldTold_5 : decode cX4_mouldTold 5 = .ok (.iconst 0, 1) := by decide +kernel
theorem dX4_mouldTold_6 : decode cX4_mouldTold 6 = .ok (.aload_n 0, 1) := by decide +kernel
theorem dX4_mouldTold_7 : decode cX4_mouldTold 7 = .ok (.getfield 13, 3) := by decide +kernel
theorem dX4_mouldTold_10 : decode cX4_mouldTold 10 = .ok (.iload_n 1, 1) := by decide +kernel
theorem dX4_mouldTold_11 : decode cX4_mouldTold 11 = .ok (.iaload, 1) := by decide +kernel
theorem dX4_mouldTold_12 : decode cX4_mouldTold 12 = .ok (.iastore, 1) := by decide +kernel
theorem dX4_mouldTold_13 : decode cX4_mouldTold 13 = .ok (.dup, 1) := by decide +kernel
theorem dX4_mouldTold_14 : decode cX4_mouldTold 14 = .ok (.iconst 1, 1) := by decide +kernel
theorem dX4_mouldTold_15 : decode cX4_mouldTold 15 = .ok (.aload_n 0, 1) := by decide +kernel
theorem dX4_mouldTold_16 : decode cX4_mouldTold 16 = .ok (.getfield 27, 3) := by decide +kernel
theorem dX4_mouldTold_19 : decode cX4_mouldTold 19 = .ok (.getfield 59, 3) := by decide +kernel
theorem dX4_mouldTold_22 : decode cX4_mouldTold 22 = .ok (.iload_n 1, 1) := by decide +kernel
theorem dX4_mouldTold_23 : decode cX4_mouldTold 23 = .ok (.iaload, 1) := by decide +kernel
theorem dX4_mouldTold_24 : decode cX4_mouldTold 24 = .ok (.iastore, 1) := by decide +kernel
theorem dX4_mouldTold_25 : decode cX4_mouldTold 25 = .ok (.dup, 1) := by decide +kernel
theorem dX4_mouldTold_26 : decode cX4_mouldTold 26 = .ok (.iconst 2, 1) := by decide +kernel
theorem dX4_mouldTold_27 : decode cX4_mouldTold 27 = .ok (.aload_n 0, 1) := by decide +kernel
theorem dX4_mouldTold_28 : decode cX4_mouldTold 28 = .ok (.getfield 27, 3) := by decide +kernel
theorem dX4_mouldTold_31 : decode cX4_mouldTold 31 = .ok (.getfield 128, 3) := by decide +kernel
theorem dX4_mouldTold_34 : decode cX4_mouldTold 34 = .ok (.iload_n 1, 1) := by decide +kernel
theorem dX4_mouldTold_35 : decode cX4_mouldTold 35 = .ok (.iaload, 1) := by decide +kernel
theorem dX4_mouldTold_36 : decode cX4_mouldTold 36 = .ok (.iastore, 1) := by decide +kernel
theorem dX4_mouldTold_37 : decode cX4_mouldTold 37 = .ok (.dup, 1) := by decide +kernel
theorem dX4_mouldTold_38 : decode cX4_mouldTold 38 = .ok (.iconst 3, 1) := by decide +kernel
theorem dX4_mouldTold_39 : decode cX4_mouldTold 39 = .ok (.aload_n 0, 1) := by decide +kernel
theorem dX4_mouldTold_40 : decode cX4_mouldTold 40 = .ok (.getfield 27, 3) := by decide +kernel
theorem dX4_mouldTold_43 : decode cX4_mouldTold 43 = .ok (.iload_n 1, 1) := by decide +kernel
theorem dX4_mouldTold_44 : decode cX4_mouldTold 44 = .ok (.invokevirtual 131, 3) := by decide +kernel
theorem dX4_mouldTold_47 : decode cX4_mouldTold 47 = .ok (.iastore, 1) := by decide +kernel
theorem dX4_mouldTold_48 : decode cX4_mouldTold 48 = .ok (.dup, 1) := by decide +kernel
theorem dX4_mouldTold_49 : decode cX4_mouldTold 49 = .ok (.iconst 4, 1) := by decide +kernel
theorem dX4_mouldTold_50 : decode cX4_mouldTold 50 = .ok (.aload_n 0, 1) := by decide +kernel
theorem dX4_mouldTold_51 : decode cX4_mouldTold 51 = .ok (.iload_n 1, 1) := by decide +kernel
theorem dX4_mouldTold_52 : decode cX4_mouldTold 52 = .ok (.invokevirtual 134, 3) := by decide +kernel
theorem dX4_mouldTold_55 : decode cX4_mouldTold 55 = .ok (.iastore, 1) := by decide +kernel
theorem dX4_mouldTold_56 : decode cX4_mouldTold 56 = .ok (.dup, 1) := by decide +kernel
theorem dX4_mouldTold_57 : decode cX4_mouldTold 57 = .ok (.iconst 5, 1) := by decide +kernel
theorem dX4_mouldTold_58 : decode cX4_mouldTold 58 = .ok (.aload_n 0, 1) := by decide +kernel
theorem dX4_mouldTold_59 : decode cX4_mouldTold 59 = .ok (.iload_n 1, 1) := by decide +kernel
theorem dX4_mouldTold_60 : decode cX4_mouldTold 60 = .ok (.invokevirtual 71, 3) := by decide +kernel
theorem dX4_mouldTold_63 : decode cX4_mouldTold 63 = .ok (.iastore, 1) := by decide +kernel
theorem dX4_mouldTold_64 : decode cX4_mouldTold 64 = .ok (.astore_n 3, 1) := by decide +kernel
theorem dX4_mouldTold_65 : decode cX4_mouldTold 65 = .ok (.aload_n 3, 1) := by decide +kernel
theorem dX4_mouldTold_66 : decode cX4_mouldTold 66 = .ok (.iload_n 2, 1) := by decide +kernel
theorem dX4_mouldTold_67 : decode cX4_mouldTold 67 = .ok (.iaload, 1) := by decide +kernel
theorem dX4_mouldTold_68 : decode cX4_mouldTold 68 = .ok (.ireturn, 1) := by decide +kernel
theorem dX4_about_0 : decode cX4_about 0 = .ok (.aload_n 0, 1) := by decide +kernel
theorem dX4_about_1 : decode cX4_about 1 = .ok (.iconst 0, 1) := by decide +kernel
theorem dX4_about_2 : decode cX4_about 2 = .ok (.putfield 34, 3) := by decide +kernel
theorem dX4_about_5 : decode cX4_about 5 = .ok (.aload_n 0, 1) := by decide +kernel
theorem dX4_about_6 : decode cX4_about 6 = .ok (.iload_n 1, 1) := by decide +kernel
theorem dX4_about_7 : decode cX4_about 7 = .ok (.invokevirtual 62, 3) := by decide +kernel
theorem dX4_about_10 : decode cX4_about 10 = .ok (.ifCond .eq 21, 3) := by decide +kernel
theorem dX4_about_13 : decode cX4_about 13 = .ok (.iload_n 2, 1) := by decide +kernel
theorem dX4_about_14 : decode cX4_about 14 = .ok (.iconst 0, 1) := by decide +kernel
theorem dX4_about_15 : decode cX4_about 15 = .ok (.iconst 5, 1) := by decide +kernel
theorem dX4_about_16 : decode cX4_about 16 = .ok (.invokestatic 38, 3) := by decide +kernel
theorem dX4_about_19 : decode cX4_about 19 = .ok (.ifCond .eq 12, 3) := by decide +kernel
theorem dX4_about_22 : decode cX4_about 22 = .ok (.aload_n 0, 1) := by decide +kernel
theorem dX4_about_23 : decode cX4_about 23 = .ok (.iload_n 1, 1) := by decide +kernel
theorem dX4_about_24 : decode cX4_about 24 = .ok (.iload_n 2, 1) := by decide +kernel
theorem dX4_about_25 : decode cX4_about 25 = .ok (.invokevirtual 137, 3) := by decide +kernel
theorem dX4_about_28 : decode cX4_about 28 = .ok (.goto 8, 3) := by decide +kernel
theorem dX4_about_31 : decode cX4_about 31 = .ok (.aload_n 0, 1) := by decide +kernel
theorem dX4_about_32 : decode cX4_about 32 = .ok (.iconst 1, 1) := by decide +kernel
theorem dX4_about_33 : decode cX4_about 33 = .ok (.invokevirtual 55, 3) := by decide +kernel
theorem dX4_about_36 : decode cX4_about 36 = .ok (.ireturn, 1) := by decide +kernel
theorem dX4_makerTold_0 : decode cX4_makerTold 0 = .ok (.iload_n 2, 1) := by decide +kernel
theorem dX4_makerTold_1 : decode cX4_makerTold 1 = .ok (.ifCond .ne 12, 3) := by decide +kernel
theorem dX4_makerTold_4 : decode cX4_makerTold 4 = .ok (.aload_n 0, 1) := by decide +kernel
theorem dX4_makerTold_5 : decode cX4_makerTold 5 = .ok (.getfield 16, 3) := by decide +kernel
theorem dX4_makerTold_8 : decode cX4_makerTold 8 = .ok (.iload_n 1, 1) := by decide +kernel
theorem dX4_makerTold_9 : decode cX4_makerTold 9 = .ok (.iaload, 1) := by decide +kernel
theorem dX4_makerTold_10 : decode cX4_makerTold 10 = .ok (.goto 9, 3) := by decide +kernel
theorem dX4_makerTold_13 : decode cX4_makerTold 13 = .ok (.aload_n 0, 1) := by decide +kernel
theorem dX4_makerTold_14 : decode cX4_makerTold 14 = .ok (.getfield 19, 3) := by decide +kernel
theorem dX4_makerTold_17 : decode cX4_makerTold 17 = .ok (.iload_n 1, 1) := by decide +kernel
theorem dX4_makerTold_18 : decode cX4_makerTold 18 = .ok (.iaload, 1) := by decide +kernel
theorem dX4_makerTold_19 : decode cX4_makerTold 19 = .ok (.ireturn, 1) := by decide +kernel
theorem dX4_told_0 : decode cX4_told 0 = .ok (.aload_n 0, 1) := by decide +kernel
theorem dX4_told_1 : decode cX4_told 1 = .ok (.iconst 0, 1) := by decide +kernel
theorem dX4_told_2 : decode cX4_told 2 = .ok (.putfield 34, 3) := by decide +kernel
theorem dX4_told_5 : decode cX4_told 5 = .ok (.aload_n 0, 1) := by decide +kernel
theorem dX4_told_6 : decode cX4_told 6 = .ok (.iload_n 1, 1) := by decide +kernel
theorem dX4_told_7 : decode cX4_told 7 = .ok (.invokevirtual 68, 3) := by decide +kernel
theorem dX4_told_10 : decode cX4_told 10 = .ok (.ifCond .eq 21, 3) := by decide +kernel
theorem dX4_told_13 : decode cX4_told 13 = .ok (.iload_n 2, 1) := by decide +kernel
theorem dX4_told_14 : decode cX4_told 14 = .ok (.iconst 0, 1) := by decide +kernel
theorem dX4_told_15 : decode cX4_told 15 = .ok (.iconst 1, 1) := by decide +kernel
theorem dX4_told_16 : decode cX4_told 16 = .ok (.invokestatic 38, 3) := by decide +kernel
theorem dX4_told_19 : decode cX4_told 19 = .ok (.ifCond .eq 12, 3) := by decide +kernel
theorem dX4_told_22 : decode cX4_told 22 = .ok (.aload_n 0, 1) := by decide +kernel
theorem dX4_told_23 : decode cX4_told 23 = .ok (.iload_n 1, 1) := by decide +kernel
theorem dX4_told_24 : decode cX4_told 24 = .ok (.iload_n 2, 1) := by decide +kernel
theorem dX4_told_25 : decode cX4_told 25 = .ok (.invokevirtual 140, 3) := by decide +kernel
theorem dX4_told_28 : decode cX4_told 28 = .ok (.goto 8, 3) := by decide +kernel
theorem dX4_told_31 : decode cX4_told 31 = .ok (.aload_n 0, 1) := by decide +kernel
theorem dX4_told_32 : decode cX4_told 32 = .ok (.iconst 1, 1) := by decide +kernel
theorem dX4_told_33 : decode cX4_told 33 = .ok (.invokevirtual 55, 3) := by decide +kernel
theorem dX4_told_36 : decode cX4_told 36 = .ok (.ireturn, 1) := by decide +kernel
theorem dX4_batch_0 : decode cX4_batch 0 = .ok (.aload_n 0, 1) := by decide +kernel
theorem dX4_batch_1 : decode cX4_batch 1 = .ok (.iconst 0, 1) := by decide +kernel
theorem dX4_batch_2 : decode cX4_batch 2 = .ok (.putfield 34, 3) := by decide +kernel
theorem dX4_batch_5 : decode cX4_batch 5 = .ok (.aload_n 0, 1) := by decide +kernel
theorem dX4_batch_6 : decode cX4_batch 6 = .ok (.iload_n 1, 1) := by decide +kernel
theorem dX4_batch_7 : decode cX4_batch 7 = .ok (.invokevirtual 80, 3) := by decide +kernel
theorem dX4_batch_10 : decode cX4_batch 10 = .ok (.ifCond .eq 26, 3) := by decide +kernel
theorem dX4_batch_13 : decode cX4_batch 13 = .ok (.iload_n 2, 1) := by decide +kernel
theorem dX4_batch_14 : decode cX4_batch 14 = .ok (.iconst 0, 1) := by decide +kernel
theorem dX4_batch_15 : decode cX4_batch 15 = .ok (.iconst 3, 1) := by decide +kernel
theorem dX4_batch_16 : decode cX4_batch 16 = .ok (.invokestatic 38, 3) := by decide +kernel
theorem dX4_batch_19 : decode cX4_batch 19 = .ok (.ifCond .eq 17, 3) := by decide +kernel
theorem dX4_batch_22 : decode cX4_batch 22 = .ok (.aload_n 0, 1) := by decide +kernel
theorem dX4_batch_23 : decode cX4_batch 23 = .ok (.getfield 27, 3) := by decide +kernel
theorem dX4_batch_26 : decode cX4_batch 26 = .ok (.getfield 86, 3) := by decide +kernel
theorem dX4_batch_29 : decode cX4_batch 29 = .ok (.iload_n 1, 1) := by decide +kernel
theorem dX4_batch_30 : decode cX4_batch 30 = .ok (.aaload, 1) := by decide +kernel
theorem dX4_batch_31 : decode cX4_batch 31 = .ok (.iload_n 2, 1) := by decide +kernel
theorem dX4_batch_32 : decode cX4_batch 32 = .ok (.iaload, 1) := by decide +kernel
theorem dX4_batch_33 : decode cX4_batch 33 = .ok (.goto 8, 3) := by decide +kernel
theorem dX4_batch_36 : decode cX4_batch 36 = .ok (.aload_n 0, 1) := by decide +kernel
theorem dX4_batch_37 : decode cX4_batch 37 = .ok (.iconst 1, 1) := by decide +kernel
theorem dX4_batch_38 : decode cX4_batch 38 = .ok (.invokevirtual 55, 3) := by decide +kernel
theorem dX4_batch_41 : decode cX4_batch 41 = .ok (.ireturn, 1) := by decide +kernel
theorem dX4_saggar_0 : decode cX4_saggar 0 = .ok (.aload_n 0, 1) := by decide +kernel
theorem dX4_saggar_1 : decode cX4_saggar 1 = .ok (.iconst 0, 1) := by decide +kernel
theorem dX4_saggar_2 : decode cX4_saggar 2 = .ok (.putfield 34, 3) := by decide +kernel
theorem dX4_saggar_5 : decode cX4_saggar 5 = .ok (.iload_n 1, 1) := by decide +kernel
theorem dX4_saggar_6 : decode cX4_saggar 6 = .ok (.invokestatic 83, 3) := by decide +kernel
theorem dX4_saggar_9 : decode cX4_saggar 9 = .ok (.ifCond .eq 25, 3) := by decide +kernel
theorem dX4_saggar_12 : decode cX4_saggar 12 = .ok (.iload_n 2, 1) := by decide +kernel
theorem dX4_saggar_13 : decode cX4_saggar 13 = .ok (.iconst 0, 1) := by decide +kernel
theorem dX4_saggar_14 : decode cX4_saggar 14 = .ok (.iconst 3, 1) := by decide +kernel
theorem dX4_saggar_15 : decode cX4_saggar 15 = .ok (.invokestatic 38, 3) := by decide +kernel
theorem dX4_saggar_18 : decode cX4_saggar 18 = .ok (.ifCond .eq 16, 3) := by decide +kernel
theorem dX4_saggar_21 : decode cX4_saggar 21 = .ok (.aload_n 0, 1) := by decide +kernel
theorem dX4_saggar_22 : decode cX4_saggar 22 = .ok (.getfield 27, 3) := by decide +kernel
theorem dX4_saggar_25 : decode cX4_saggar 25 = .ok (.iload_n 1, 1) := by decide +kernel
theorem dX4_saggar_26 : decode cX4_saggar 26 = .ok (.invokevirtual 90, 3) := by decide +kernel
theorem dX4_saggar_29 : decode cX4_saggar 29 = .ok (.iload_n 2, 1) := by decide +kernel
theorem dX4_saggar_30 : decode cX4_saggar 30 = .ok (.iaload, 1) := by decide +kernel
theorem dX4_saggar_31 : decode cX4_saggar 31 = .ok (.goto 8, 3) := by decide +kernel
theorem dX4_saggar_34 : decode cX4_saggar 34 = .ok (.aload_n 0, 1) := by decide +kernel
theorem dX4_saggar_35 : decode cX4_saggar 35 = .ok (.iconst 1, 1) := by decide +kernel
theorem dX4_saggar_36 : decode cX4_saggar 36 = .ok (.invokevirtual 55, 3) := by decide +kernel
theorem dX4_saggar_39 : decode cX4_saggar 39 = .ok (.ireturn, 1) := by decide +kernel
theorem dX4_store_0 : decode cX4_store 0 = .ok (.aload_n 0, 1) := by decide +kernel
theorem dX4_store_1 : decode cX4_store 1 = .ok (.iconst 0, 1) := by decide +kernel
theorem dX4_store_2 : decode cX4_store 2 = .ok (.putfield 34, 3) := by decide +kernel
theorem dX4_store_5 : decode cX4_store 5 = .ok (.iload_n 1, 1) := by decide +kernel
theorem dX4_store_6 : decode cX4_store 6 = .ok (.invokestatic 51, 3) := by decide +kernel
theorem dX4_store_9 : decode cX4_store 9 = .ok (.ifCond .eq 15, 3) := by decide +kernel
theorem dX4_store_12 : decode cX4_store 12 = .ok (.aload_n 0, 1) := by decide +kernel
theorem dX4_store_13 : decode cX4_store 13 = .ok (.getfield 27, 3) := by decide +kernel
theorem dX4_store_16 : decode cX4_store 16 = .ok (.getfield 113, 3) := by decide +kernel
theorem dX4_store_19 : decode cX4_store 19 = .ok (.iload_n 1, 1) := by decide +kernel
theorem dX4_store_20 : decode cX4_store 20 = .ok (.iaload, 1) := by decide +kernel
theorem dX4_store_21 : decode cX4_store 21 = .ok (.goto 8, 3) := by decide +kernel
theorem dX4_store_24 : decode cX4_store 24 = .ok (.aload_n 0, 1) := by decide +kernel
theorem dX4_store_25 : decode cX4_store 25 = .ok (.iconst 1, 1) := by decide +kernel
theorem dX4_store_26 : decode cX4_store 26 = .ok (.invokevirtual 55, 3) := by decide +kernel
theorem dX4_store_29 : decode cX4_store 29 = .ok (.ireturn, 1) := by decide +kernel
theorem dX4_isWaiting_0 : decode cX4_isWaiting 0 = .ok (.iload_n 1, 1) := by decide +kernel
theorem dX4_isWaiting_1 : decode cX4_isWaiting 1 = .ok (.iconst 0, 1) := by decide +kernel
theorem dX4_isWaiting_2 : decode cX4_isWaiting 2 = .ok (.aload_n 0, 1) := by decide +kernel
theorem dX4_isWaiting_3 : decode cX4_isWaiting 3 = .ok (.getfield 27, 3) := by decide +kernel
theorem dX4_isWaiting_6 : decode cX4_isWaiting 6 = .ok (.getfield 116, 3) := by decide +kernel
theorem dX4_isWaiting_9 : decode cX4_isWaiting 9 = .ok (.iconst 1, 1) := by decide +kernel
theorem dX4_isWaiting_10 : decode cX4_isWaiting 10 = .ok (.isub, 1) := by decide +kernel
theorem dX4_isWaiting_11 : decode cX4_isWaiting 11 = .ok (.invokestatic 38, 3) := by decide +kernel
theorem dX4_isWaiting_14 : decode cX4_isWaiting 14 = .ok (.ireturn, 1) := by decide +kernel
theorem dX4_waits_0 : decode cX4_waits 0 = .ok (.aload_n 0, 1) := by decide +kernel
theorem dX4_waits_1 : decode cX4_waits 1 = .ok (.iconst 0, 1) := by decide +kernel
theorem dX4_waits_2 : decode cX4_waits 2 = .ok (.putfield 34, 3) := by decide +kernel
theorem dX4_waits_5 : decode cX4_waits 5 = .ok (.aload_n 0, 1) := by decide +kernel
theorem dX4_waits_6 : decode cX4_waits 6 = .ok (.iload_n 1, 1) := by decide +kernel
theorem dX4_waits_7 : decode cX4_waits 7 = .ok (.invokevirtual 143, 3) := by decide +kernel
theorem dX4_waits_10 : decode cX4_waits 10 = .ok (.ifCond .eq 26, 3) := by decide +kernel
theorem dX4_waits_13 : decode cX4_waits 13 = .ok (.iload_n 2, 1) := by decide +kernel
theorem dX4_waits_14 : decode cX4_waits 14 = .ok (.iconst 0, 1) := by decide +kernel
theorem dX4_waits_15 : decode cX4_waits 15 = .ok (.iconst 3, 1) := by decide +kernel
theorem dX4_waits_16 : decode cX4_waits 16 = .ok (.invokestatic 38, 3) := by decide +kernel
theorem dX4_waits_19 : decode cX4_waits 19 = .ok (.ifCond .eq 17, 3) := by decide +kernel
theorem dX4_waits_22 : decode cX4_waits 22 = .ok (.aload_n 0, 1) := by decide +kernel
theorem dX4_waits_23 : decode cX4_waits 23 = .ok (.getfield 27, 3) := by decide +kernel
theorem dX4_waits_26 : decode cX4_waits 26 = .ok (.getfield 119, 3) := by decide +kernel
theorem dX4_waits_29 : decode cX4_waits 29 = .ok (.iload_n 1, 1) := by decide +kernel
theorem dX4_waits_30 : decode cX4_waits 30 = .ok (.aaload, 1) := by decide +kernel
theorem dX4_waits_31 : decode cX4_waits 31 = .ok (.iload_n 2, 1) := by decide +kernel
theorem dX4_waits_32 : decode cX4_waits 32 = .ok (.iaload, 1) := by decide +kernel
theorem dX4_waits_33 : decode cX4_waits 33 = .ok (.goto 8, 3) := by decide +kernel
theorem dX4_waits_36 : decode cX4_waits 36 = .ok (.aload_n 0, 1) := by decide +kernel
theorem dX4_waits_37 : decode cX4_waits 37 = .ok (.iconst 1, 1) := by decide +kernel
theorem dX4_waits_38 : decode cX4_waits 38 = .ok (.invokevirtual 55, 3) := by decide +kernel
theorem dX4_waits_41 : decode cX4_waits 41 = .ok (.ireturn, 1) := by decide +kernel
theorem dX4_count_0 : decode cX4_count 0 = .ok (.aload_n 0, 1) := by decide +kernel
theorem dX4_count_1 : decode cX4_count 1 = .ok (.iconst 0, 1) := by decide +kernel
theorem dX4_count_2 : decode cX4_count 2 = .ok (.putfield 34, 3) := by decide +kernel
theorem dX4_count_5 : decode cX4_count 5 = .ok (.iload_n 1, 1) := by decide +kernel
theorem dX4_count_6 : decode cX4_count 6 = .ok (.iconst 0, 1) := by decide +kernel
theorem dX4_count_7 : decode cX4_count 7 = .ok (.bipush 11, 2) := by decide +kernel
theorem dX4_count_9 : decode cX4_count 9 = .ok (.invokestatic 38, 3) := by decide +kernel
theorem dX4_count_12 : decode cX4_count 12 = .ok (.ifCond .eq 14, 3) := by decide +kernel
theorem dX4_count_15 : decode cX4_count 15 = .ok (.aload_n 0, 1) := by decide +kernel
theorem dX4_count_16 : decode cX4_count 16 = .ok (.getfield 27, 3) := by decide +kernel
theorem dX4_count_19 : decode cX4_count 19 = .ok (.iload_n 1, 1) := by decide +kernel
theorem dX4_count_20 : decode cX4_count 20 = .ok (.invokevirtual 146, 3) := by decide +kernel
theorem dX4_count_23 : decode cX4_count 23 = .ok (.goto 8, 3) := by decide +kernel
theorem dX4_count_26 : decode cX4_count 26 = .ok (.aload_n 0, 1) := by decide +kernel
theorem dX4_count_27 : decode cX4_count 27 = .ok (.iconst 1, 1) := by decide +kernel
theorem dX4_count_28 : decode cX4_count 28 = .ok (.invokevirtual 55, 3) := by decide +kernel
theorem dX4_count_31 : decode cX4_count 31 = .ok (.ireturn, 1) := by decide +kernel
theorem dX4_pass_0 : decode cX4_pass 0 = .ok (.aload_n 0, 1) := by decide +kernel
theorem dX4_pass_1 : decode cX4_pass 1 = .ok (.iconst 0, 1) := by decide +kernel
theorem dX4_pass_2 : decode cX4_pass 2 = .ok (.putfield 34, 3) := by decide +kernel
theorem dX4_pass_5 : decode cX4_pass 5 = .ok (.iload_n 1, 1) := by decide +kernel
theorem dX4_pass_6 : decode cX4_pass 6 = .ok (.iconst 1, 1) := by decide +kernel
theorem dX4_pass_7 : decode cX4_pass 7 = .ok (.bipush 40, 2) := by decide +kernel
theorem dX4_pass_9 : decode cX4_pass 9 = .ok (.invokestatic 38, 3) := by decide +kernel
theorem dX4_pass_12 : decode cX4_pass 12 = .ok (.ifCond .ne 9, 3) := by decide +kernel
theorem dX4_pass_15 : decode cX4_pass 15 = .ok (.aload_n 0, 1) := by decide +kernel
theorem dX4_pass_16 : decode cX4_pass 16 = .ok (.iconst 1, 1) := by decide +kernel
theorem dX4_pass_17 : decode cX4_pass 17 = .ok (.invokevirtual 55, 3) := by decide +kernel
theorem dX4_pass_20 : decode cX4_pass 20 = .ok (.ireturn, 1) := by decide +kernel
theorem dX4_pass_21 : decode cX4_pass 21 = .ok (.aload_n 0, 1) := by decide +kernel
theorem dX4_pass_22 : decode cX4_pass 22 = .ok (.getfield 27, 3) := by decide +kernel
theorem dX4_pass_25 : decode cX4_pass 25 = .ok (.getfield 149, 3) := by decide +kernel
theorem dX4_pass_28 : decode cX4_pass 28 = .ok (.istore_n 2, 1) := by decide +kernel
theorem dX4_pass_29 : decode cX4_pass 29 = .ok (.aload_n 0, 1) := by decide +kernel
theorem dX4_pass_30 : decode cX4_pass 30 = .ok (.getfield 27, 3) := by decide +kernel
theorem dX4_pass_33 : decode cX4_pass 33 = .ok (.iload_n 1, 1) := by decide +kernel
theorem dX4_pass_34 : decode cX4_pass 34 = .ok (.invokevirtual 152, 3) := by decide +kernel
theorem dX4_pass_37 : decode cX4_pass 37 = .ok (.aload_n 0, 1) := by decide +kernel
theorem dX4_pass_38 : decode cX4_pass 38 = .ok (.getfield 27, 3) := by decide +kernel
theorem dX4_pass_41 : decode cX4_pass 41 = .ok (.getfield 149, 3) := by decide +kernel
theorem dX4_pass_44 : decode cX4_pass 44 = .ok (.iload_n 2, 1) := by decide +kernel
theorem dX4_pass_45 : decode cX4_pass 45 = .ok (.isub, 1) := by decide +kernel
theorem dX4_pass_46 : decode cX4_pass 46 = .ok (.ireturn, 1) := by decide +kernel
theorem dX4_breaks_0 : decode cX4_breaks 0 = .ok (.aload_n 0, 1) := by decide +kernel
theorem dX4_breaks_1 : decode cX4_breaks 1 = .ok (.iconst 0, 1) := by decide +kernel
theorem dX4_breaks_2 : decode cX4_breaks 2 = .ok (.putfield 34, 3) := by decide +kernel
theorem dX4_breaks_5 : decode cX4_breaks 5 = .ok (.iload_n 1, 1) := by decide +kernel
theorem dX4_breaks_6 : decode cX4_breaks 6 = .ok (.invokestatic 83, 3) := by decide +kernel
theorem dX4_breaks_9 : decode cX4_breaks 9 = .ok (.ifCond .ne 9, 3) := by decide +kernel
theorem dX4_breaks_12 : decode cX4_breaks 12 = .ok (.aload_n 0, 1) := by decide +kernel
theorem dX4_breaks_13 : decode cX4_breaks 13 = .ok (.iconst 1, 1) := by decide +kernel
theorem dX4_breaks_14 : decode cX4_breaks 14 = .ok (.invokevirtual 55, 3) := by decide +kernel
theorem dX4_breaks_17 : decode cX4_breaks 17 = .ok (.ireturn, 1) := by decide +kernel
theorem dX4_breaks_18 : decode cX4_breaks 18 = .ok (.iload_n 2, 1) := by decide +kernel
theorem dX4_breaks_19 : decode cX4_breaks 19 = .ok (.iconst 1, 1) := by decide +kernel
theorem dX4_breaks_20 : decode cX4_breaks 20 = .ok (.bipush 30, 2) := by decide +kernel
theorem dX4_breaks_22 : decode cX4_breaks 22 = .ok (.invokestatic 38, 3) := by decide +kernel
theorem dX4_breaks_25 : decode cX4_breaks 25 = .ok (.ifCond .eq 15, 3) := by decide +kernel
theorem dX4_breaks_28 : decode cX4_breaks 28 = .ok (.aload_n 0, 1) := by decide +kernel
theorem dX4_breaks_29 : decode cX4_breaks 29 = .ok (.getfield 27, 3) := by decide +kernel
theorem dX4_breaks_32 : decode cX4_breaks 32 = .ok (.iload_n 1, 1) := by decide +kernel
theorem dX4_breaks_33 : decode cX4_breaks 33 = .ok (.iload_n 2, 1) := by decide +kernel
theorem dX4_breaks_34 : decode cX4_breaks 34 = .ok (.invokevirtual 106, 3) := by decide +kernel
theorem dX4_breaks_37 : decode cX4_breaks 37 = .ok (.goto 8, 3) := by decide +kernel
theorem dX4_breaks_40 : decode cX4_breaks 40 = .ok (.aload_n 0, 1) := by decide +kernel
theorem dX4_breaks_41 : decode cX4_breaks 41 = .ok (.iconst 2, 1) := by decide +kernel
theorem dX4_breaks_42 : decode cX4_breaks 42 = .ok (.invokevirtual 55, 3) := by decide +kernel
theorem dX4_breaks_45 : decode cX4_breaks 45 = .ok (.ireturn, 1) := by decide +kernel
theorem dX4_advise_0 : decode cX4_advise 0 = .ok (.aload_n 0, 1) := by decide +kernel
theorem dX4_advise_1 : decode cX4_advise 1 = .ok (.iconst 0, 1) := by decide +kernel
theorem dX4_advise_2 : decode cX4_advise 2 = .ok (.putfield 34, 3) := by decide +kernel
theorem dX4_advise_5 : decode cX4_advise 5 = .ok (.aload_n 0, 1) := by decide +kernel
theorem dX4_advise_6 : decode cX4_advise 6 = .ok (.getfield 27, 3) := by decide +kernel
theorem dX4_advise_9 : decode cX4_advise 9 = .ok (.invokevirtual 102, 3) := by decide +kernel
theorem dX4_advise_12 : decode cX4_advise 12 = .ok (.ifCond .ne 5, 3) := by decide +kernel
theorem dX4_advise_15 : decode cX4_advise 15 = .ok (.iconst (-1), 1) := by decide +kernel
theorem dX4_advise_16 : decode cX4_advise 16 = .ok (.ireturn, 1) := by decide +kernel
theorem dX4_advise_17 : decode cX4_advise 17 = .ok (.iconst 0, 1) := by decide +kernel
theorem dX4_advise_18 : decode cX4_advise 18 = .ok (.istore_n 1, 1) := by decide +kernel
theorem dX4_advise_19 : decode cX4_advise 19 = .ok (.ldc 157, 2) := by decide +kernel
theorem dX4_advise_21 : decode cX4_advise 21 = .ok (.istore_n 2, 1) := by decide +kernel
theorem dX4_advise_22 : decode cX4_advise 22 = .ok (.iconst 1, 1) := by decide +kernel
theorem dX4_advise_23 : decode cX4_advise 23 = .ok (.istore_n 3, 1) := by decide +kernel
theorem dX4_advise_24 : decode cX4_advise 24 = .ok (.iload_n 3, 1) := by decide +kernel
theorem dX4_advise_25 : decode cX4_advise 25 = .ok (.bipush 30, 2) := by decide +kernel
theorem dX4_advise_27 : decode cX4_advise 27 = .ok (.if_icmp .gt 57, 3) := by decide +kernel
theorem dX4_advise_30 : decode cX4_advise 30 = .ok (.iconst 0, 1) := by decide +kernel
theorem dX4_advise_31 : decode cX4_advise 31 = .ok (.istore 4, 2) := by decide +kernel
theorem dX4_advise_33 : decode cX4_advise 33 = .ok (.iconst 0, 1) := by decide +kernel
theorem dX4_advise_34 : decode cX4_advise 34 = .ok (.istore 5, 2) := by decide +kernel
theorem dX4_advise_36 : decode cX4_advise 36 = .ok (.iload 5, 2) := by decide +kernel
theorem dX4_advise_38 : decode cX4_advise 38 = .ok (.bipush 6, 2) := by decide +kernel
theorem dX4_advise_40 : decode cX4_advise 40 = .ok (.if_icmp .ge 24, 3) := by decide +kernel
theorem dX4_advise_43 : decode cX4_advise 43 = .ok (.iload 4, 2) := by decide +kernel
theorem dX4_advise_45 : decode cX4_advise 45 = .ok (.aload_n 0, 1) := by decide +kernel
theorem dX4_advise_46 : decode cX4_advise 46 = .ok (.getfield 27, 3) := by decide +kernel
theorem dX4_advise_49 : decode cX4_advise 49 = .ok (.iload 5, 2) := by decide +kernel
theorem dX4_advise_51 : decode cX4_advise 51 = .ok (.iload_n 3, 1) := by decide +kernel
theorem dX4_advise_52 : decode cX4_advise 52 = .ok (.invokevirtual 106, 3) := by decide +kernel
theorem dX4_advise_55 : decode cX4_advise 55 = .ok (.iadd, 1) := by decide +kernel
theorem dX4_advise_56 : decode cX4_advise 56 = .ok (.istore 4, 2) := by decide +kernel
theorem dX4_advise_58 : decode cX4_advise 58 = .ok (.iinc 5 1, 3) := by decide +kernel
theorem dX4_advise_61 : decode cX4_advise 61 = .ok (.goto (-25), 3) := by decide +kernel
theorem dX4_advise_64 : decode cX4_advise 64 = .ok (.iload 4, 2) := by decide +kernel
theorem dX4_advise_66 : decode cX4_advise 66 = .ok (.iload_n 2, 1) := by decide +kernel
theorem dX4_advise_67 : decode cX4_advise 67 = .ok (.if_icmp .lt 6, 3) := by decide +kernel
theorem dX4_advise_70 : decode cX4_advise 70 = .ok (.goto 8, 3) := by decide +kernel
theorem dX4_advise_73 : decode cX4_advise 73 = .ok (.iload 4, 2) := by decide +kernel
theorem dX4_advise_75 : decode cX4_advise 75 = .ok (.istore_n 2, 1) := by decide +kernel
theorem dX4_advise_76 : decode cX4_advise 76 = .ok (.iload_n 3, 1) := by decide +kernel
theorem dX4_advise_77 : decode cX4_advise 77 = .ok (.istore_n 1, 1) := by decide +kernel
theorem dX4_advise_78 : decode cX4_advise 78 = .ok (.iinc 3 1, 3) := by decide +kernel
theorem dX4_advise_81 : decode cX4_advise 81 = .ok (.goto (-57), 3) := by decide +kernel
theorem dX4_advise_84 : decode cX4_advise 84 = .ok (.iload_n 1, 1) := by decide +kernel
theorem dX4_advise_85 : decode cX4_advise 85 = .ok (.ireturn, 1) := by decide +kernel
theorem dX4_ready_0 : decode cX4_ready 0 = .ok (.aload_n 0, 1) := by decide +kernel
theorem dX4_ready_1 : decode cX4_ready 1 = .ok (.iconst 0, 1) := by decide +kernel
theorem dX4_ready_2 : decode cX4_ready 2 = .ok (.putfield 34, 3) := by decide +kernel
theorem dX4_ready_5 : decode cX4_ready 5 = .ok (.aload_n 0, 1) := by decide +kernel
theorem dX4_ready_6 : decode cX4_ready 6 = .ok (.iload_n 1, 1) := by decide +kernel
theorem dX4_ready_7 : decode cX4_ready 7 = .ok (.invokevirtual 143, 3) := by decide +kernel
theorem dX4_ready_10 : decode cX4_ready 10 = .ok (.ifCond .ne 9, 3) := by decide +kernel
theorem dX4_ready_13 : decode cX4_ready 13 = .ok (.aload_n 0, 1) := by decide +kernel
theorem dX4_ready_14 : decode cX4_ready 14 = .ok (.iconst 1, 1) := by decide +kernel
theorem dX4_ready_15 : decode cX4_ready 15 = .ok (.invokevirtual 55, 3) := by decide +kernel
theorem dX4_ready_18 : decode cX4_ready 18 = .ok (.ireturn, 1) := by decide +kernel
theorem dX4_ready_19 : decode cX4_ready 19 = .ok (.aload_n 0, 1) := by decide +kernel
theorem dX4_ready_20 : decode cX4_ready 20 = .ok (.getfield 31, 3) := by decide +kernel
theorem dX4_ready_23 : decode cX4_ready 23 = .ok (.aload_n 0, 1) := by decide +kernel
theorem dX4_ready_24 : decode cX4_ready 24 = .ok (.getfield 27, 3) := by decide +kernel
theorem dX4_ready_27 : decode cX4_ready 27 = .ok (.invokevirtual 158, 3) := by decide +kernel
theorem dX4_ready_30 : decode cX4_ready 30 = .ok (.pop, 1) := by decide +kernel
theorem dX4_ready_31 : decode cX4_ready 31 = .ok (.aload_n 0, 1) := by decide +kernel
theorem dX4_ready_32 : decode cX4_ready 32 = .ok (.getfield 31, 3) := by decide +kernel
theorem dX4_ready_35 : decode cX4_ready 35 = .ok (.iload_n 1, 1) := by decide +kernel
theorem dX4_ready_36 : decode cX4_ready 36 = .ok (.putfield 162, 3) := by decide +kernel
theorem dX4_ready_39 : decode cX4_ready 39 = .ok (.iconst 0, 1) := by decide +kernel
theorem dX4_ready_40 : decode cX4_ready 40 = .ok (.istore_n 2, 1) := by decide +kernel
theorem dX4_ready_41 : decode cX4_ready 41 = .ok (.aload_n 0, 1) := by decide +kernel
theorem dX4_ready_42 : decode cX4_ready 42 = .ok (.getfield 31, 3) := by decide +kernel
theorem dX4_ready_45 : decode cX4_ready 45 = .ok (.getfield 165, 3) := by decide +kernel
theorem dX4_ready_48 : decode cX4_ready 48 = .ok (.ifCond .ne 16, 3) := by decide +kernel
theorem dX4_ready_51 : decode cX4_ready 51 = .ok (.aload_n 0, 1) := by decide +kernel
theorem dX4_ready_52 : decode cX4_ready 52 = .ok (.getfield 31, 3) := by decide +kernel
theorem dX4_ready_55 : decode cX4_ready 55 = .ok (.invokevirtual 168, 3) := by decide +kernel
theorem dX4_ready_58 : decode cX4_ready 58 = .ok (.iinc 2 1, 3) := by decide +kernel
theorem dX4_ready_61 : decode cX4_ready 61 = .ok (.goto (-20), 3) := by decide +kernel
theorem dX4_ready_64 : decode cX4_ready 64 = .ok (.aload_n 0, 1) := by decide +kernel
theorem dX4_ready_65 : decode cX4_ready 65 = .ok (.getfield 31, 3) := by decide +kernel
theorem dX4_ready_68 : decode cX4_ready 68 = .ok (.getfield 165, 3) := by decide +kernel
theorem dX4_ready_71 : decode cX4_ready 71 = .ok (.iconst 1, 1) := by decide +kernel
theorem dX4_ready_72 : decode cX4_ready 72 = .ok (.if_icmp .ne 7, 3) := by decide +kernel
theorem dX4_ready_75 : decode cX4_ready 75 = .ok (.iload_n 2, 1) := by decide +kernel
theorem dX4_ready_76 : decode cX4_ready 76 = .ok (.goto 4, 3) := by decide +kernel
theorem dX4_ready_79 : decode cX4_ready 79 = .ok (.iconst (-1), 1) := by decide +kernel
theorem dX4_ready_80 : decode cX4_ready 80 = .ok (.ireturn, 1) := by decide +kernel
theorem dX4_foresee_0 : decode cX4_foresee 0 = .ok (.aload_n 0, 1) := by decide +kernel
theorem dX4_foresee_1 : decode cX4_foresee 1 = .ok (.iconst 0, 1) := by decide +kernel
theorem dX4_foresee_2 : decode cX4_foresee 2 = .ok (.putfield 34, 3) := by decide +kernel
theorem dX4_foresee_5 : decode cX4_foresee 5 = .ok (.iload_n 1, 1) := by decide +kernel
theorem dX4_foresee_6 : decode cX4_foresee 6 = .ok (.iconst 1, 1) := by decide +kernel
theorem dX4_foresee_7 : decode cX4_foresee 7 = .ok (.bipush 40, 2) := by decide +kernel
theorem dX4_foresee_9 : decode cX4_foresee 9 = .ok (.invokestatic 38, 3) := by decide +kernel
theorem dX4_foresee_12 : decode cX4_foresee 12 = .ok (.ifCond .ne 9, 3) := by decide +kernel
theorem dX4_foresee_15 : decode cX4_foresee 15 = .ok (.aload_n 0, 1) := by decide +kernel
theorem dX4_foresee_16 : decode cX4_foresee 16 = .ok (.iconst 1, 1) := by decide +kernel
theorem dX4_foresee_17 : decode cX4_foresee 17 = .ok (.invokevirtual 55, 3) := by decide +kernel
theorem dX4_foresee_20 : decode cX4_foresee 20 = .ok (.ireturn, 1) := by decide +kernel
theorem dX4_foresee_21 : decode cX4_foresee 21 = .ok (.iload_n 2, 1) := by decide +kernel
theorem dX4_foresee_22 : decode cX4_foresee 22 = .ok (.iconst 0, 1) := by decide +kernel
theorem dX4_foresee_23 : decode cX4_foresee 23 = .ok (.bipush 11, 2) := by decide +kernel
theorem dX4_foresee_25 : decode cX4_foresee 25 = .ok (.invokestatic 38, 3) := by decide +kernel
theorem dX4_foresee_28 : decode cX4_foresee 28 = .ok (.ifCond .ne 9, 3) := by decide +kernel
theorem dX4_foresee_31 : decode cX4_foresee 31 = .ok (.aload_n 0, 1) := by decide +kernel
theorem dX4_foresee_32 : decode cX4_foresee 32 = .ok (.iconst 2, 1) := by decide +kernel
theorem dX4_foresee_33 : decode cX4_foresee 33 = .ok (.invokevirtual 55, 3) := by decide +kernel
theorem dX4_foresee_36 : decode cX4_foresee 36 = .ok (.ireturn, 1) := by decide +kernel
theorem dX4_foresee_37 : decode cX4_foresee 37 = .ok (.aload_n 0, 1) := by decide +kernel
theorem dX4_foresee_38 : decode cX4_foresee 38 = .ok (.getfield 31, 3) := by decide +kernel
theorem dX4_foresee_41 : decode cX4_foresee 41 = .ok (.aload_n 0, 1) := by decide +kernel
theorem dX4_foresee_42 : decode cX4_foresee 42 = .ok (.getfield 27, 3) := by decide +kernel
theorem dX4_foresee_45 : decode cX4_foresee 45 = .ok (.invokevirtual 158, 3) := by decide +kernel
theorem dX4_foresee_48 : decode cX4_foresee 48 = .ok (.iload_n 1, 1) := by decide +kernel
theorem dX4_foresee_49 : decode cX4_foresee 49 = .ok (.invokevirtual 152, 3) := by decide +kernel
theorem dX4_foresee_52 : decode cX4_foresee 52 = .ok (.aload_n 0, 1) := by decide +kernel
theorem dX4_foresee_53 : decode cX4_foresee 53 = .ok (.getfield 31, 3) := by decide +kernel
theorem dX4_foresee_56 : decode cX4_foresee 56 = .ok (.iload_n 2, 1) := by decide +kernel
theorem dX4_foresee_57 : decode cX4_foresee 57 = .ok (.invokevirtual 146, 3) := by decide +kernel
theorem dX4_foresee_60 : decode cX4_foresee 60 = .ok (.ireturn, 1) := by decide +kernel
theorem dX4_mean_0 : decode cX4_mean 0 = .ok (.aload_n 0, 1) := by decide +kernel
theorem dX4_mean_1 : decode cX4_mean 1 = .ok (.iconst 0, 1) := by decide +kernel
theorem dX4_mean_2 : decode cX4_mean 2 = .ok (.putfield 34, 3) := by decide +kernel
theorem dX4_mean_5 : decode cX4_mean 5 = .ok (.iconst 0, 1) := by decide +kernel
theorem dX4_mean_6 : decode cX4_mean 6 = .ok (.istore_n 1, 1) := by decide +kernel
theorem dX4_mean_7 : decode cX4_mean 7 = .ok (.iconst 0, 1) := by decide +kernel
theorem dX4_mean_8 : decode cX4_mean 8 = .ok (.istore_n 2, 1) := by decide +kernel
theorem dX4_mean_9 : decode cX4_mean 9 = .ok (.iconst 0, 1) := by decide +kernel
theorem dX4_mean_10 : decode cX4_mean 10 = .ok (.istore_n 3, 1) := by decide +kernel
theorem dX4_mean_11 : decode cX4_mean 11 = .ok (.iload_n 3, 1) := by decide +kernel
theorem dX4_mean_12 : decode cX4_mean 12 = .ok (.aload_n 0, 1) := by decide +kernel
theorem dX4_mean_13 : decode cX4_mean 13 = .ok (.getfield 27, 3) := by decide +kernel
theorem dX4_mean_16 : decode cX4_mean 16 = .ok (.getfield 48, 3) := by decide +kernel
theorem dX4_mean_19 : decode cX4_mean 19 = .ok (.if_icmp .ge 49, 3) := by decide +kernel
theorem dX4_mean_22 : decode cX4_mean 22 = .ok (.iload_n 1, 1) := by decide +kernel
theorem dX4_mean_23 : decode cX4_mean 23 = .ok (.aload_n 0, 1) := by decide +kernel
theorem dX4_mean_24 : decode cX4_mean 24 = .ok (.getfield 27, 3) := by decide +kernel
theorem dX4_mean_27 : decode cX4_mean 27 = .ok (.getfield 86, 3) := by decide +kernel
theorem dX4_mean_30 : decode cX4_mean 30 = .ok (.iload_n 3, 1) := by decide +kernel
theorem dX4_mean_31 : decode cX4_mean 31 = .ok (.aaload, 1) := by decide +kernel
theorem dX4_mean_32 : decode cX4_mean 32 = .ok (.iconst 1, 1) := by decide +kernel
theorem dX4_mean_33 : decode cX4_mean 33 = .ok (.iaload, 1) := by decide +kernel
theorem dX4_mean_34 : decode cX4_mean 34 = .ok (.iadd, 1) := by decide +kernel
theorem dX4_mean_35 : decode cX4_mean 35 = .ok (.istore_n 1, 1) := by decide +kernel
theorem dX4_mean_36 : decode cX4_mean 36 = .ok (.iload_n 2, 1) := by decide +kernel
theorem dX4_mean_37 : decode cX4_mean 37 = .ok (.aload_n 0, 1) := by decide +kernel
theorem dX4_mean_38 : decode cX4_mean 38 = .ok (.getfield 27, 3) := by decide +kernel
theorem dX4_mean_41 : decode cX4_mean 41 = .ok (.getfield 86, 3) := by decide +kernel
theorem dX4_mean_44 : decode cX4_mean 44 = .ok (.iload_n 3, 1) := by decide +kernel
theorem dX4_mean_45 : decode cX4_mean 45 = .ok (.aaload, 1) := by decide +kernel
theorem dX4_mean_46 : decode cX4_mean 46 = .ok (.iconst 1, 1) := by decide +kernel
theorem dX4_mean_47 : decode cX4_mean 47 = .ok (.iaload, 1) := by decide +kernel
theorem dX4_mean_48 : decode cX4_mean 48 = .ok (.aload_n 0, 1) := by decide +kernel
theorem dX4_mean_49 : decode cX4_mean 49 = .ok (.getfield 27, 3) := by decide +kernel
theorem dX4_mean_52 : decode cX4_mean 52 = .ok (.getfield 86, 3) := by decide +kernel
theorem dX4_mean_55 : decode cX4_mean 55 = .ok (.iload_n 3, 1) := by decide +kernel
theorem dX4_mean_56 : decode cX4_mean 56 = .ok (.aaload, 1) := by decide +kernel
theorem dX4_mean_57 : decode cX4_mean 57 = .ok (.iconst 3, 1) := by decide +kernel
theorem dX4_mean_58 : decode cX4_mean 58 = .ok (.iaload, 1) := by decide +kernel
theorem dX4_mean_59 : decode cX4_mean 59 = .ok (.imul, 1) := by decide +kernel
theorem dX4_mean_60 : decode cX4_mean 60 = .ok (.iadd, 1) := by decide +kernel
theorem dX4_mean_61 : decode cX4_mean 61 = .ok (.istore_n 2, 1) := by decide +kernel
theorem dX4_mean_62 : decode cX4_mean 62 = .ok (.iinc 3 1, 3) := by decide +kernel
theorem dX4_mean_65 : decode cX4_mean 65 = .ok (.goto (-54), 3) := by decide +kernel
theorem dX4_mean_68 : decode cX4_mean 68 = .ok (.iload_n 1, 1) := by decide +kernel
theorem dX4_mean_69 : decode cX4_mean 69 = .ok (.ifCond .ne 7, 3) := by decide +kernel
theorem dX4_mean_72 : decode cX4_mean 72 = .ok (.dconst 0, 1) := by decide +kernel
theorem dX4_mean_73 : decode cX4_mean 73 = .ok (.goto 8, 3) := by decide +kernel
theorem dX4_mean_76 : decode cX4_mean 76 = .ok (.iload_n 2, 1) := by decide +kernel
theorem dX4_mean_77 : decode cX4_mean 77 = .ok (.i2d, 1) := by decide +kernel
theorem dX4_mean_78 : decode cX4_mean 78 = .ok (.iload_n 1, 1) := by decide +kernel
theorem dX4_mean_79 : decode cX4_mean 79 = .ok (.i2d, 1) := by decide +kernel
theorem dX4_mean_80 : decode cX4_mean 80 = .ok (.ddiv, 1) := by decide +kernel
theorem dX4_mean_81 : decode cX4_mean 81 = .ok (.dreturn, 1) := by decide +kernel
theorem dX4_digest_0 : decode cX4_digest 0 = .ok (.aload_n 0, 1) := by decide +kernel
theorem dX4_digest_1 : decode cX4_digest 1 = .ok (.iconst 0, 1) := by decide +kernel
theorem dX4_digest_2 : decode cX4_digest 2 = .ok (.putfield 34, 3) := by decide +kernel
theorem dX4_digest_5 : decode cX4_digest 5 = .ok (.ldc2_w 170, 3) := by decide +kernel
theorem dX4_digest_8 : decode cX4_digest 8 = .ok (.lstore_n 1, 1) := by decide +kernel
theorem dX4_digest_9 : decode cX4_digest 9 = .ok (.iconst 0, 1) := by decide +kernel
theorem dX4_digest_10 : decode cX4_digest 10 = .ok (.istore_n 3, 1) := by decide +kernel
theorem dX4_digest_11 : decode cX4_digest 11 = .ok (.iload_n 3, 1) := by decide +kernel
theorem dX4_digest_12 : decode cX4_digest 12 = .ok (.bipush 11, 2) := by decide +kernel
theorem dX4_digest_14 : decode cX4_digest 14 = .ok (.if_icmp .gt 25, 3) := by decide +kernel
theorem dX4_digest_17 : decode cX4_digest 17 = .ok (.lload_n 1, 1) := by decide +kernel
theorem dX4_digest_18 : decode cX4_digest 18 = .ok (.ldc2_w 172, 3) := by decide +kernel
theorem dX4_digest_21 : decode cX4_digest 21 = .ok (.lmul, 1) := by decide +kernel
theorem dX4_digest_22 : decode cX4_digest 22 = .ok (.aload_n 0, 1) := by decide +kernel
theorem dX4_digest_23 : decode cX4_digest 23 = .ok (.getfield 27, 3) := by decide +kernel
theorem dX4_digest_26 : decode cX4_digest 26 = .ok (.iload_n 3, 1) := by decide +kernel
theorem dX4_digest_27 : decode cX4_digest 27 = .ok (.invokevirtual 146, 3) := by decide +kernel
theorem dX4_digest_30 : decode cX4_digest 30 = .ok (.i2l, 1) := by decide +kernel
theorem dX4_digest_31 : decode cX4_digest 31 = .ok (.ladd, 1) := by decide +kernel
theorem dX4_digest_32 : decode cX4_digest 32 = .ok (.lstore_n 1, 1) := by decide +kernel
theorem dX4_digest_33 : decode cX4_digest 33 = .ok (.iinc 3 1, 3) := by decide +kernel
theorem dX4_digest_36 : decode cX4_digest 36 = .ok (.goto (-25), 3) := by decide +kernel
theorem dX4_digest_39 : decode cX4_digest 39 = .ok (.aload_n 0, 1) := by decide +kernel
theorem dX4_digest_40 : decode cX4_digest 40 = .ok (.getfield 7, 3) := by decide +kernel
theorem dX4_digest_43 : decode cX4_digest 43 = .ok (.astore_n 3, 1) := by decide +kernel
theorem dX4_digest_44 : decode cX4_digest 44 = .ok (.aload_n 3, 1) := by decide +kernel
theorem dX4_digest_45 : decode cX4_digest 45 = .ok (.arraylength, 1) := by decide +kernel
theorem dX4_digest_46 : decode cX4_digest 46 = .ok (.istore 4, 2) := by decide +kernel
theorem dX4_digest_48 : decode cX4_digest 48 = .ok (.iconst 0, 1) := by decide +kernel
theorem dX4_digest_49 : decode cX4_digest 49 = .ok (.istore 5, 2) := by decide +kernel
theorem dX4_digest_51 : decode cX4_digest 51 = .ok (.iload 5, 2) := by decide +kernel
theorem dX4_digest_53 : decode cX4_digest 53 = .ok (.iload 4, 2) := by decide +kernel
theorem dX4_digest_55 : decode cX4_digest 55 = .ok (.if_icmp .ge 25, 3) := by decide +kernel
theorem dX4_digest_58 : decode cX4_digest 58 = .ok (.aload_n 3, 1) := by decide +kernel
theorem dX4_digest_59 : decode cX4_digest 59 = .ok (.iload 5, 2) := by decide +kernel
theorem dX4_digest_61 : decode cX4_digest 61 = .ok (.iaload, 1) := by decide +kernel
theorem dX4_digest_62 : decode cX4_digest 62 = .ok (.istore 6, 2) := by decide +kernel
theorem dX4_digest_64 : decode cX4_digest 64 = .ok (.lload_n 1, 1) := by decide +kernel
theorem dX4_digest_65 : decode cX4_digest 65 = .ok (.ldc2_w 172, 3) := by decide +kernel
theorem dX4_digest_68 : decode cX4_digest 68 = .ok (.lmul, 1) := by decide +kernel
theorem dX4_digest_69 : decode cX4_digest 69 = .ok (.iload 6, 2) := by decide +kernel
theorem dX4_digest_71 : decode cX4_digest 71 = .ok (.i2l, 1) := by decide +kernel
theorem dX4_digest_72 : decode cX4_digest 72 = .ok (.ladd, 1) := by decide +kernel
theorem dX4_digest_73 : decode cX4_digest 73 = .ok (.lstore_n 1, 1) := by decide +kernel
theorem dX4_digest_74 : decode cX4_digest 74 = .ok (.iinc 5 1, 3) := by decide +kernel
theorem dX4_digest_77 : decode cX4_digest 77 = .ok (.goto (-26), 3) := by decide +kernel
theorem dX4_digest_80 : decode cX4_digest 80 = .ok (.iconst 0, 1) := by decide +kernel
theorem dX4_digest_81 : decode cX4_digest 81 = .ok (.istore_n 3, 1) := by decide +kernel
theorem dX4_digest_82 : decode cX4_digest 82 = .ok (.iload_n 3, 1) := by decide +kernel
theorem dX4_digest_83 : decode cX4_digest 83 = .ok (.aload_n 0, 1) := by decide +kernel
theorem dX4_digest_84 : decode cX4_digest 84 = .ok (.getfield 42, 3) := by decide +kernel
theorem dX4_digest_87 : decode cX4_digest 87 = .ok (.if_icmp .ge 39, 3) := by decide +kernel
theorem dX4_digest_90 : decode cX4_digest 90 = .ok (.iconst 0, 1) := by decide +kernel
theorem dX4_digest_91 : decode cX4_digest 91 = .ok (.istore 4, 2) := by decide +kernel
theorem dX4_digest_93 : decode cX4_digest 93 = .ok (.iload 4, 2) := by decide +kernel
theorem dX4_digest_95 : decode cX4_digest 95 = .ok (.iconst 5, 1) := by decide +kernel
theorem dX4_digest_96 : decode cX4_digest 96 = .ok (.if_icmp .gt 24, 3) := by decide +kernel
theorem dX4_digest_99 : decode cX4_digest 99 = .ok (.lload_n 1, 1) := by decide +kernel
theorem dX4_digest_100 : decode cX4_digest 100 = .ok (.ldc2_w 172, 3) := by decide +kernel
theorem dX4_digest_103 : decode cX4_digest 103 = .ok (.lmul, 1) := by decide +kernel
theorem dX4_digest_104 : decode cX4_digest 104 = .ok (.aload_n 0, 1) := by decide +kernel
theorem dX4_digest_105 : decode cX4_digest 105 = .ok (.iload_n 3, 1) := by decide +kernel
theorem dX4_digest_106 : decode cX4_digest 106 = .ok (.iload 4, 2) := by decide +kernel
theorem dX4_digest_108 : decode cX4_digest 108 = .ok (.invokevirtual 137, 3) := by decide +kernel
theorem dX4_digest_111 : decode cX4_digest 111 = .ok (.i2l, 1) := by decide +kernel
theorem dX4_digest_112 : decode cX4_digest 112 = .ok (.ladd, 1) := by decide +kernel
theorem dX4_digest_113 : decode cX4_digest 113 = .ok (.lstore_n 1, 1) := by decide +kernel
theorem dX4_digest_114 : decode cX4_digest 114 = .ok (.iinc 4 1, 3) := by decide +kernel
theorem dX4_digest_117 : decode cX4_digest 117 = .ok (.goto (-24), 3) := by decide +kernel
theorem dX4_digest_120 : decode cX4_digest 120 = .ok (.iinc 3 1, 3) := by decide +kernel
theorem dX4_digest_123 : decode cX4_digest 123 = .ok (.goto (-41), 3) := by decide +kernel
theorem dX4_digest_126 : decode cX4_digest 126 = .ok (.iconst 0, 1) := by decide +kernel
theorem dX4_digest_127 : decode cX4_digest 127 = .ok (.istore_n 3, 1) := by decide +kernel
theorem dX4_digest_128 : decode cX4_digest 128 = .ok (.iload_n 3, 1) := by decide +kernel
theorem dX4_digest_129 : decode cX4_digest 129 = .ok (.aload_n 0, 1) := by decide +kernel
theorem dX4_digest_130 : decode cX4_digest 130 = .ok (.getfield 45, 3) := by decide +kernel
theorem dX4_digest_133 : decode cX4_digest 133 = .ok (.if_icmp .ge 39, 3) := by decide +kernel
theorem dX4_digest_136 : decode cX4_digest 136 = .ok (.iconst 0, 1) := by decide +kernel
theorem dX4_digest_137 : decode cX4_digest 137 = .ok (.istore 4, 2) := by decide +kernel
theorem dX4_digest_139 : decode cX4_digest 139 = .ok (.iload 4, 2) := by decide +kernel
theorem dX4_digest_141 : decode cX4_digest 141 = .ok (.iconst 1, 1) := by decide +kernel
theorem dX4_digest_142 : decode cX4_digest 142 = .ok (.if_icmp .gt 24, 3) := by decide +kernel
theorem dX4_digest_145 : decode cX4_digest 145 = .ok (.lload_n 1, 1) := by decide +kernel
theorem dX4_digest_146 : decode cX4_digest 146 = .ok (.ldc2_w 172, 3) := by decide +kernel
theorem dX4_digest_149 : decode cX4_digest 149 = .ok (.lmul, 1) := by decide +kernel
theorem dX4_digest_150 : decode cX4_digest 150 = .ok (.aload_n 0, 1) := by decide +kernel
theorem dX4_digest_151 : decode cX4_digest 151 = .ok (.iload_n 3, 1) := by decide +kernel
theorem dX4_digest_152 : decode cX4_digest 152 = .ok (.iload 4, 2) := by decide +kernel
theorem dX4_digest_154 : decode cX4_digest 154 = .ok (.invokevirtual 140, 3) := by decide +kernel
theorem dX4_digest_157 : decode cX4_digest 157 = .ok (.i2l, 1) := by decide +kernel
theorem dX4_digest_158 : decode cX4_digest 158 = .ok (.ladd, 1) := by decide +kernel
theorem dX4_digest_159 : decode cX4_digest 159 = .ok (.lstore_n 1, 1) := by decide +kernel
theorem dX4_digest_160 : decode cX4_digest 160 = .ok (.iinc 4 1, 3) := by decide +kernel
theorem dX4_digest_163 : decode cX4_digest 163 = .ok (.goto (-24), 3) := by decide +kernel
theorem dX4_digest_166 : decode cX4_digest 166 = .ok (.iinc 3 1, 3) := by decide +kernel
theorem dX4_digest_169 : decode cX4_digest 169 = .ok (.goto (-41), 3) := by decide +kernel
theorem dX4_digest_172 : decode cX4_digest 172 = .ok (.iconst 0, 1) := by decide +kernel
theorem dX4_digest_173 : decode cX4_digest 173 = .ok (.istore_n 3, 1) := by decide +kernel
theorem dX4_digest_174 : decode cX4_digest 174 = .ok (.iload_n 3, 1) := by decide +kernel
theorem dX4_digest_175 : decode cX4_digest 175 = .ok (.aload_n 0, 1) := by decide +kernel
theorem dX4_digest_176 : decode cX4_digest 176 = .ok (.getfield 27, 3) := by decide +kernel
theorem dX4_digest_179 : decode cX4_digest 179 = .ok (.getfield 48, 3) := by decide +kernel
theorem dX4_digest_182 : decode cX4_digest 182 = .ok (.if_icmp .ge 44, 3) := by decide +kernel
theorem dX4_digest_185 : decode cX4_digest 185 = .ok (.iconst 0, 1) := by decide +kernel
theorem dX4_digest_186 : decode cX4_digest 186 = .ok (.istore 4, 2) := by decide +kernel
theorem dX4_digest_188 : decode cX4_digest 188 = .ok (.iload 4, 2) := by decide +kernel
theorem dX4_digest_190 : decode cX4_digest 190 = .ok (.iconst 3, 1) := by decide +kernel
theorem dX4_digest_191 : decode cX4_digest 191 = .ok (.if_icmp .gt 29, 3) := by decide +kernel
theorem dX4_digest_194 : decode cX4_digest 194 = .ok (.lload_n 1, 1) := by decide +kernel
theorem dX4_digest_195 : decode cX4_digest 195 = .ok (.ldc2_w 172, 3) := by decide +kernel
theorem dX4_digest_198 : decode cX4_digest 198 = .ok (.lmul, 1) := by decide +kernel
theorem dX4_digest_199 : decode cX4_digest 199 = .ok (.aload_n 0, 1) := by decide +kernel
theorem dX4_digest_200 : decode cX4_digest 200 = .ok (.getfield 27, 3) := by decide +kernel
theorem dX4_digest_203 : decode cX4_digest 203 = .ok (.getfield 86, 3) := by decide +kernel
theorem dX4_digest_206 : decode cX4_digest 206 = .ok (.iload_n 3, 1) := by decide +kernel
theorem dX4_digest_207 : decode cX4_digest 207 = .ok (.aaload, 1) := by decide +kernel
theorem dX4_digest_208 : decode cX4_digest 208 = .ok (.iload 4, 2) := by decide +kernel
theorem dX4_digest_210 : decode cX4_digest 210 = .ok (.iaload, 1) := by decide +kernel
theorem dX4_digest_211 : decode cX4_digest 211 = .ok (.i2l, 1) := by decide +kernel
theorem dX4_digest_212 : decode cX4_digest 212 = .ok (.ladd, 1) := by decide +kernel
theorem dX4_digest_213 : decode cX4_digest 213 = .ok (.lstore_n 1, 1) := by decide +kernel
theorem dX4_digest_214 : decode cX4_digest 214 = .ok (.iinc 4 1, 3) := by decide +kernel
theorem dX4_digest_217 : decode cX4_digest 217 = .ok (.goto (-29), 3) := by decide +kernel
theorem dX4_digest_220 : decode cX4_digest 220 = .ok (.iinc 3 1, 3) := by decide +kernel
theorem dX4_digest_223 : decode cX4_digest 223 = .ok (.goto (-49), 3) := by decide +kernel
theorem dX4_digest_226 : decode cX4_digest 226 = .ok (.iconst 0, 1) := by decide +kernel
theorem dX4_digest_227 : decode cX4_digest 227 = .ok (.istore_n 3, 1) := by decide +kernel
theorem dX4_digest_228 : decode cX4_digest 228 = .ok (.iload_n 3, 1) := by decide +kernel
theorem dX4_digest_229 : decode cX4_digest 229 = .ok (.bipush 6, 2) := by decide +kernel
theorem dX4_digest_231 : decode cX4_digest 231 = .ok (.if_icmp .ge 43, 3) := by decide +kernel
theorem dX4_digest_234 : decode cX4_digest 234 = .ok (.iconst 0, 1) := by decide +kernel
theorem dX4_digest_235 : decode cX4_digest 235 = .ok (.istore 4, 2) := by decide +kernel
theorem dX4_digest_237 : decode cX4_digest 237 = .ok (.iload 4, 2) := by decide +kernel
theorem dX4_digest_239 : decode cX4_digest 239 = .ok (.iconst 3, 1) := by decide +kernel
theorem dX4_digest_240 : decode cX4_digest 240 = .ok (.if_icmp .gt 28, 3) := by decide +kernel
theorem dX4_digest_243 : decode cX4_digest 243 = .ok (.lload_n 1, 1) := by decide +kernel
theorem dX4_digest_244 : decode cX4_digest 244 = .ok (.ldc2_w 172, 3) := by decide +kernel
theorem dX4_digest_247 : decode cX4_digest 247 = .ok (.lmul, 1) := by decide +kernel
theorem dX4_digest_248 : decode cX4_digest 248 = .ok (.aload_n 0, 1) := by decide +kernel
theorem dX4_digest_249 : decode cX4_digest 249 = .ok (.getfield 27, 3) := by decide +kernel
theorem dX4_digest_252 : decode cX4_digest 252 = .ok (.iload_n 3, 1) := by decide +kernel
theorem dX4_digest_253 : decode cX4_digest 253 = .ok (.invokevirtual 90, 3) := by decide +kernel
theorem dX4_digest_256 : decode cX4_digest 256 = .ok (.iload 4, 2) := by decide +kernel
theorem dX4_digest_258 : decode cX4_digest 258 = .ok (.iaload, 1) := by decide +kernel
theorem dX4_digest_259 : decode cX4_digest 259 = .ok (.i2l, 1) := by decide +kernel
theorem dX4_digest_260 : decode cX4_digest 260 = .ok (.ladd, 1) := by decide +kernel
theorem dX4_digest_261 : decode cX4_digest 261 = .ok (.lstore_n 1, 1) := by decide +kernel
theorem dX4_digest_262 : decode cX4_digest 262 = .ok (.iinc 4 1, 3) := by decide +kernel
theorem dX4_digest_265 : decode cX4_digest 265 = .ok (.goto (-28), 3) := by decide +kernel
theorem dX4_digest_268 : decode cX4_digest 268 = .ok (.iinc 3 1, 3) := by decide +kernel
theorem dX4_digest_271 : decode cX4_digest 271 = .ok (.goto (-43), 3) := by decide +kernel
theorem dX4_digest_274 : decode cX4_digest 274 = .ok (.iconst 4, 1) := by decide +kernel
theorem dX4_digest_275 : decode cX4_digest 275 = .ok (.istore_n 3, 1) := by decide +kernel
theorem dX4_digest_276 : decode cX4_digest 276 = .ok (.iload_n 3, 1) := by decide +kernel
theorem dX4_digest_277 : decode cX4_digest 277 = .ok (.bipush 24, 2) := by decide +kernel
theorem dX4_digest_279 : decode cX4_digest 279 = .ok (.if_icmp .gt 26, 3) := by decide +kernel
theorem dX4_digest_282 : decode cX4_digest 282 = .ok (.lload_n 1, 1) := by decide +kernel
theorem dX4_digest_283 : decode cX4_digest 283 = .ok (.ldc2_w 172, 3) := by decide +kernel
theorem dX4_digest_286 : decode cX4_digest 286 = .ok (.lmul, 1) := by decide +kernel
theorem dX4_digest_287 : decode cX4_digest 287 = .ok (.aload_n 0, 1) := by decide +kernel
theorem dX4_digest_288 : decode cX4_digest 288 = .ok (.getfield 27, 3) := by decide +kernel
theorem dX4_digest_291 : decode cX4_digest 291 = .ok (.getfield 113, 3) := by decide +kernel
theorem dX4_digest_294 : decode cX4_digest 294 = .ok (.iload_n 3, 1) := by decide +kernel
theorem dX4_digest_295 : decode cX4_digest 295 = .ok (.iaload, 1) := by decide +kernel
theorem dX4_digest_296 : decode cX4_digest 296 = .ok (.i2l, 1) := by decide +kernel
theorem dX4_digest_297 : decode cX4_digest 297 = .ok (.ladd, 1) := by decide +kernel
theorem dX4_digest_298 : decode cX4_digest 298 = .ok (.lstore_n 1, 1) := by decide +kernel
theorem dX4_digest_299 : decode cX4_digest 299 = .ok (.iinc 3 1, 3) := by decide +kernel
theorem dX4_digest_302 : decode cX4_digest 302 = .ok (.goto (-26), 3) := by decide +kernel
theorem dX4_digest_305 : decode cX4_digest 305 = .ok (.iconst 0, 1) := by decide +kernel
theorem dX4_digest_306 : decode cX4_digest 306 = .ok (.istore_n 3, 1) := by decide +kernel
theorem dX4_digest_307 : decode cX4_digest 307 = .ok (.iload_n 3, 1) := by decide +kernel
theorem dX4_digest_308 : decode cX4_digest 308 = .ok (.aload_n 0, 1) := by decide +kernel
theorem dX4_digest_309 : decode cX4_digest 309 = .ok (.getfield 27, 3) := by decide +kernel
theorem dX4_digest_312 : decode cX4_digest 312 = .ok (.getfield 116, 3) := by decide +kernel
theorem dX4_digest_315 : decode cX4_digest 315 = .ok (.if_icmp .ge 44, 3) := by decide +kernel
theorem dX4_digest_318 : decode cX4_digest 318 = .ok (.iconst 0, 1) := by decide +kernel
theorem dX4_digest_319 : decode cX4_digest 319 = .ok (.istore 4, 2) := by decide +kernel
theorem dX4_digest_321 : decode cX4_digest 321 = .ok (.iload 4, 2) := by decide +kernel
theorem dX4_digest_323 : decode cX4_digest 323 = .ok (.iconst 3, 1) := by decide +kernel
theorem dX4_digest_324 : decode cX4_digest 324 = .ok (.if_icmp .gt 29, 3) := by decide +kernel
theorem dX4_digest_327 : decode cX4_digest 327 = .ok (.lload_n 1, 1) := by decide +kernel
theorem dX4_digest_328 : decode cX4_digest 328 = .ok (.ldc2_w 172, 3) := by decide +kernel
theorem dX4_digest_331 : decode cX4_digest 331 = .ok (.lmul, 1) := by decide +kernel
theorem dX4_digest_332 : decode cX4_digest 332 = .ok (.aload_n 0, 1) := by decide +kernel
theorem dX4_digest_333 : decode cX4_digest 333 = .ok (.getfield 27, 3) := by decide +kernel
theorem dX4_digest_336 : decode cX4_digest 336 = .ok (.getfield 119, 3) := by decide +kernel
theorem dX4_digest_339 : decode cX4_digest 339 = .ok (.iload_n 3, 1) := by decide +kernel
theorem dX4_digest_340 : decode cX4_digest 340 = .ok (.aaload, 1) := by decide +kernel
theorem dX4_digest_341 : decode cX4_digest 341 = .ok (.iload 4, 2) := by decide +kernel
theorem dX4_digest_343 : decode cX4_digest 343 = .ok (.iaload, 1) := by decide +kernel
theorem dX4_digest_344 : decode cX4_digest 344 = .ok (.i2l, 1) := by decide +kernel
theorem dX4_digest_345 : decode cX4_digest 345 = .ok (.ladd, 1) := by decide +kernel
theorem dX4_digest_346 : decode cX4_digest 346 = .ok (.lstore_n 1, 1) := by decide +kernel
theorem dX4_digest_347 : decode cX4_digest 347 = .ok (.iinc 4 1, 3) := by decide +kernel
theorem dX4_digest_350 : decode cX4_digest 350 = .ok (.goto (-29), 3) := by decide +kernel
theorem dX4_digest_353 : decode cX4_digest 353 = .ok (.iinc 3 1, 3) := by decide +kernel
theorem dX4_digest_356 : decode cX4_digest 356 = .ok (.goto (-49), 3) := by decide +kernel
theorem dX4_digest_359 : decode cX4_digest 359 = .ok (.lload_n 1, 1) := by decide +kernel
theorem dX4_digest_360 : decode cX4_digest 360 = .ok (.lreturn, 1) := by decide +kernel
end
section
theorem dL_mould_0 : decode cL_mould 0 = .ok (.aload_n 3, 1) := by decide +kernel
theorem dL_mould_1 : decode cL_mould 1 = .ok (.iconst 0, 1) := by decide +kernel
theorem dL_mould_2 : decode cL_mould 2 = .ok (.aload_n 0, 1) := by decide +kernel
theorem dL_mould_3 : decode cL_mould 3 = .ok (.iload_n 1, 1) := by decide +kernel
theorem dL_mould_4 : decode cL_mould 4 = .ok (.iload_n 2, 1) := by decide +kernel
theorem dL_mould_5 : decode cL_mould 5 = .ok (.invokevirtual 7, 3) := by decide +kernel
theorem dL_mould_8 : decode cL_mould 8 = .ok (.i2l, 1) := by decide +kernel
theorem dL_mould_9 : decode cL_mould 9 = .ok (.lastore, 1) := by decide +kernel
theorem dL_mould_10 : decode cL_mould 10 = .ok (.goto 11, 3) := by decide +kernel
theorem dL_mould_13 : decode cL_mould 13 = .ok (.astore 4, 2) := by decide +kernel
theorem dL_mould_15 : decode cL_mould 15 = .ok (.iconst 1, 1) := by decide +kernel
theorem dL_mould_16 : decode cL_mould 16 = .ok (.ireturn, 1) := by decide +kernel
theorem dL_mould_17 : decode cL_mould 17 = .ok (.astore 4, 2) := by decide +kernel
theorem dL_mould_19 : decode cL_mould 19 = .ok (.iconst 2, 1) := by decide +kernel
theorem dL_mould_20 : decode cL_mould 20 = .ok (.ireturn, 1) := by decide +kernel
theorem dL_mould_21 : decode cL_mould 21 = .ok (.iconst 0, 1) := by decide +kernel
theorem dL_mould_22 : decode cL_mould 22 = .ok (.ireturn, 1) := by decide +kernel
theorem dL_refit_0 : decode cL_refit 0 = .ok (.aload_n 2, 1) := by decide +kernel
theorem dL_refit_1 : decode cL_refit 1 = .ok (.iconst 0, 1) := by decide +kernel
theorem dL_refit_2 : decode cL_refit 2 = .ok (.aload_n 0, 1) := by decide +kernel
theorem dL_refit_3 : decode cL_refit 3 = .ok (.iload_n 1, 1) := by decide +kernel
theorem dL_refit_4 : decode cL_refit 4 = .ok (.invokevirtual 17, 3) := by decide +kernel
theorem dL_refit_7 : decode cL_refit 7 = .ok (.i2l, 1) := by decide +kernel
theorem dL_refit_8 : decode cL_refit 8 = .ok (.lastore, 1) := by decide +kernel
theorem dL_refit_9 : decode cL_refit 9 = .ok (.goto 9, 3) := by decide +kernel
theorem dL_refit_12 : decode cL_refit 12 = .ok (.astore_n 3, 1) := by decide +kernel
theorem dL_refit_13 : decode cL_refit 13 = .ok (.iconst 1, 1) := by decide +kernel
theorem dL_refit_14 : decode cL_refit 14 = .ok (.ireturn, 1) := by decide +kernel
theorem dL_refit_15 : decode cL_refit 15 = .ok (.astore_n 3, 1) := by decide +kernel
theorem dL_refit_16 : decode cL_refit 16 = .ok (.iconst 2, 1) := by decide +kernel
theorem dL_refit_17 : decode cL_refit 17 = .ok (.ireturn, 1) := by decide +kernel
theorem dL_refit_18 : decode cL_refit 18 = .ok (.iconst 0, 1) := by decide +kernel
theorem dL_refit_19 : decode cL_refit 19 = .ok (.ireturn, 1) := by decide +kernel
theorem dL_maker_0 : decode cL_maker 0 = .ok (.aload_n 2, 1) := by decide +kernel
theorem dL_maker_1 : decode cL_maker 1 = .ok (.iconst 0, 1) := by decide +kernel
theorem dL_maker_2 : decode cL_maker 2 = .ok (.aload_n 0, 1) := by decide +kernel
theorem dL_maker_3 : decode cL_maker 3 = .ok (.iload_n 1, 1) := by decide +kernel
theorem dL_maker_4 : decode cL_maker 4 = .ok (.invokevirtual 23, 3) := by decide +kernel
theorem dL_maker_7 : decode cL_maker 7 = .ok (.i2l, 1) := by decide +kernel
theorem dL_maker_8 : decode cL_maker 8 = .ok (.lastore, 1) := by decide +kernel
theorem dL_maker_9 : decode cL_maker 9 = .ok (.goto 9, 3) := by decide +kernel
theorem dL_maker_12 : decode cL_maker 12 = .ok (.astore_n 3, 1) := by decide +kernel
theorem dL_maker_13 : decode cL_maker 13 = .ok (.iconst 1, 1) := by decide +kernel
theorem dL_maker_14 : decode cL_maker 14 = .ok (.ireturn, 1) := by decide +kernel
theorem dL_maker_15 : decode cL_maker 15 = .ok (.astore_n 3, 1) := by decide +kernel
theorem dL_maker_16 : decode cL_maker 16 = .ok (.iconst 2, 1) := by decide +kernel
theorem dL_maker_17 : decode cL_maker 17 = .ok (.ireturn, 1) := by decide +kernel
theorem dL_maker_18 : decode cL_maker 18 = .ok (.iconst 0, 1) := by decide +kernel
theorem dL_maker_19 : decode cL_maker 19 = .ok (.ireturn, 1) := by decide +kernel
theorem dL_place_0 : decode cL_place 0 = .ok (.aload_n 3, 1) := by decide +kernel
theorem dL_place_1 : decode cL_place 1 = .ok (.iconst 0, 1) := by decide +kernel
theorem dL_place_2 : decode cL_place 2 = .ok (.aload_n 0, 1) := by decide +kernel
theorem dL_place_3 : decode cL_place 3 = .ok (.iload_n 1, 1) := by decide +kernel
theorem dL_place_4 : decode cL_place 4 = .ok (.iload_n 2, 1) := by decide +kernel
theorem dL_place_5 : decode cL_place 5 = .ok (.invokevirtual 26, 3) := by decide +kernel
theorem dL_place_8 : decode cL_place 8 = .ok (.i2l, 1) := by decide +kernel
theorem dL_place_9 : decode cL_place 9 = .ok (.lastore, 1) := by decide +kernel
theorem dL_place_10 : decode cL_place 10 = .ok (.goto 11, 3) := by decide +kernel
theorem dL_place_13 : decode cL_place 13 = .ok (.astore 4, 2) := by decide +kernel
theorem dL_place_15 : decode cL_place 15 = .ok (.iconst 1, 1) := by decide +kernel
theorem dL_place_16 : decode cL_place 16 = .ok (.ireturn, 1) := by decide +kernel
theorem dL_place_17 : decode cL_place 17 = .ok (.astore 4, 2) := by decide +kernel
theorem dL_place_19 : decode cL_place 19 = .ok (.iconst 2, 1) := by decide +kernel
theorem dL_place_20 : decode cL_place 20 = .ok (.ireturn, 1) := by decide +kernel
theorem dL_place_21 : decode cL_place 21 = .ok (.iconst 0, 1) := by decide +kernel
theorem dL_place_22 : decode cL_place 22 = .ok (.ireturn, 1) := by decide +kernel
theorem dL_buy_0 : decode cL_buy 0 = .ok (.aload_n 3, 1) := by decide +kernel
theorem dL_buy_1 : decode cL_buy 1 = .ok (.iconst 0, 1) := by decide +kernel
theorem dL_buy_2 : decode cL_buy 2 = .ok (.aload_n 0, 1) := by decide +kernel
theorem dL_buy_3 : decode cL_buy 3 = .ok (.iload_n 1, 1) := by decide +kernel
theorem dL_buy_4 : decode cL_buy 4 = .ok (.iload_n 2, 1) := by decide +kernel
theorem dL_buy_5 : decode cL_buy 5 = .ok (.invokevirtual 29, 3) := by decide +kernel
theorem dL_buy_8 : decode cL_buy 8 = .ok (.i2l, 1) := by decide +kernel
theorem dL_buy_9 : decode cL_buy 9 = .ok (.lastore, 1) := by decide +kernel
theorem dL_buy_10 : decode cL_buy 10 = .ok (.goto 15, 3) := by decide +kernel
theorem dL_buy_13 : decode cL_buy 13 = .ok (.astore 4, 2) := by decide +kernel
theorem dL_buy_15 : decode cL_buy 15 = .ok (.iconst 1, 1) := by decide +kernel
theorem dL_buy_16 : decode cL_buy 16 = .ok (.ireturn, 1) := by decide +kernel
theorem dL_buy_17 : decode cL_buy 17 = .ok (.astore 4, 2) := by decide +kernel
theorem dL_buy_19 : decode cL_buy 19 = .ok (.iconst 2, 1) := by decide +kernel
theorem dL_buy_20 : decode cL_buy 20 = .ok (.ireturn, 1) := by decide +kernel
theorem dL_buy_21 : decode cL_buy 21 = .ok (.astore 4, 2) := by decide +kernel
theorem dL_buy_23 : decode cL_buy 23 = .ok (.iconst 3, 1) := by decide +kernel
theorem dL_buy_24 : decode cL_buy 24 = .ok (.ireturn, 1) := by decide +kernel
theorem dL_buy_25 : decode cL_buy 25 = .ok (.iconst 0, 1) := by decide +kernel
theorem dL_buy_26 : decode cL_buy 26 = .ok (.ireturn, 1) := by decide +kernel
theorem dL_setDry_0 : decode cL_setDry 0 = .ok (.aload_n 3, 1) := by decide +kernel
theorem dL_setDry_1 : decode cL_setDry 1 = .ok (.iconst 0, 1) := by decide +kernel
theorem dL_setDry_2 : decode cL_setDry 2 = .ok (.aload_n 0, 1) := by decide +kernel
theorem dL_setDry_3 : decode cL_setDry 3 = .ok (.iload_n 1, 1) := by decide +kernel
theorem dL_setDry_4 : decode cL_setDry 4 = .ok (.iload_n 2, 1) := by decide +kernel
theorem dL_setDry_5 : decode cL_setDry 5 = .ok (.invokevirtual 32, 3) := by decide +kernel
theorem dL_setDry_8 : decode cL_setDry 8 = .ok (.i2l, 1) := by decide +kernel
theorem dL_setDry_9 : decode cL_setDry 9 = .ok (.lastore, 1) := by decide +kernel
theorem dL_setDry_10 : decode cL_setDry 10 = .ok (.goto 11, 3) := by decide +kernel
theorem dL_setDry_13 : decode cL_setDry 13 = .ok (.astore 4, 2) := by decide +kernel
theorem dL_setDry_15 : decode cL_setDry 15 = .ok (.iconst 1, 1) := by decide +kernel
theorem dL_setDry_16 : decode cL_setDry 16 = .ok (.ireturn, 1) := by decide +kernel
theorem dL_setDry_17 : decode cL_setDry 17 = .ok (.astore 4, 2) := by decide +kernel
theorem dL_setDry_19 : decode cL_setDry 19 = .ok (.iconst 2, 1) := by decide +kernel
theorem dL_setDry_20 : decode cL_setDry 20 = .ok (.ireturn, 1) := by decide +kernel
theorem dL_setDry_21 : decode cL_setDry 21 = .ok (.iconst 0, 1) := by decide +kernel
theorem dL_setDry_22 : decode cL_setDry 22 = .ok (.ireturn, 1) := by decide +kernel
theorem dL_pack_0 : decode cL_pack 0 = .ok (.aload 4, 2) := by decide +kernel
theorem dL_pack_2 : decode cL_pack 2 = .ok (.iconst 0, 1) := by decide +kernel
theorem dL_pack_3 : decode cL_pack 3 = .ok (.aload_n 0, 1) := by decide +kernel
theorem dL_pack_4 : decode cL_pack 4 = .ok (.iload_n 1, 1) := by decide +kernel
theorem dL_pack_5 : decode cL_pack 5 = .ok (.iload_n 2, 1) := by decide +kernel
theorem dL_pack_6 : decode cL_pack 6 = .ok (.iload_n 3, 1) := by decide +kernel
theorem dL_pack_7 : decode cL_pack 7 = .ok (.invokevirtual 35, 3) := by decide +kernel
theorem dL_pack_10 : decode cL_pack 10 = .ok (.i2l, 1) := by decide +kernel
theorem dL_pack_11 : decode cL_pack 11 = .ok (.lastore, 1) := by decide +kernel
theorem dL_pack_12 : decode cL_pack 12 = .ok (.goto 15, 3) := by decide +kernel
theorem dL_pack_15 : decode cL_pack 15 = .ok (.astore 5, 2) := by decide +kernel
theorem dL_pack_17 : decode cL_pack 17 = .ok (.iconst 1, 1) := by decide +kernel
theorem dL_pack_18 : decode cL_pack 18 = .ok (.ireturn, 1) := by decide +kernel
theorem dL_pack_19 : decode cL_pack 19 = .ok (.astore 5, 2) := by decide +kernel
theorem dL_pack_21 : decode cL_pack 21 = .ok (.iconst 2, 1) := by decide +kernel
theorem dL_pack_22 : decode cL_pack 22 = .ok (.ireturn, 1) := by decide +kernel
theorem dL_pack_23 : decode cL_pack 23 = .ok (.astore 5, 2) := by decide +kernel
theorem dL_pack_25 : decode cL_pack 25 = .ok (.iconst 3, 1) := by decide +kernel
theorem dL_pack_26 : decode cL_pack 26 = .ok (.ireturn, 1) := by decide +kernel
theorem dL_pack_27 : decode cL_pack 27 = .ok (.iconst 0, 1) := by decide +kernel
theorem dL_pack_28 : decode cL_pack 28 = .ok (.ireturn, 1) := by decide +kernel
theorem dL_fire_0 : decode cL_fire 0 = .ok (.aload_n 2, 1) := by decide +kernel
theorem dL_fire_1 : decode cL_fire 1 = .ok (.iconst 0, 1) := by decide +kernel
theorem dL_fire_2 : decode cL_fire 2 = .ok (.aload_n 0, 1) := by decide +kernel
theorem dL_fire_3 : decode cL_fire 3 = .ok (.iload_n 1, 1) := by decide +kernel
theorem dL_fire_4 : decode cL_fire 4 = .ok (.invokevirtual 39, 3) := by decide +kernel
theorem dL_fire_7 : decode cL_fire 7 = .ok (.i2l, 1) := by decide +kernel
theorem dL_fire_8 : decode cL_fire 8 = .ok (.lastore, 1) := by decide +kernel
theorem dL_fire_9 : decode cL_fire 9 = .ok (.goto 9, 3) := by decide +kernel
theorem dL_fire_12 : decode cL_fire 12 = .ok (.astore_n 3, 1) := by decide +kernel
theorem dL_fire_13 : decode cL_fire 13 = .ok (.iconst 1, 1) := by decide +kernel
theorem dL_fire_14 : decode cL_fire 14 = .ok (.ireturn, 1) := by decide +kernel
theorem dL_fire_15 : decode cL_fire 15 = .ok (.astore_n 3, 1) := by decide +kernel
theorem dL_fire_16 : decode cL_fire 16 = .ok (.iconst 2, 1) := by decide +kernel
theorem dL_fire_17 : decode cL_fire 17 = .ok (.ireturn, 1) := by decide +kernel
theorem dL_fire_18 : decode cL_fire 18 = .ok (.iconst 0, 1) := by decide +kernel
theorem dL_fire_19 : decode cL_fire 19 = .ok (.ireturn, 1) := by decide +kernel
theorem dL_order_0 : decode cL_order 0 = .ok (.aload 5, 2) := by decide +kernel
theorem dL_order_2 : decode cL_order 2 = .ok (.iconst 0, 1) := by decide +kernel
theorem dL_order_3 : decode cL_order 3 = .ok (.aload_n 0, 1) := by decide +kernel
theorem dL_order_4 : decode cL_order 4 = .ok (.iload_n 1, 1) := by decide +kernel
theorem dL_order_5 : decode cL_order 5 = .ok (.iload_n 2, 1) := by decide +kernel
theorem dL_order_6 : decode cL_order 6 = .ok (.iload_n 3, 1) := by decide +kernel
theorem dL_order_7 : decode cL_order 7 = .ok (.iload 4, 2) := by decide +kernel
theorem dL_order_9 : decode cL_order 9 = .ok (.invokevirtual 42, 3) := by decide +kernel
theorem dL_order_12 : decode cL_order 12 = .ok (.i2l, 1) := by decide +kernel
theorem dL_order_13 : decode cL_order 13 = .ok (.lastore, 1) := by decide +kernel
theorem dL_order_14 : decode cL_order 14 = .ok (.goto 11, 3) := by decide +kernel
theorem dL_order_17 : decode cL_order 17 = .ok (.astore 6, 2) := by decide +kernel
theorem dL_order_19 : decode cL_order 19 = .ok (.iconst 1, 1) := by decide +kernel
theorem dL_order_20 : decode cL_order 20 = .ok (.ireturn, 1) := by decide +kernel
theorem dL_order_21 : decode cL_order 21 = .ok (.astore 6, 2) := by decide +kernel
theorem dL_order_23 : decode cL_order 23 = .ok (.iconst 2, 1) := by decide +kernel
theorem dL_order_24 : decode cL_order 24 = .ok (.ireturn, 1) := by decide +kernel
theorem dL_order_25 : decode cL_order 25 = .ok (.iconst 0, 1) := by decide +kernel
theorem dL_order_26 : decode cL_order 26 = .ok (.ireturn, 1) := by decide +kernel
theorem dL_about_0 : decode cL_about 0 = .ok (.aload_n 3, 1) := by decide +kernel
theorem dL_about_1 : decode cL_about 1 = .ok (.iconst 0, 1) := by decide +kernel
theorem dL_about_2 : decode cL_about 2 = .ok (.aload_n 0, 1) := by decide +kernel
theorem dL_about_3 : decode cL_about 3 = .ok (.iload_n 1, 1) := by decide +kernel
theorem dL_about_4 : decode cL_about 4 = .ok (.iload_n 2, 1) := by decide +kernel
theorem dL_about_5 : decode cL_about 5 = .ok (.invokevirtual 46, 3) := by decide +kernel
theorem dL_about_8 : decode cL_about 8 = .ok (.i2l, 1) := by decide +kernel
theorem dL_about_9 : decode cL_about 9 = .ok (.lastore, 1) := by decide +kernel
theorem dL_about_10 : decode cL_about 10 = .ok (.goto 7, 3) := by decide +kernel
theorem dL_about_13 : decode cL_about 13 = .ok (.astore 4, 2) := by decide +kernel
theorem dL_about_15 : decode cL_about 15 = .ok (.iconst 1, 1) := by decide +kernel
theorem dL_about_16 : decode cL_about 16 = .ok (.ireturn, 1) := by decide +kernel
theorem dL_about_17 : decode cL_about 17 = .ok (.iconst 0, 1) := by decide +kernel
theorem dL_about_18 : decode cL_about 18 = .ok (.ireturn, 1) := by decide +kernel
theorem dL_told_0 : decode cL_told 0 = .ok (.aload_n 3, 1) := by decide +kernel
theorem dL_told_1 : decode cL_told 1 = .ok (.iconst 0, 1) := by decide +kernel
theorem dL_told_2 : decode cL_told 2 = .ok (.aload_n 0, 1) := by decide +kernel
theorem dL_told_3 : decode cL_told 3 = .ok (.iload_n 1, 1) := by decide +kernel
theorem dL_told_4 : decode cL_told 4 = .ok (.iload_n 2, 1) := by decide +kernel
theorem dL_told_5 : decode cL_told 5 = .ok (.invokevirtual 49, 3) := by decide +kernel
theorem dL_told_8 : decode cL_told 8 = .ok (.i2l, 1) := by decide +kernel
theorem dL_told_9 : decode cL_told 9 = .ok (.lastore, 1) := by decide +kernel
theorem dL_told_10 : decode cL_told 10 = .ok (.goto 7, 3) := by decide +kernel
theorem dL_told_13 : decode cL_told 13 = .ok (.astore 4, 2) := by decide +kernel
theorem dL_told_15 : decode cL_told 15 = .ok (.iconst 1, 1) := by decide +kernel
theorem dL_told_16 : decode cL_told 16 = .ok (.ireturn, 1) := by decide +kernel
theorem dL_told_17 : decode cL_told 17 = .ok (.iconst 0, 1) := by decide +kernel
theorem dL_told_18 : decode cL_told 18 = .ok (.ireturn, 1) := by decide +kernel
theorem dL_batch_0 : decode cL_batch 0 = .ok (.aload_n 3, 1) := by decide +kernel
theorem dL_batch_1 : decode cL_batch 1 = .ok (.iconst 0, 1) := by decide +kernel
theorem dL_batch_2 : decode cL_batch 2 = .ok (.aload_n 0, 1) := by decide +kernel
theorem dL_batch_3 : decode cL_batch 3 = .ok (.iload_n 1, 1) := by decide +kernel
theorem dL_batch_4 : decode cL_batch 4 = .ok (.iload_n 2, 1) := by decide +kernel
theorem dL_batch_5 : decode cL_batch 5 = .ok (.invokevirtual 52, 3) := by decide +kernel
theorem dL_batch_8 : decode cL_batch 8 = .ok (.i2l, 1) := by decide +kernel
theorem dL_batch_9 : decode cL_batch 9 = .ok (.lastore, 1) := by decide +kernel
theorem dL_batch_10 : decode cL_batch 10 = .ok (.goto 7, 3) := by decide +kernel
theorem dL_batch_13 : decode cL_batch 13 = .ok (.astore 4, 2) := by decide +kernel
theorem dL_batch_15 : decode cL_batch 15 = .ok (.iconst 1, 1) := by decide +kernel
theorem dL_batch_16 : decode cL_batch 16 = .ok (.ireturn, 1) := by decide +kernel
theorem dL_batch_17 : decode cL_batch 17 = .ok (.iconst 0, 1) := by decide +kernel
theorem dL_batch_18 : decode cL_batch 18 = .ok (.ireturn, 1) := by decide +kernel
theorem dL_saggar_0 : decode cL_saggar 0 = .ok (.aload_n 3, 1) := by decide +kernel
theorem dL_saggar_1 : decode cL_saggar 1 = .ok (.iconst 0, 1) := by decide +kernel
theorem dL_saggar_2 : decode cL_saggar 2 = .ok (.aload_n 0, 1) := by decide +kernel
theorem dL_saggar_3 : decode cL_saggar 3 = .ok (.iload_n 1, 1) := by decide +kernel
theorem dL_saggar_4 : decode cL_saggar 4 = .ok (.iload_n 2, 1) := by decide +kernel
theorem dL_saggar_5 : decode cL_saggar 5 = .ok (.invokevirtual 55, 3) := by decide +kernel
theorem dL_saggar_8 : decode cL_saggar 8 = .ok (.i2l, 1) := by decide +kernel
theorem dL_saggar_9 : decode cL_saggar 9 = .ok (.lastore, 1) := by decide +kernel
theorem dL_saggar_10 : decode cL_saggar 10 = .ok (.goto 7, 3) := by decide +kernel
theorem dL_saggar_13 : decode cL_saggar 13 = .ok (.astore 4, 2) := by decide +kernel
theorem dL_saggar_15 : decode cL_saggar 15 = .ok (.iconst 1, 1) := by decide +kernel
theorem dL_saggar_16 : decode cL_saggar 16 = .ok (.ireturn, 1) := by decide +kernel
theorem dL_saggar_17 : decode cL_saggar 17 = .ok (.iconst 0, 1) := by decide +kernel
theorem dL_saggar_18 : decode cL_saggar 18 = .ok (.ireturn, 1) := by decide +kernel
theorem dL_store_0 : decode cL_store 0 = .ok (.aload_n 2, 1) := by decide +kernel
theorem dL_store_1 : decode cL_store 1 = .ok (.iconst 0, 1) := by decide +kernel
theorem dL_store_2 : decode cL_store 2 = .ok (.aload_n 0, 1) := by decide +kernel
theorem dL_store_3 : decode cL_store 3 = .ok (.iload_n 1, 1) := by decide +kernel
theorem dL_store_4 : decode cL_store 4 = .ok (.invokevirtual 58, 3) := by decide +kernel
theorem dL_store_7 : decode cL_store 7 = .ok (.i2l, 1) := by decide +kernel
theorem dL_store_8 : decode cL_store 8 = .ok (.lastore, 1) := by decide +kernel
theorem dL_store_9 : decode cL_store 9 = .ok (.goto 6, 3) := by decide +kernel
theorem dL_store_12 : decode cL_store 12 = .ok (.astore_n 3, 1) := by decide +kernel
theorem dL_store_13 : decode cL_store 13 = .ok (.iconst 1, 1) := by decide +kernel
theorem dL_store_14 : decode cL_store 14 = .ok (.ireturn, 1) := by decide +kernel
theorem dL_store_15 : decode cL_store 15 = .ok (.iconst 0, 1) := by decide +kernel
theorem dL_store_16 : decode cL_store 16 = .ok (.ireturn, 1) := by decide +kernel
theorem dL_waits_0 : decode cL_waits 0 = .ok (.aload_n 3, 1) := by decide +kernel
theorem dL_waits_1 : decode cL_waits 1 = .ok (.iconst 0, 1) := by decide +kernel
theorem dL_waits_2 : decode cL_waits 2 = .ok (.aload_n 0, 1) := by decide +kernel
theorem dL_waits_3 : decode cL_waits 3 = .ok (.iload_n 1, 1) := by decide +kernel
theorem dL_waits_4 : decode cL_waits 4 = .ok (.iload_n 2, 1) := by decide +kernel
theorem dL_waits_5 : decode cL_waits 5 = .ok (.invokevirtual 61, 3) := by decide +kernel
theorem dL_waits_8 : decode cL_waits 8 = .ok (.i2l, 1) := by decide +kernel
theorem dL_waits_9 : decode cL_waits 9 = .ok (.lastore, 1) := by decide +kernel
theorem dL_waits_10 : decode cL_waits 10 = .ok (.goto 7, 3) := by decide +kernel
theorem dL_waits_13 : decode cL_waits 13 = .ok (.astore 4, 2) := by decide +kernel
theorem dL_waits_15 : decode cL_waits 15 = .ok (.iconst 1, 1) := by decide +kernel
theorem dL_waits_16 : decode cL_waits 16 = .ok (.ireturn, 1) := by decide +kernel
theorem dL_waits_17 : decode cL_waits 17 = .ok (.iconst 0, 1) := by decide +kernel
theorem dL_waits_18 : decode cL_waits 18 = .ok (.ireturn, 1) := by decide +kernel
theorem dL_count_0 : decode cL_count 0 = .ok (.aload_n 2, 1) := by decide +kernel
theorem dL_count_1 : decode cL_count 1 = .ok (.iconst 0, 1) := by decide +kernel
theorem dL_count_2 : decode cL_count 2 = .ok (.aload_n 0, 1) := by decide +kernel
theorem dL_count_3 : decode cL_count 3 = .ok (.iload_n 1, 1) := by decide +kernel
theorem dL_count_4 : decode cL_count 4 = .ok (.invokevirtual 64, 3) := by decide +kernel
theorem dL_count_7 : decode cL_count 7 = .ok (.i2l, 1) := by decide +kernel
theorem dL_count_8 : decode cL_count 8 = .ok (.lastore, 1) := by decide +kernel
theorem dL_count_9 : decode cL_count 9 = .ok (.goto 6, 3) := by decide +kernel
theorem dL_count_12 : decode cL_count 12 = .ok (.astore_n 3, 1) := by decide +kernel
theorem dL_count_13 : decode cL_count 13 = .ok (.iconst 1, 1) := by decide +kernel
theorem dL_count_14 : decode cL_count 14 = .ok (.ireturn, 1) := by decide +kernel
theorem dL_count_15 : decode cL_count 15 = .ok (.iconst 0, 1) := by decide +kernel
theorem dL_count_16 : decode cL_count 16 = .ok (.ireturn, 1) := by decide +kernel
theorem dL_pass_0 : decode cL_pass 0 = .ok (.aload_n 2, 1) := by decide +kernel
theorem dL_pass_1 : decode cL_pass 1 = .ok (.iconst 0, 1) := by decide +kernel
theorem dL_pass_2 : decode cL_pass 2 = .ok (.aload_n 0, 1) := by decide +kernel
theorem dL_pass_3 : decode cL_pass 3 = .ok (.iload_n 1, 1) := by decide +kernel
theorem dL_pass_4 : decode cL_pass 4 = .ok (.invokevirtual 67, 3) := by decide +kernel
theorem dL_pass_7 : decode cL_pass 7 = .ok (.i2l, 1) := by decide +kernel
theorem dL_pass_8 : decode cL_pass 8 = .ok (.lastore, 1) := by decide +kernel
theorem dL_pass_9 : decode cL_pass 9 = .ok (.goto 6, 3) := by decide +kernel
theorem dL_pass_12 : decode cL_pass 12 = .ok (.astore_n 3, 1) := by decide +kernel
theorem dL_pass_13 : decode cL_pass 13 = .ok (.iconst 1, 1) := by decide +kernel
theorem dL_pass_14 : decode cL_pass 14 = .ok (.ireturn, 1) := by decide +kernel
theorem dL_pass_15 : decode cL_pass 15 = .ok (.iconst 0, 1) := by decide +kernel
theorem dL_pass_16 : decode cL_pass 16 = .ok (.ireturn, 1) := by decide +kernel
theorem dL_breaks_0 : decode cL_breaks 0 = .ok (.aload_n 3, 1) := by decide +kernel
theorem dL_breaks_1 : decode cL_breaks 1 = .ok (.iconst 0, 1) := by decide +kernel
theorem dL_breaks_2 : decode cL_breaks 2 = .ok (.aload_n 0, 1) := by decide +kernel
theorem dL_breaks_3 : decode cL_breaks 3 = .ok (.iload_n 1, 1) := by decide +kernel
theorem dL_breaks_4 : decode cL_breaks 4 = .ok (.iload_n 2, 1) := by decide +kernel
theorem dL_breaks_5 : decode cL_breaks 5 = .ok (.invokevirtual 70, 3) := by decide +kernel
theorem dL_breaks_8 : decode cL_breaks 8 = .ok (.i2l, 1) := by decide +kernel
theorem dL_breaks_9 : decode cL_breaks 9 = .ok (.lastore, 1) := by decide +kernel
theorem dL_breaks_10 : decode cL_breaks 10 = .ok (.goto 11, 3) := by decide +kernel
theorem dL_breaks_13 : decode cL_breaks 13 = .ok (.astore 4, 2) := by decide +kernel
theorem dL_breaks_15 : decode cL_breaks 15 = .ok (.iconst 1, 1) := by decide +kernel
theorem dL_breaks_16 : decode cL_breaks 16 = .ok (.ireturn, 1) := by decide +kernel
theorem dL_breaks_17 : decode cL_breaks 17 = .ok (.astore 4, 2) := by decide +kernel
theorem dL_breaks_19 : decode cL_breaks 19 = .ok (.iconst 2, 1) := by decide +kernel
theorem dL_breaks_20 : decode cL_breaks 20 = .ok (.ireturn, 1) := by decide +kernel
theorem dL_breaks_21 : decode cL_breaks 21 = .ok (.iconst 0, 1) := by decide +kernel
theorem dL_breaks_22 : decode cL_breaks 22 = .ok (.ireturn, 1) := by decide +kernel
theorem dL_ready_0 : decode cL_ready 0 = .ok (.aload_n 2, 1) := by decide +kernel
theorem dL_ready_1 : decode cL_ready 1 = .ok (.iconst 0, 1) := by decide +kernel
theorem dL_ready_2 : decode cL_ready 2 = .ok (.aload_n 0, 1) := by decide +kernel
theorem dL_ready_3 : decode cL_ready 3 = .ok (.iload_n 1, 1) := by decide +kernel
theorem dL_ready_4 : decode cL_ready 4 = .ok (.invokevirtual 73, 3) := by decide +kernel
theorem dL_ready_7 : decode cL_ready 7 = .ok (.i2l, 1) := by decide +kernel
theorem dL_ready_8 : decode cL_ready 8 = .ok (.lastore, 1) := by decide +kernel
theorem dL_ready_9 : decode cL_ready 9 = .ok (.goto 6, 3) := by decide +kernel
theorem dL_ready_12 : decode cL_ready 12 = .ok (.astore_n 3, 1) := by decide +kernel
theorem dL_ready_13 : decode cL_ready 13 = .ok (.iconst 1, 1) := by decide +kernel
theorem dL_ready_14 : decode cL_ready 14 = .ok (.ireturn, 1) := by decide +kernel
theorem dL_ready_15 : decode cL_ready 15 = .ok (.iconst 0, 1) := by decide +kernel
theorem dL_ready_16 : decode cL_ready 16 = .ok (.ireturn, 1) := by decide +kernel
theorem dL_foresee_0 : decode cL_foresee 0 = .ok (.aload_n 3, 1) := by decide +kernel
theorem dL_foresee_1 : decode cL_foresee 1 = .ok (.iconst 0, 1) := by decide +kernel
theorem dL_foresee_2 : decode cL_foresee 2 = .ok (.aload_n 0, 1) := by decide +kernel
theorem dL_foresee_3 : decode cL_foresee 3 = .ok (.iload_n 1, 1) := by decide +kernel
theorem dL_foresee_4 : decode cL_foresee 4 = .ok (.iload_n 2, 1) := by decide +kernel
theorem dL_foresee_5 : decode cL_foresee 5 = .ok (.invokevirtual 76, 3) := by decide +kernel
theorem dL_foresee_8 : decode cL_foresee 8 = .ok (.i2l, 1) := by decide +kernel
theorem dL_foresee_9 : decode cL_foresee 9 = .ok (.lastore, 1) := by decide +kernel
theorem dL_foresee_10 : decode cL_foresee 10 = .ok (.goto 11, 3) := by decide +kernel
theorem dL_foresee_13 : decode cL_foresee 13 = .ok (.astore 4, 2) := by decide +kernel
theorem dL_foresee_15 : decode cL_foresee 15 = .ok (.iconst 1, 1) := by decide +kernel
theorem dL_foresee_16 : decode cL_foresee 16 = .ok (.ireturn, 1) := by decide +kernel
theorem dL_foresee_17 : decode cL_foresee 17 = .ok (.astore 4, 2) := by decide +kernel
theorem dL_foresee_19 : decode cL_foresee 19 = .ok (.iconst 2, 1) := by decide +kernel
theorem dL_foresee_20 : decode cL_foresee 20 = .ok (.ireturn, 1) := by decide +kernel
theorem dL_foresee_21 : decode cL_foresee 21 = .ok (.iconst 0, 1) := by decide +kernel
theorem dL_foresee_22 : decode cL_foresee 22 = .ok (.ireturn, 1) := by decide +kernel
end
section
theorem dL_law_0 : decode cL_law 0 = .ok (.new 8, 3) := by decide +kernel
theorem dL_law_3 : decode cL_law 3 = .ok (.dup, 1) := by decide +kernel
theorem dL_law_4 : decode cL_law 4 = .ok (.invokespecial 79, 3) := by decide +kernel
theorem dL_law_7 : decode cL_law 7 = .ok (.astore_n 1, 1) := by decide +kernel
theorem dL_law_8 : decode cL_law 8 = .ok (.new 80, 3) := by decide +kernel
theorem dL_law_11 : decode cL_law 11 = .ok (.dup, 1) := by decide +kernel
theorem dL_law_12 : decode cL_law 12 = .ok (.invokespecial 82, 3) := by decide +kernel
theorem dL_law_15 : decode cL_law 15 = .ok (.astore_n 2, 1) := by decide +kernel
theorem dL_law_16 : decode cL_law 16 = .ok (.iconst 1, 1) := by decide +kernel
theorem dL_law_17 : decode cL_law 17 = .ok (.newarray .long, 2) := by decide +kernel
theorem dL_law_19 : decode cL_law 19 = .ok (.astore_n 3, 1) := by decide +kernel
theorem dL_law_20 : decode cL_law 20 = .ok (.iconst 0, 1) := by decide +kernel
theorem dL_law_21 : decode cL_law 21 = .ok (.istore 4, 2) := by decide +kernel
theorem dL_law_23 : decode cL_law 23 = .ok (.iload 4, 2) := by decide +kernel
theorem dL_law_25 : decode cL_law 25 = .ok (.aload_n 0, 1) := by decide +kernel
theorem dL_law_26 : decode cL_law 26 = .ok (.arraylength, 1) := by decide +kernel
theorem dL_law_27 : decode cL_law 27 = .ok (.iconst 5, 1) := by decide +kernel
theorem dL_law_28 : decode cL_law 28 = .ok (.isub, 1) := by decide +kernel
theorem dL_law_29 : decode cL_law 29 = .ok (.if_icmp .gt 1501, 3) := by decide +kernel
theorem dL_law_32 : decode cL_law 32 = .ok (.aload_n 0, 1) := by decide +kernel
theorem dL_law_33 : decode cL_law 33 = .ok (.iload 4, 2) := by decide +kernel
theorem dL_law_35 : decode cL_law 35 = .ok (.iaload, 1) := by decide +kernel
theorem dL_law_36 : decode cL_law 36 = .ok (.bipush 31, 2) := by decide +kernel
theorem dL_law_38 : decode cL_law 38 = .ok (.iand, 1) := by decide +kernel
theorem dL_law_39 : decode cL_law 39 = .ok (.tableswitch 1485 0 22 #[105, 173, 229, 285, 353, 421, 489, 569, 625, 717, 785, 853, 921, 989, 1045, 1113, 1169, 1225, 1293, 1306, 1362, 1430, 1471], 105) := by decide +kernel
theorem dL_law_144 : decode cL_law 144 = .ok (.aload_n 1, 1) := by decide +kernel
theorem dL_law_145 : decode cL_law 145 = .ok (.aload_n 0, 1) := by decide +kernel
theorem dL_law_146 : decode cL_law 146 = .ok (.iload 4, 2) := by decide +kernel
theorem dL_law_148 : decode cL_law 148 = .ok (.iconst 1, 1) := by decide +kernel
theorem dL_law_149 : decode cL_law 149 = .ok (.iadd, 1) := by decide +kernel
theorem dL_law_150 : decode cL_law 150 = .ok (.iaload, 1) := by decide +kernel
theorem dL_law_151 : decode cL_law 151 = .ok (.aload_n 0, 1) := by decide +kernel
theorem dL_law_152 : decode cL_law 152 = .ok (.iload 4, 2) := by decide +kernel
theorem dL_law_154 : decode cL_law 154 = .ok (.iconst 2, 1) := by decide +kernel
theorem dL_law_155 : decode cL_law 155 = .ok (.iadd, 1) := by decide +kernel
theorem dL_law_156 : decode cL_law 156 = .ok (.iaload, 1) := by decide +kernel
theorem dL_law_157 : decode cL_law 157 = .ok (.aload_n 3, 1) := by decide +kernel
theorem dL_law_158 : decode cL_law 158 = .ok (.invokestatic 83, 3) := by decide +kernel
theorem dL_law_161 : decode cL_law 161 = .ok (.istore 5, 2) := by decide +kernel
theorem dL_law_163 : decode cL_law 163 = .ok (.aload_n 2, 1) := by decide +kernel
theorem dL_law_164 : decode cL_law 164 = .ok (.aload_n 0, 1) := by decide +kernel
theorem dL_law_165 : decode cL_law 165 = .ok (.iload 4, 2) := by decide +kernel
theorem dL_law_167 : decode cL_law 167 = .ok (.iconst 1, 1) := by decide +kernel
theorem dL_law_168 : decode cL_law 168 = .ok (.iadd, 1) := by decide +kernel
theorem dL_law_169 : decode cL_law 169 = .ok (.iaload, 1) := by decide +kernel
theorem dL_law_170 : decode cL_law 170 = .ok (.aload_n 0, 1) := by decide +kernel
theorem dL_law_171 : decode cL_law 171 = .ok (.iload 4, 2) := by decide +kernel
theorem dL_law_173 : decode cL_law 173 = .ok (.iconst 2, 1) := by decide +kernel
theorem dL_law_174 : decode cL_law 174 = .ok (.iadd, 1) := by decide +kernel
theorem dL_law_175 : decode cL_law 175 = .ok (.iaload, 1) := by decide +kernel
theorem dL_law_176 : decode cL_law 176 = .ok (.invokevirtual 88, 3) := by decide +kernel
theorem dL_law_179 : decode cL_law 179 = .ok (.istore 6, 2) := by decide +kernel
theorem dL_law_181 : decode cL_law 181 = .ok (.aload_n 2, 1) := by decide +kernel
theorem dL_law_182 : decode cL_law 182 = .ok (.invokevirtual 89, 3) := by decide +kernel
theorem dL_law_185 : decode cL_law 185 = .ok (.iload 5, 2) := by decide +kernel
theorem dL_law_187 : decode cL_law 187 = .ok (.if_icmp .eq 5, 3) := by decide +kernel
theorem dL_law_190 : decode cL_law 190 = .ok (.iconst 0, 1) := by decide +kernel
theorem dL_law_191 : decode cL_law 191 = .ok (.ireturn, 1) := by decide +kernel
theorem dL_law_192 : decode cL_law 192 = .ok (.iload 5, 2) := by decide +kernel
theorem dL_law_194 : decode cL_law 194 = .ok (.ifCond .ne 15, 3) := by decide +kernel
theorem dL_law_197 : decode cL_law 197 = .ok (.aload_n 3, 1) := by decide +kernel
theorem dL_law_198 : decode cL_law 198 = .ok (.iconst 0, 1) := by decide +kernel
theorem dL_law_199 : decode cL_law 199 = .ok (.laload, 1) := by decide +kernel
theorem dL_law_200 : decode cL_law 200 = .ok (.iload 6, 2) := by decide +kernel
theorem dL_law_202 : decode cL_law 202 = .ok (.i2l, 1) := by decide +kernel
theorem dL_law_203 : decode cL_law 203 = .ok (.lcmp, 1) := by decide +kernel
theorem dL_law_204 : decode cL_law 204 = .ok (.ifCond .eq 5, 3) := by decide +kernel
theorem dL_law_207 : decode cL_law 207 = .ok (.iconst 0, 1) := by decide +kernel
theorem dL_law_208 : decode cL_law 208 = .ok (.ireturn, 1) := by decide +kernel
theorem dL_law_209 : decode cL_law 209 = .ok (.goto 1315, 3) := by decide +kernel
theorem dL_law_212 : decode cL_law 212 = .ok (.aload_n 1, 1) := by decide +kernel
theorem dL_law_213 : decode cL_law 213 = .ok (.aload_n 0, 1) := by decide +kernel
theorem dL_law_214 : decode cL_law 214 = .ok (.iload 4, 2) := by decide +kernel
theorem dL_law_216 : decode cL_law 216 = .ok (.iconst 1, 1) := by decide +kernel
theorem dL_law_217 : decode cL_law 217 = .ok (.iadd, 1) := by decide +kernel
theorem dL_law_218 : decode cL_law 218 = .ok (.iaload, 1) := by decide +kernel
theorem dL_law_219 : decode cL_law 219 = .ok (.aload_n 3, 1) := by decide +kernel
theorem dL_law_220 : decode cL_law 220 = .ok (.invokestatic 93, 3) := by decide +kernel
theorem dL_law_223 : decode cL_law 223 = .ok (.istore 5, 2) := by decide +kernel
theorem dL_law_225 : decode cL_law 225 = .ok (.aload_n 2, 1) := by decide +kernel
theorem dL_law_226 : decode cL_law 226 = .ok (.aload_n 0, 1) := by decide +kernel
theorem dL_law_227 : decode cL_law 227 = .ok (.iload 4, 2) := by decide +kernel
theorem dL_law_229 : decode cL_law 229 = .ok (.iconst 1, 1) := by decide +kernel
theorem dL_law_230 : decode cL_law 230 = .ok (.iadd, 1) := by decide +kernel
theorem dL_law_231 : decode cL_law 231 = .ok (.iaload, 1) := by decide +kernel
theorem dL_law_232 : decode cL_law 232 = .ok (.invokevirtual 96, 3) := by decide +kernel
theorem dL_law_235 : decode cL_law 235 = .ok (.istore 6, 2) := by decide +kernel
theorem dL_law_237 : decode cL_law 237 = .ok (.aload_n 2, 1) := by decide +kernel
theorem dL_law_238 : decode cL_law 238 = .ok (.invokevirtual 89, 3) := by decide +kernel
theorem dL_law_241 : decode cL_law 241 = .ok (.iload 5, 2) := by decide +kernel
theorem dL_law_243 : decode cL_law 243 = .ok (.if_icmp .eq 5, 3) := by decide +kernel
theorem dL_law_246 : decode cL_law 246 = .ok (.iconst 0, 1) := by decide +kernel
theorem dL_law_247 : decode cL_law 247 = .ok (.ireturn, 1) := by decide +kernel
theorem dL_law_248 : decode cL_law 248 = .ok (.iload 5, 2) := by decide +kernel
theorem dL_law_250 : decode cL_law 250 = .ok (.ifCond .ne 15, 3) := by decide +kernel
theorem dL_law_253 : decode cL_law 253 = .ok (.aload_n 3, 1) := by decide +kernel
theorem dL_law_254 : decode cL_law 254 = .ok (.iconst 0, 1) := by decide +kernel
theorem dL_law_255 : decode cL_law 255 = .ok (.laload, 1) := by decide +kernel
theorem dL_law_256 : decode cL_law 256 = .ok (.iload 6, 2) := by decide +kernel
theorem dL_law_258 : decode cL_law 258 = .ok (.i2l, 1) := by decide +kernel
theorem dL_law_259 : decode cL_law 259 = .ok (.lcmp, 1) := by decide +kernel
theorem dL_law_260 : decode cL_law 260 = .ok (.ifCond .eq 5, 3) := by decide +kernel
theorem dL_law_263 : decode cL_law 263 = .ok (.iconst 0, 1) := by decide +kernel
theorem dL_law_264 : decode cL_law 264 = .ok (.ireturn, 1) := by decide +kernel
theorem dL_law_265 : decode cL_law 265 = .ok (.goto 1259, 3) := by decide +kernel
theorem dL_law_268 : decode cL_law 268 = .ok (.aload_n 1, 1) := by decide +kernel
theorem dL_law_269 : decode cL_law 269 = .ok (.aload_n 0, 1) := by decide +kernel
theorem dL_law_270 : decode cL_law 270 = .ok (.iload 4, 2) := by decide +kernel
theorem dL_law_272 : decode cL_law 272 = .ok (.iconst 1, 1) := by decide +kernel
theorem dL_law_273 : decode cL_law 273 = .ok (.iadd, 1) := by decide +kernel
theorem dL_law_274 : decode cL_law 274 = .ok (.iaload, 1) := by decide +kernel
theorem dL_law_275 : decode cL_law 275 = .ok (.aload_n 3, 1) := by decide +kernel
theorem dL_law_276 : decode cL_law 276 = .ok (.invokestatic 97, 3) := by decide +kernel
theorem dL_law_279 : decode cL_law 279 = .ok (.istore 5, 2) := by decide +kernel
theorem dL_law_281 : decode cL_law 281 = .ok (.aload_n 2, 1) := by decide +kernel
theorem dL_law_282 : decode cL_law 282 = .ok (.aload_n 0, 1) := by decide +kernel
theorem dL_law_283 : decode cL_law 283 = .ok (.iload 4, 2) := by decide +kernel
theorem dL_law_285 : decode cL_law 285 = .ok (.iconst 1, 1) := by decide +kernel
theorem dL_law_286 : decode cL_law 286 = .ok (.iadd, 1) := by decide +kernel
theorem dL_law_287 : decode cL_law 287 = .ok (.iaload, 1) := by decide +kernel
theorem dL_law_288 : decode cL_law 288 = .ok (.invokevirtual 99, 3) := by decide +kernel
theorem dL_law_291 : decode cL_law 291 = .ok (.istore 6, 2) := by decide +kernel
theorem dL_law_293 : decode cL_law 293 = .ok (.aload_n 2, 1) := by decide +kernel
theorem dL_law_294 : decode cL_law 294 = .ok (.invokevirtual 89, 3) := by decide +kernel
theorem dL_law_297 : decode cL_law 297 = .ok (.iload 5, 2) := by decide +kernel
theorem dL_law_299 : decode cL_law 299 = .ok (.if_icmp .eq 5, 3) := by decide +kernel
theorem dL_law_302 : decode cL_law 302 = .ok (.iconst 0, 1) := by decide +kernel
theorem dL_law_303 : decode cL_law 303 = .ok (.ireturn, 1) := by decide +kernel
theorem dL_law_304 : decode cL_law 304 = .ok (.iload 5, 2) := by decide +kernel
theorem dL_law_306 : decode cL_law 306 = .ok (.ifCond .ne 15, 3) := by decide +kernel
theorem dL_law_309 : decode cL_law 309 = .ok (.aload_n 3, 1) := by decide +kernel
theorem dL_law_310 : decode cL_law 310 = .ok (.iconst 0, 1) := by decide +kernel
theorem dL_law_311 : decode cL_law 311 = .ok (.laload, 1) := by decide +kernel
theorem dL_law_312 : decode cL_law 312 = .ok (.iload 6, 2) := by decide +kernel
theorem dL_law_314 : decode cL_law 314 = .ok (.i2l, 1) := by decide +kernel
theorem dL_law_315 : decode cL_law 315 = .ok (.lcmp, 1) := by decide +kernel
theorem dL_law_316 : decode cL_law 316 = .ok (.ifCond .eq 5, 3) := by decide +kernel
theorem dL_law_319 : decode cL_law 319 = .ok (.iconst 0, 1) := by decide +kernel
theorem dL_law_320 : decode cL_law 320 = .ok (.ireturn, 1) := by decide +kernel
theorem dL_law_321 : decode cL_law 321 = .ok (.goto 1203, 3) := by decide +kernel
theorem dL_law_324 : decode cL_law 324 = .ok (.aload_n 1, 1) := by decide +kernel
theorem dL_law_325 : decode cL_law 325 = .ok (.aload_n 0, 1) := by decide +kernel
theorem dL_law_326 : decode cL_law 326 = .ok (.iload 4, 2) := by decide +kernel
theorem dL_law_328 : decode cL_law 328 = .ok (.iconst 1, 1) := by decide +kernel
theorem dL_law_329 : decode cL_law 329 = .ok (.iadd, 1) := by decide +kernel
theorem dL_law_330 : decode cL_law 330 = .ok (.iaload, 1) := by decide +kernel
theorem dL_law_331 : decode cL_law 331 = .ok (.aload_n 0, 1) := by decide +kernel
theorem dL_law_332 : decode cL_law 332 = .ok (.iload 4, 2) := by decide +kernel
theorem dL_law_334 : decode cL_law 334 = .ok (.iconst 2, 1) := by decide +kernel
theorem dL_law_335 : decode cL_law 335 = .ok (.iadd, 1) := by decide +kernel
theorem dL_law_336 : decode cL_law 336 = .ok (.iaload, 1) := by decide +kernel
theorem dL_law_337 : decode cL_law 337 = .ok (.aload_n 3, 1) := by decide +kernel
theorem dL_law_338 : decode cL_law 338 = .ok (.invokestatic 100, 3) := by decide +kernel
theorem dL_law_341 : decode cL_law 341 = .ok (.istore 5, 2) := by decide +kernel
theorem dL_law_343 : decode cL_law 343 = .ok (.aload_n 2, 1) := by decide +kernel
theorem dL_law_344 : decode cL_law 344 = .ok (.aload_n 0, 1) := by decide +kernel
theorem dL_law_345 : decode cL_law 345 = .ok (.iload 4, 2) := by decide +kernel
theorem dL_law_347 : decode cL_law 347 = .ok (.iconst 1, 1) := by decide +kernel
theorem dL_law_348 : decode cL_law 348 = .ok (.iadd, 1) := by decide +kernel
theorem dL_law_349 : decode cL_law 349 = .ok (.iaload, 1) := by decide +kernel
theorem dL_law_350 : decode cL_law 350 = .ok (.aload_n 0, 1) := by decide +kernel
theorem dL_law_351 : decode cL_law 351 = .ok (.iload 4, 2) := by decide +kernel
theorem dL_law_353 : decode cL_law 353 = .ok (.iconst 2, 1) := by decide +kernel
theorem dL_law_354 : decode cL_law 354 = .ok (.iadd, 1) := by decide +kernel
theorem dL_law_355 : decode cL_law 355 = .ok (.iaload, 1) := by decide +kernel
theorem dL_law_356 : decode cL_law 356 = .ok (.invokevirtual 102, 3) := by decide +kernel
theorem dL_law_359 : decode cL_law 359 = .ok (.istore 6, 2) := by decide +kernel
theorem dL_law_361 : decode cL_law 361 = .ok (.aload_n 2, 1) := by decide +kernel
theorem dL_law_362 : decode cL_law 362 = .ok (.invokevirtual 89, 3) := by decide +kernel
theorem dL_law_365 : decode cL_law 365 = .ok (.iload 5, 2) := by decide +kernel
theorem dL_law_367 : decode cL_law 367 = .ok (.if_icmp .eq 5, 3) := by decide +kernel
theorem dL_law_370 : decode cL_law 370 = .ok (.iconst 0, 1) := by decide +kernel
theorem dL_law_371 : decode cL_law 371 = .ok (.ireturn, 1) := by decide +kernel
theorem dL_law_372 : decode cL_law 372 = .ok (.iload 5, 2) := by decide +kernel
theorem dL_law_374 : decode cL_law 374 = .ok (.ifCond .ne 15, 3) := by decide +kernel
theorem dL_law_377 : decode cL_law 377 = .ok (.aload_n 3, 1) := by decide +kernel
theorem dL_law_378 : decode cL_law 378 = .ok (.iconst 0, 1) := by decide +kernel
theorem dL_law_379 : decode cL_law 379 = .ok (.laload, 1) := by decide +kernel
theorem dL_law_380 : decode cL_law 380 = .ok (.iload 6, 2) := by decide +kernel
theorem dL_law_382 : decode cL_law 382 = .ok (.i2l, 1) := by decide +kernel
theorem dL_law_383 : decode cL_law 383 = .ok (.lcmp, 1) := by decide +kernel
theorem dL_law_384 : decode cL_law 384 = .ok (.ifCond .eq 5, 3) := by decide +kernel
theorem dL_law_387 : decode cL_law 387 = .ok (.iconst 0, 1) := by decide +kernel
theorem dL_law_388 : decode cL_law 388 = .ok (.ireturn, 1) := by decide +kernel
theorem dL_law_389 : decode cL_law 389 = .ok (.goto 1135, 3) := by decide +kernel
theorem dL_law_392 : decode cL_law 392 = .ok (.aload_n 1, 1) := by decide +kernel
theorem dL_law_393 : decode cL_law 393 = .ok (.aload_n 0, 1) := by decide +kernel
theorem dL_law_394 : decode cL_law 394 = .ok (.iload 4, 2) := by decide +kernel
theorem dL_law_396 : decode cL_law 396 = .ok (.iconst 1, 1) := by decide +kernel
theorem dL_law_397 : decode cL_law 397 = .ok (.iadd, 1) := by decide +kernel
theorem dL_law_398 : decode cL_law 398 = .ok (.iaload, 1) := by decide +kernel
theorem dL_law_399 : decode cL_law 399 = .ok (.aload_n 0, 1) := by decide +kernel
theorem dL_law_400 : decode cL_law 400 = .ok (.iload 4, 2) := by decide +kernel
theorem dL_law_402 : decode cL_law 402 = .ok (.iconst 2, 1) := by decide +kernel
theorem dL_law_403 : decode cL_law 403 = .ok (.iadd, 1) := by decide +kernel
theorem dL_law_404 : decode cL_law 404 = .ok (.iaload, 1) := by decide +kernel
theorem dL_law_405 : decode cL_law 405 = .ok (.aload_n 3, 1) := by decide +kernel
theorem dL_law_406 : decode cL_law 406 = .ok (.invokestatic 103, 3) := by decide +kernel
theorem dL_law_409 : decode cL_law 409 = .ok (.istore 5, 2) := by decide +kernel
theorem dL_law_411 : decode cL_law 411 = .ok (.aload_n 2, 1) := by decide +kernel
theorem dL_law_412 : decode cL_law 412 = .ok (.aload_n 0, 1) := by decide +kernel
theorem dL_law_413 : decode cL_law 413 = .ok (.iload 4, 2) := by decide +kernel
theorem dL_law_415 : decode cL_law 415 = .ok (.iconst 1, 1) := by decide +kernel
theorem dL_law_416 : decode cL_law 416 = .ok (.iadd, 1) := by decide +kernel
theorem dL_law_417 : decode cL_law 417 = .ok (.iaload, 1) := by decide +kernel
theorem dL_law_418 : decode cL_law 418 = .ok (.aload_n 0, 1) := by decide +kernel
theorem dL_law_419 : decode cL_law 419 = .ok (.iload 4, 2) := by decide +kernel
theorem dL_law_421 : decode cL_law 421 = .ok (.iconst 2, 1) := by decide +kernel
theorem dL_law_422 : decode cL_law 422 = .ok (.iadd, 1) := by decide +kernel
theorem dL_law_423 : decode cL_law 423 = .ok (.iaload, 1) := by decide +kernel
theorem dL_law_424 : decode cL_law 424 = .ok (.invokevirtual 105, 3) := by decide +kernel
theorem dL_law_427 : decode cL_law 427 = .ok (.istore 6, 2) := by decide +kernel
theorem dL_law_429 : decode cL_law 429 = .ok (.aload_n 2, 1) := by decide +kernel
theorem dL_law_430 : decode cL_law 430 = .ok (.invokevirtual 89, 3) := by decide +kernel
theorem dL_law_433 : decode cL_law 433 = .ok (.iload 5, 2) := by decide +kernel
theorem dL_law_435 : decode cL_law 435 = .ok (.if_icmp .eq 5, 3) := by decide +kernel
theorem dL_law_438 : decode cL_law 438 = .ok (.iconst 0, 1) := by decide +kernel
theorem dL_law_439 : decode cL_law 439 = .ok (.ireturn, 1) := by decide +kernel
theorem dL_law_440 : decode cL_law 440 = .ok (.iload 5, 2) := by decide +kernel
theorem dL_law_442 : decode cL_law 442 = .ok (.ifCond .ne 15, 3) := by decide +kernel
theorem dL_law_445 : decode cL_law 445 = .ok (.aload_n 3, 1) := by decide +kernel
theorem dL_law_446 : decode cL_law 446 = .ok (.iconst 0, 1) := by decide +kernel
theorem dL_law_447 : decode cL_law 447 = .ok (.laload, 1) := by decide +kernel
theorem dL_law_448 : decode cL_law 448 = .ok (.iload 6, 2) := by decide +kernel
theorem dL_law_450 : decode cL_law 450 = .ok (.i2l, 1) := by decide +kernel
theorem dL_law_451 : decode cL_law 451 = .ok (.lcmp, 1) := by decide +kernel
theorem dL_law_452 : decode cL_law 452 = .ok (.ifCond .eq 5, 3) := by decide +kernel
theorem dL_law_455 : decode cL_law 455 = .ok (.iconst 0, 1) := by decide +kernel
theorem dL_law_456 : decode cL_law 456 = .ok (.ireturn, 1) := by decide +kernel
theorem dL_law_457 : decode cL_law 457 = .ok (.goto 1067, 3) := by decide +kernel
theorem dL_law_460 : decode cL_law 460 = .ok (.aload_n 1, 1) := by decide +kernel
theorem dL_law_461 : decode cL_law 461 = .ok (.aload_n 0, 1) := by decide +kernel
theorem dL_law_462 : decode cL_law 462 = .ok (.iload 4, 2) := by decide +kernel
theorem dL_law_464 : decode cL_law 464 = .ok (.iconst 1, 1) := by decide +kernel
theorem dL_law_465 : decode cL_law 465 = .ok (.iadd, 1) := by decide +kernel
theorem dL_law_466 : decode cL_law 466 = .ok (.iaload, 1) := by decide +kernel
theorem dL_law_467 : decode cL_law 467 = .ok (.aload_n 0, 1) := by decide +kernel
theorem dL_law_468 : decode cL_law 468 = .ok (.iload 4, 2) := by decide +kernel
theorem dL_law_470 : decode cL_law 470 = .ok (.iconst 2, 1) := by decide +kernel
theorem dL_law_471 : decode cL_law 471 = .ok (.iadd, 1) := by decide +kernel
theorem dL_law_472 : decode cL_law 472 = .ok (.iaload, 1) := by decide +kernel
theorem dL_law_473 : decode cL_law 473 = .ok (.aload_n 3, 1) := by decide +kernel
theorem dL_law_474 : decode cL_law 474 = .ok (.invokestatic 106, 3) := by decide +kernel
theorem dL_law_477 : decode cL_law 477 = .ok (.istore 5, 2) := by decide +kernel
theorem dL_law_479 : decode cL_law 479 = .ok (.aload_n 2, 1) := by decide +kernel
theorem dL_law_480 : decode cL_law 480 = .ok (.aload_n 0, 1) := by decide +kernel
theorem dL_law_481 : decode cL_law 481 = .ok (.iload 4, 2) := by decide +kernel
theorem dL_law_483 : decode cL_law 483 = .ok (.iconst 1, 1) := by decide +kernel
theorem dL_law_484 : decode cL_law 484 = .ok (.iadd, 1) := by decide +kernel
theorem dL_law_485 : decode cL_law 485 = .ok (.iaload, 1) := by decide +kernel
theorem dL_law_486 : decode cL_law 486 = .ok (.aload_n 0, 1) := by decide +kernel
theorem dL_law_487 : decode cL_law 487 = .ok (.iload 4, 2) := by decide +kernel
theorem dL_law_489 : decode cL_law 489 = .ok (.iconst 2, 1) := by decide +kernel
theorem dL_law_490 : decode cL_law 490 = .ok (.iadd, 1) := by decide +kernel
theorem dL_law_491 : decode cL_law 491 = .ok (.iaload, 1) := by decide +kernel
theorem dL_law_492 : decode cL_law 492 = .ok (.invokevirtual 108, 3) := by decide +kernel
theorem dL_law_495 : decode cL_law 495 = .ok (.istore 6, 2) := by decide +kernel
theorem dL_law_497 : decode cL_law 497 = .ok (.aload_n 2, 1) := by decide +kernel
theorem dL_law_498 : decode cL_law 498 = .ok (.invokevirtual 89, 3) := by decide +kernel
theorem dL_law_501 : decode cL_law 501 = .ok (.iload 5, 2) := by decide +kernel
theorem dL_law_503 : decode cL_law 503 = .ok (.if_icmp .eq 5, 3) := by decide +kernel
theorem dL_law_506 : decode cL_law 506 = .ok (.iconst 0, 1) := by decide +kernel
theorem dL_law_507 : decode cL_law 507 = .ok (.ireturn, 1) := by decide +kernel
theorem dL_law_508 : decode cL_law 508 = .ok (.iload 5, 2) := by decide +kernel
theorem dL_law_510 : decode cL_law 510 = .ok (.ifCond .ne 15, 3) := by decide +kernel
theorem dL_law_513 : decode cL_law 513 = .ok (.aload_n 3, 1) := by decide +kernel
theorem dL_law_514 : decode cL_law 514 = .ok (.iconst 0, 1) := by decide +kernel
theorem dL_law_515 : decode cL_law 515 = .ok (.laload, 1) := by decide +kernel
theorem dL_law_516 : decode cL_law 516 = .ok (.iload 6, 2) := by decide +kernel
theorem dL_law_518 : decode cL_law 518 = .ok (.i2l, 1) := by decide +kernel
theorem dL_law_519 : decode cL_law 519 = .ok (.lcmp, 1) := by decide +kernel
theorem dL_law_520 : decode cL_law 520 = .ok (.ifCond .eq 5, 3) := by decide +kernel
theorem dL_law_523 : decode cL_law 523 = .ok (.iconst 0, 1) := by decide +kernel
theorem dL_law_524 : decode cL_law 524 = .ok (.ireturn, 1) := by decide +kernel
theorem dL_law_525 : decode cL_law 525 = .ok (.goto 999, 3) := by decide +kernel
theorem dL_law_528 : decode cL_law 528 = .ok (.aload_n 1, 1) := by decide +kernel
theorem dL_law_529 : decode cL_law 529 = .ok (.aload_n 0, 1) := by decide +kernel
theorem dL_law_530 : decode cL_law 530 = .ok (.iload 4, 2) := by decide +kernel
theorem dL_law_532 : decode cL_law 532 = .ok (.iconst 1, 1) := by decide +kernel
theorem dL_law_533 : decode cL_law 533 = .ok (.iadd, 1) := by decide +kernel
theorem dL_law_534 : decode cL_law 534 = .ok (.iaload, 1) := by decide +kernel
theorem dL_law_535 : decode cL_law 535 = .ok (.aload_n 0, 1) := by decide +kernel
theorem dL_law_536 : decode cL_law 536 = .ok (.iload 4, 2) := by decide +kernel
theorem dL_law_538 : decode cL_law 538 = .ok (.iconst 2, 1) := by decide +kernel
theorem dL_law_539 : decode cL_law 539 = .ok (.iadd, 1) := by decide +kernel
theorem dL_law_540 : decode cL_law 540 = .ok (.iaload, 1) := by decide +kernel
theorem dL_law_541 : decode cL_law 541 = .ok (.aload_n 0, 1) := by decide +kernel
theorem dL_law_542 : decode cL_law 542 = .ok (.iload 4, 2) := by decide +kernel
theorem dL_law_544 : decode cL_law 544 = .ok (.iconst 3, 1) := by decide +kernel
theorem dL_law_545 : decode cL_law 545 = .ok (.iadd, 1) := by decide +kernel
theorem dL_law_546 : decode cL_law 546 = .ok (.iaload, 1) := by decide +kernel
theorem dL_law_547 : decode cL_law 547 = .ok (.aload_n 3, 1) := by decide +kernel
theorem dL_law_548 : decode cL_law 548 = .ok (.invokestatic 109, 3) := by decide +kernel
theorem dL_law_551 : decode cL_law 551 = .ok (.istore 5, 2) := by decide +kernel
theorem dL_law_553 : decode cL_law 553 = .ok (.aload_n 2, 1) := by decide +kernel
theorem dL_law_554 : decode cL_law 554 = .ok (.aload_n 0, 1) := by decide +kernel
theorem dL_law_555 : decode cL_law 555 = .ok (.iload 4, 2) := by decide +kernel
theorem dL_law_557 : decode cL_law 557 = .ok (.iconst 1, 1) := by decide +kernel
theorem dL_law_558 : decode cL_law 558 = .ok (.iadd, 1) := by decide +kernel
theorem dL_law_559 : decode cL_law 559 = .ok (.iaload, 1) := by decide +kernel
theorem dL_law_560 : decode cL_law 560 = .ok (.aload_n 0, 1) := by decide +kernel
theorem dL_law_561 : decode cL_law 561 = .ok (.iload 4, 2) := by decide +kernel
theorem dL_law_563 : decode cL_law 563 = .ok (.iconst 2, 1) := by decide +kernel
theorem dL_law_564 : decode cL_law 564 = .ok (.iadd, 1) := by decide +kernel
theorem dL_law_565 : decode cL_law 565 = .ok (.iaload, 1) := by decide +kernel
theorem dL_law_566 : decode cL_law 566 = .ok (.aload_n 0, 1) := by decide +kernel
theorem dL_law_567 : decode cL_law 567 = .ok (.iload 4, 2) := by decide +kernel
theorem dL_law_569 : decode cL_law 569 = .ok (.iconst 3, 1) := by decide +kernel
theorem dL_law_570 : decode cL_law 570 = .ok (.iadd, 1) := by decide +kernel
theorem dL_law_571 : decode cL_law 571 = .ok (.iaload, 1) := by decide +kernel
theorem dL_law_572 : decode cL_law 572 = .ok (.invokevirtual 112, 3) := by decide +kernel
theorem dL_law_575 : decode cL_law 575 = .ok (.istore 6, 2) := by decide +kernel
theorem dL_law_577 : decode cL_law 577 = .ok (.aload_n 2, 1) := by decide +kernel
theorem dL_law_578 : decode cL_law 578 = .ok (.invokevirtual 89, 3) := by decide +kernel
theorem dL_law_581 : decode cL_law 581 = .ok (.iload 5, 2) := by decide +kernel
theorem dL_law_583 : decode cL_law 583 = .ok (.if_icmp .eq 5, 3) := by decide +kernel
theorem dL_law_586 : decode cL_law 586 = .ok (.iconst 0, 1) := by decide +kernel
theorem dL_law_587 : decode cL_law 587 = .ok (.ireturn, 1) := by decide +kernel
theorem dL_law_588 : decode cL_law 588 = .ok (.iload 5, 2) := by decide +kernel
theorem dL_law_590 : decode cL_law 590 = .ok (.ifCond .ne 15, 3) := by decide +kernel
theorem dL_law_593 : decode cL_law 593 = .ok (.aload_n 3, 1) := by decide +kernel
theorem dL_law_594 : decode cL_law 594 = .ok (.iconst 0, 1) := by decide +kernel
theorem dL_law_595 : decode cL_law 595 = .ok (.laload, 1) := by decide +kernel
theorem dL_law_596 : decode cL_law 596 = .ok (.iload 6, 2) := by decide +kernel
theorem dL_law_598 : decode cL_law 598 = .ok (.i2l, 1) := by decide +kernel
theorem dL_law_599 : decode cL_law 599 = .ok (.lcmp, 1) := by decide +kernel
theorem dL_law_600 : decode cL_law 600 = .ok (.ifCond .eq 5, 3) := by decide +kernel
theorem dL_law_603 : decode cL_law 603 = .ok (.iconst 0, 1) := by decide +kernel
theorem dL_law_604 : decode cL_law 604 = .ok (.ireturn, 1) := by decide +kernel
theorem dL_law_605 : decode cL_law 605 = .ok (.goto 919, 3) := by decide +kernel
theorem dL_law_608 : decode cL_law 608 = .ok (.aload_n 1, 1) := by decide +kernel
theorem dL_law_609 : decode cL_law 609 = .ok (.aload_n 0, 1) := by decide +kernel
theorem dL_law_610 : decode cL_law 610 = .ok (.iload 4, 2) := by decide +kernel
theorem dL_law_612 : decode cL_law 612 = .ok (.iconst 1, 1) := by decide +kernel
theorem dL_law_613 : decode cL_law 613 = .ok (.iadd, 1) := by decide +kernel
theorem dL_law_614 : decode cL_law 614 = .ok (.iaload, 1) := by decide +kernel
theorem dL_law_615 : decode cL_law 615 = .ok (.aload_n 3, 1) := by decide +kernel
theorem dL_law_616 : decode cL_law 616 = .ok (.invokestatic 113, 3) := by decide +kernel
theorem dL_law_619 : decode cL_law 619 = .ok (.istore 5, 2) := by decide +kernel
theorem dL_law_621 : decode cL_law 621 = .ok (.aload_n 2, 1) := by decide +kernel
theorem dL_law_622 : decode cL_law 622 = .ok (.aload_n 0, 1) := by decide +kernel
theorem dL_law_623 : decode cL_law 623 = .ok (.iload 4, 2) := by decide +kernel
theorem dL_law_625 : decode cL_law 625 = .ok (.iconst 1, 1) := by decide +kernel
theorem dL_law_626 : decode cL_law 626 = .ok (.iadd, 1) := by decide +kernel
theorem dL_law_627 : decode cL_law 627 = .ok (.iaload, 1) := by decide +kernel
theorem dL_law_628 : decode cL_law 628 = .ok (.invokevirtual 115, 3) := by decide +kernel
theorem dL_law_631 : decode cL_law 631 = .ok (.istore 6, 2) := by decide +kernel
theorem dL_law_633 : decode cL_law 633 = .ok (.aload_n 2, 1) := by decide +kernel
theorem dL_law_634 : decode cL_law 634 = .ok (.invokevirtual 89, 3) := by decide +kernel
theorem dL_law_637 : decode cL_law 637 = .ok (.iload 5, 2) := by decide +kernel
theorem dL_law_639 : decode cL_law 639 = .ok (.if_icmp .eq 5, 3) := by decide +kernel
theorem dL_law_642 : decode cL_law 642 = .ok (.iconst 0, 1) := by decide +kernel
theorem dL_law_643 : decode cL_law 643 = .ok (.ireturn, 1) := by decide +kernel
theorem dL_law_644 : decode cL_law 644 = .ok (.iload 5, 2) := by decide +kernel
theorem dL_law_646 : decode cL_law 646 = .ok (.ifCond .ne 15, 3) := by decide +kernel
theorem dL_law_649 : decode cL_law 649 = .ok (.aload_n 3, 1) := by decide +kernel
theorem dL_law_650 : decode cL_law 650 = .ok (.iconst 0, 1) := by decide +kernel
theorem dL_law_651 : decode cL_law 651 = .ok (.laload, 1) := by decide +kernel
theorem dL_law_652 : decode cL_law 652 = .ok (.iload 6, 2) := by decide +kernel
theorem dL_law_654 : decode cL_law 654 = .ok (.i2l, 1) := by decide +kernel
theorem dL_law_655 : decode cL_law 655 = .ok (.lcmp, 1) := by decide +kernel
theorem dL_law_656 : decode cL_law 656 = .ok (.ifCond .eq 5, 3) := by decide +kernel
theorem dL_law_659 : decode cL_law 659 = .ok (.iconst 0, 1) := by decide +kernel
theorem dL_law_660 : decode cL_law 660 = .ok (.ireturn, 1) := by decide +kernel
theorem dL_law_661 : decode cL_law 661 = .ok (.goto 863, 3) := by decide +kernel
theorem dL_law_664 : decode cL_law 664 = .ok (.aload_n 1, 1) := by decide +kernel
theorem dL_law_665 : decode cL_law 665 = .ok (.aload_n 0, 1) := by decide +kernel
theorem dL_law_666 : decode cL_law 666 = .ok (.iload 4, 2) := by decide +kernel
theorem dL_law_668 : decode cL_law 668 = .ok (.iconst 1, 1) := by decide +kernel
theorem dL_law_669 : decode cL_law 669 = .ok (.iadd, 1) := by decide +kernel
theorem dL_law_670 : decode cL_law 670 = .ok (.iaload, 1) := by decide +kernel
theorem dL_law_671 : decode cL_law 671 = .ok (.aload_n 0, 1) := by decide +kernel
theorem dL_law_672 : decode cL_law 672 = .ok (.iload 4, 2) := by decide +kernel
theorem dL_law_674 : decode cL_law 674 = .ok (.iconst 2, 1) := by decide +kernel
theorem dL_law_675 : decode cL_law 675 = .ok (.iadd, 1) := by decide +kernel
theorem dL_law_676 : decode cL_law 676 = .ok (.iaload, 1) := by decide +kernel
theorem dL_law_677 : decode cL_law 677 = .ok (.aload_n 0, 1) := by decide +kernel
theorem dL_law_678 : decode cL_law 678 = .ok (.iload 4, 2) := by decide +kernel
theorem dL_law_680 : decode cL_law 680 = .ok (.iconst 3, 1) := by decide +kernel
theorem dL_law_681 : decode cL_law 681 = .ok (.iadd, 1) := by decide +kernel
theorem dL_law_682 : decode cL_law 682 = .ok (.iaload, 1) := by decide +kernel
theorem dL_law_683 : decode cL_law 683 = .ok (.aload_n 0, 1) := by decide +kernel
theorem dL_law_684 : decode cL_law 684 = .ok (.iload 4, 2) := by decide +kernel
theorem dL_law_686 : decode cL_law 686 = .ok (.iconst 4, 1) := by decide +kernel
theorem dL_law_687 : decode cL_law 687 = .ok (.iadd, 1) := by decide +kernel
theorem dL_law_688 : decode cL_law 688 = .ok (.iaload, 1) := by decide +kernel
theorem dL_law_689 : decode cL_law 689 = .ok (.aload_n 3, 1) := by decide +kernel
theorem dL_law_690 : decode cL_law 690 = .ok (.invokestatic 116, 3) := by decide +kernel
theorem dL_law_693 : decode cL_law 693 = .ok (.istore 5, 2) := by decide +kernel
theorem dL_law_695 : decode cL_law 695 = .ok (.aload_n 2, 1) := by decide +kernel
theorem dL_law_696 : decode cL_law 696 = .ok (.aload_n 0, 1) := by decide +kernel
theorem dL_law_697 : decode cL_law 697 = .ok (.iload 4, 2) := by decide +kernel
theorem dL_law_699 : decode cL_law 699 = .ok (.iconst 1, 1) := by decide +kernel
theorem dL_law_700 : decode cL_law 700 = .ok (.iadd, 1) := by decide +kernel
theorem dL_law_701 : decode cL_law 701 = .ok (.iaload, 1) := by decide +kernel
theorem dL_law_702 : decode cL_law 702 = .ok (.aload_n 0, 1) := by decide +kernel
theorem dL_law_703 : decode cL_law 703 = .ok (.iload 4, 2) := by decide +kernel
theorem dL_law_705 : decode cL_law 705 = .ok (.iconst 2, 1) := by decide +kernel
theorem dL_law_706 : decode cL_law 706 = .ok (.iadd, 1) := by decide +kernel
theorem dL_law_707 : decode cL_law 707 = .ok (.iaload, 1) := by decide +kernel
theorem dL_law_708 : decode cL_law 708 = .ok (.aload_n 0, 1) := by decide +kernel
theorem dL_law_709 : decode cL_law 709 = .ok (.iload 4, 2) := by decide +kernel
theorem dL_law_711 : decode cL_law 711 = .ok (.iconst 3, 1) := by decide +kernel
theorem dL_law_712 : decode cL_law 712 = .ok (.iadd, 1) := by decide +kernel
theorem dL_law_713 : decode cL_law 713 = .ok (.iaload, 1) := by decide +kernel
theorem dL_law_714 : decode cL_law 714 = .ok (.aload_n 0, 1) := by decide +kernel
theorem dL_law_715 : decode cL_law 715 = .ok (.iload 4, 2) := by decide +kernel
theorem dL_law_717 : decode cL_law 717 = .ok (.iconst 4, 1) := by decide +kernel
theorem dL_law_718 : decode cL_law 718 = .ok (.iadd, 1) := by decide +kernel
theorem dL_law_719 : decode cL_law 719 = .ok (.iaload, 1) := by decide +kernel
theorem dL_law_720 : decode cL_law 720 = .ok (.invokevirtual 119, 3) := by decide +kernel
theorem dL_law_723 : decode cL_law 723 = .ok (.istore 6, 2) := by decide +kernel
theorem dL_law_725 : decode cL_law 725 = .ok (.aload_n 2, 1) := by decide +kernel
theorem dL_law_726 : decode cL_law 726 = .ok (.invokevirtual 89, 3) := by decide +kernel
theorem dL_law_729 : decode cL_law 729 = .ok (.iload 5, 2) := by decide +kernel
theorem dL_law_731 : decode cL_law 731 = .ok (.if_icmp .eq 5, 3) := by decide +kernel
theorem dL_law_734 : decode cL_law 734 = .ok (.iconst 0, 1) := by decide +kernel
theorem dL_law_735 : decode cL_law 735 = .ok (.ireturn, 1) := by decide +kernel
theorem dL_law_736 : decode cL_law 736 = .ok (.iload 5, 2) := by decide +kernel
theorem dL_law_738 : decode cL_law 738 = .ok (.ifCond .ne 15, 3) := by decide +kernel
theorem dL_law_741 : decode cL_law 741 = .ok (.aload_n 3, 1) := by decide +kernel
theorem dL_law_742 : decode cL_law 742 = .ok (.iconst 0, 1) := by decide +kernel
theorem dL_law_743 : decode cL_law 743 = .ok (.laload, 1) := by decide +kernel
theorem dL_law_744 : decode cL_law 744 = .ok (.iload 6, 2) := by decide +kernel
theorem dL_law_746 : decode cL_law 746 = .ok (.i2l, 1) := by decide +kernel
theorem dL_law_747 : decode cL_law 747 = .ok (.lcmp, 1) := by decide +kernel
theorem dL_law_748 : decode cL_law 748 = .ok (.ifCond .eq 5, 3) := by decide +kernel
theorem dL_law_751 : decode cL_law 751 = .ok (.iconst 0, 1) := by decide +kernel
theorem dL_law_752 : decode cL_law 752 = .ok (.ireturn, 1) := by decide +kernel
theorem dL_law_753 : decode cL_law 753 = .ok (.goto 771, 3) := by decide +kernel
theorem dL_law_756 : decode cL_law 756 = .ok (.aload_n 1, 1) := by decide +kernel
theorem dL_law_757 : decode cL_law 757 = .ok (.aload_n 0, 1) := by decide +kernel
theorem dL_law_758 : decode cL_law 758 = .ok (.iload 4, 2) := by decide +kernel
theorem dL_law_760 : decode cL_law 760 = .ok (.iconst 1, 1) := by decide +kernel
theorem dL_law_761 : decode cL_law 761 = .ok (.iadd, 1) := by decide +kernel
theorem dL_law_762 : decode cL_law 762 = .ok (.iaload, 1) := by decide +kernel
theorem dL_law_763 : decode cL_law 763 = .ok (.aload_n 0, 1) := by decide +kernel
theorem dL_law_764 : decode cL_law 764 = .ok (.iload 4, 2) := by decide +kernel
theorem dL_law_766 : decode cL_law 766 = .ok (.iconst 2, 1) := by decide +kernel
theorem dL_law_767 : decode cL_law 767 = .ok (.iadd, 1) := by decide +kernel
theorem dL_law_768 : decode cL_law 768 = .ok (.iaload, 1) := by decide +kernel
theorem dL_law_769 : decode cL_law 769 = .ok (.aload_n 3, 1) := by decide +kernel
theorem dL_law_770 : decode cL_law 770 = .ok (.invokestatic 120, 3) := by decide +kernel
theorem dL_law_773 : decode cL_law 773 = .ok (.istore 5, 2) := by decide +kernel
theorem dL_law_775 : decode cL_law 775 = .ok (.aload_n 2, 1) := by decide +kernel
theorem dL_law_776 : decode cL_law 776 = .ok (.aload_n 0, 1) := by decide +kernel
theorem dL_law_777 : decode cL_law 777 = .ok (.iload 4, 2) := by decide +kernel
theorem dL_law_779 : decode cL_law 779 = .ok (.iconst 1, 1) := by decide +kernel
theorem dL_law_780 : decode cL_law 780 = .ok (.iadd, 1) := by decide +kernel
theorem dL_law_781 : decode cL_law 781 = .ok (.iaload, 1) := by decide +kernel
theorem dL_law_782 : decode cL_law 782 = .ok (.aload_n 0, 1) := by decide +kernel
theorem dL_law_783 : decode cL_law 783 = .ok (.iload 4, 2) := by decide +kernel
theorem dL_law_785 : decode cL_law 785 = .ok (.iconst 2, 1) := by decide +kernel
theorem dL_law_786 : decode cL_law 786 = .ok (.iadd, 1) := by decide +kernel
theorem dL_law_787 : decode cL_law 787 = .ok (.iaload, 1) := by decide +kernel
theorem dL_law_788 : decode cL_law 788 = .ok (.invokevirtual 122, 3) := by decide +kernel
theorem dL_law_791 : decode cL_law 791 = .ok (.istore 6, 2) := by decide +kernel
theorem dL_law_793 : decode cL_law 793 = .ok (.aload_n 2, 1) := by decide +kernel
theorem dL_law_794 : decode cL_law 794 = .ok (.invokevirtual 89, 3) := by decide +kernel
theorem dL_law_797 : decode cL_law 797 = .ok (.iload 5, 2) := by decide +kernel
end
section
theorem dL_law_799 : decode cL_law 799 = .ok (.if_icmp .eq 5, 3) := by decide +kernel
theorem dL_law_802 : decode cL_law 802 = .ok (.iconst 0, 1) := by decide +kernel
theorem dL_law_803 : decode cL_law 803 = .ok (.ireturn, 1) := by decide +kernel
theorem dL_law_804 : decode cL_law 804 = .ok (.iload 5, 2) := by decide +kernel
theorem dL_law_806 : decode cL_law 806 = .ok (.ifCond .ne 15, 3) := by decide +kernel
theorem dL_law_809 : decode cL_law 809 = .ok (.aload_n 3, 1) := by decide +kernel
theorem dL_law_810 : decode cL_law 810 = .ok (.iconst 0, 1) := by decide +kernel
theorem dL_law_811 : decode cL_law 811 = .ok (.laload, 1) := by decide +kernel
theorem dL_law_812 : decode cL_law 812 = .ok (.iload 6, 2) := by decide +kernel
theorem dL_law_814 : decode cL_law 814 = .ok (.i2l, 1) := by decide +kernel
theorem dL_law_815 : decode cL_law 815 = .ok (.lcmp, 1) := by decide +kernel
theorem dL_law_816 : decode cL_law 816 = .ok (.ifCond .eq 5, 3) := by decide +kernel
theorem dL_law_819 : decode cL_law 819 = .ok (.iconst 0, 1) := by decide +kernel
theorem dL_law_820 : decode cL_law 820 = .ok (.ireturn, 1) := by decide +kernel
theorem dL_law_821 : decode cL_law 821 = .ok (.goto 703, 3) := by decide +kernel
theorem dL_law_824 : decode cL_law 824 = .ok (.aload_n 1, 1) := by decide +kernel
theorem dL_law_825 : decode cL_law 825 = .ok (.aload_n 0, 1) := by decide +kernel
theorem dL_law_826 : decode cL_law 826 = .ok (.iload 4, 2) := by decide +kernel
theorem dL_law_828 : decode cL_law 828 = .ok (.iconst 1, 1) := by decide +kernel
theorem dL_law_829 : decode cL_law 829 = .ok (.iadd, 1) := by decide +kernel
theorem dL_law_830 : decode cL_law 830 = .ok (.iaload, 1) := by decide +kernel
theorem dL_law_831 : decode cL_law 831 = .ok (.aload_n 0, 1) := by decide +kernel
theorem dL_law_832 : decode cL_law 832 = .ok (.iload 4, 2) := by decide +kernel
theorem dL_law_834 : decode cL_law 834 = .ok (.iconst 2, 1) := by decide +kernel
theorem dL_law_835 : decode cL_law 835 = .ok (.iadd, 1) := by decide +kernel
theorem dL_law_836 : decode cL_law 836 = .ok (.iaload, 1) := by decide +kernel
theorem dL_law_837 : decode cL_law 837 = .ok (.aload_n 3, 1) := by decide +kernel
theorem dL_law_838 : decode cL_law 838 = .ok (.invokestatic 123, 3) := by decide +kernel
theorem dL_law_841 : decode cL_law 841 = .ok (.istore 5, 2) := by decide +kernel
theorem dL_law_843 : decode cL_law 843 = .ok (.aload_n 2, 1) := by decide +kernel
theorem dL_law_844 : decode cL_law 844 = .ok (.aload_n 0, 1) := by decide +kernel
theorem dL_law_845 : decode cL_law 845 = .ok (.iload 4, 2) := by decide +kernel
theorem dL_law_847 : decode cL_law 847 = .ok (.iconst 1, 1) := by decide +kernel
theorem dL_law_848 : decode cL_law 848 = .ok (.iadd, 1) := by decide +kernel
theorem dL_law_849 : decode cL_law 849 = .ok (.iaload, 1) := by decide +kernel
theorem dL_law_850 : decode cL_law 850 = .ok (.aload_n 0, 1) := by decide +kernel
theorem dL_law_851 : decode cL_law 851 = .ok (.iload 4, 2) := by decide +kernel
theorem dL_law_853 : decode cL_law 853 = .ok (.iconst 2, 1) := by decide +kernel
theorem dL_law_854 : decode cL_law 854 = .ok (.iadd, 1) := by decide +kernel
theorem dL_law_855 : decode cL_law 855 = .ok (.iaload, 1) := by decide +kernel
theorem dL_law_856 : decode cL_law 856 = .ok (.invokevirtual 125, 3) := by decide +kernel
theorem dL_law_859 : decode cL_law 859 = .ok (.istore 6, 2) := by decide +kernel
theorem dL_law_861 : decode cL_law 861 = .ok (.aload_n 2, 1) := by decide +kernel
theorem dL_law_862 : decode cL_law 862 = .ok (.invokevirtual 89, 3) := by decide +kernel
theorem dL_law_865 : decode cL_law 865 = .ok (.iload 5, 2) := by decide +kernel
theorem dL_law_867 : decode cL_law 867 = .ok (.if_icmp .eq 5, 3) := by decide +kernel
theorem dL_law_870 : decode cL_law 870 = .ok (.iconst 0, 1) := by decide +kernel
theorem dL_law_871 : decode cL_law 871 = .ok (.ireturn, 1) := by decide +kernel
theorem dL_law_872 : decode cL_law 872 = .ok (.iload 5, 2) := by decide +kernel
theorem dL_law_874 : decode cL_law 874 = .ok (.ifCond .ne 15, 3) := by decide +kernel
theorem dL_law_877 : decode cL_law 877 = .ok (.aload_n 3, 1) := by decide +kernel
theorem dL_law_878 : decode cL_law 878 = .ok (.iconst 0, 1) := by decide +kernel
theorem dL_law_879 : decode cL_law 879 = .ok (.laload, 1) := by decide +kernel
theorem dL_law_880 : decode cL_law 880 = .ok (.iload 6, 2) := by decide +kernel
theorem dL_law_882 : decode cL_law 882 = .ok (.i2l, 1) := by decide +kernel
theorem dL_law_883 : decode cL_law 883 = .ok (.lcmp, 1) := by decide +kernel
theorem dL_law_884 : decode cL_law 884 = .ok (.ifCond .eq 5, 3) := by decide +kernel
theorem dL_law_887 : decode cL_law 887 = .ok (.iconst 0, 1) := by decide +kernel
theorem dL_law_888 : decode cL_law 888 = .ok (.ireturn, 1) := by decide +kernel
theorem dL_law_889 : decode cL_law 889 = .ok (.goto 635, 3) := by decide +kernel
theorem dL_law_892 : decode cL_law 892 = .ok (.aload_n 1, 1) := by decide +kernel
theorem dL_law_893 : decode cL_law 893 = .ok (.aload_n 0, 1) := by decide +kernel
theorem dL_law_894 : decode cL_law 894 = .ok (.iload 4, 2) := by decide +kernel
theorem dL_law_896 : decode cL_law 896 = .ok (.iconst 1, 1) := by decide +kernel
theorem dL_law_897 : decode cL_law 897 = .ok (.iadd, 1) := by decide +kernel
theorem dL_law_898 : decode cL_law 898 = .ok (.iaload, 1) := by decide +kernel
theorem dL_law_899 : decode cL_law 899 = .ok (.aload_n 0, 1) := by decide +kernel
theorem dL_law_900 : decode cL_law 900 = .ok (.iload 4, 2) := by decide +kernel
theorem dL_law_902 : decode cL_law 902 = .ok (.iconst 2, 1) := by decide +kernel
theorem dL_law_903 : decode cL_law 903 = .ok (.iadd, 1) := by decide +kernel
theorem dL_law_904 : decode cL_law 904 = .ok (.iaload, 1) := by decide +kernel
theorem dL_law_905 : decode cL_law 905 = .ok (.aload_n 3, 1) := by decide +kernel
theorem dL_law_906 : decode cL_law 906 = .ok (.invokestatic 126, 3) := by decide +kernel
theorem dL_law_909 : decode cL_law 909 = .ok (.istore 5, 2) := by decide +kernel
theorem dL_law_911 : decode cL_law 911 = .ok (.aload_n 2, 1) := by decide +kernel
theorem dL_law_912 : decode cL_law 912 = .ok (.aload_n 0, 1) := by decide +kernel
theorem dL_law_913 : decode cL_law 913 = .ok (.iload 4, 2) := by decide +kernel
theorem dL_law_915 : decode cL_law 915 = .ok (.iconst 1, 1) := by decide +kernel
theorem dL_law_916 : decode cL_law 916 = .ok (.iadd, 1) := by decide +kernel
theorem dL_law_917 : decode cL_law 917 = .ok (.iaload, 1) := by decide +kernel
theorem dL_law_918 : decode cL_law 918 = .ok (.aload_n 0, 1) := by decide +kernel
theorem dL_law_919 : decode cL_law 919 = .ok (.iload 4, 2) := by decide +kernel
theorem dL_law_921 : decode cL_law 921 = .ok (.iconst 2, 1) := by decide +kernel
theorem dL_law_922 : decode cL_law 922 = .ok (.iadd, 1) := by decide +kernel
theorem dL_law_923 : decode cL_law 923 = .ok (.iaload, 1) := by decide +kernel
theorem dL_law_924 : decode cL_law 924 = .ok (.invokevirtual 128, 3) := by decide +kernel
theorem dL_law_927 : decode cL_law 927 = .ok (.istore 6, 2) := by decide +kernel
theorem dL_law_929 : decode cL_law 929 = .ok (.aload_n 2, 1) := by decide +kernel
theorem dL_law_930 : decode cL_law 930 = .ok (.invokevirtual 89, 3) := by decide +kernel
theorem dL_law_933 : decode cL_law 933 = .ok (.iload 5, 2) := by decide +kernel
theorem dL_law_935 : decode cL_law 935 = .ok (.if_icmp .eq 5, 3) := by decide +kernel
theorem dL_law_938 : decode cL_law 938 = .ok (.iconst 0, 1) := by decide +kernel
theorem dL_law_939 : decode cL_law 939 = .ok (.ireturn, 1) := by decide +kernel
theorem dL_law_940 : decode cL_law 940 = .ok (.iload 5, 2) := by decide +kernel
theorem dL_law_942 : decode cL_law 942 = .ok (.ifCond .ne 15, 3) := by decide +kernel
theorem dL_law_945 : decode cL_law 945 = .ok (.aload_n 3, 1) := by decide +kernel
theorem dL_law_946 : decode cL_law 946 = .ok (.iconst 0, 1) := by decide +kernel
theorem dL_law_947 : decode cL_law 947 = .ok (.laload, 1) := by decide +kernel
theorem dL_law_948 : decode cL_law 948 = .ok (.iload 6, 2) := by decide +kernel
theorem dL_law_950 : decode cL_law 950 = .ok (.i2l, 1) := by decide +kernel
theorem dL_law_951 : decode cL_law 951 = .ok (.lcmp, 1) := by decide +kernel
theorem dL_law_952 : decode cL_law 952 = .ok (.ifCond .eq 5, 3) := by decide +kernel
theorem dL_law_955 : decode cL_law 955 = .ok (.iconst 0, 1) := by decide +kernel
theorem dL_law_956 : decode cL_law 956 = .ok (.ireturn, 1) := by decide +kernel
theorem dL_law_957 : decode cL_law 957 = .ok (.goto 567, 3) := by decide +kernel
theorem dL_law_960 : decode cL_law 960 = .ok (.aload_n 1, 1) := by decide +kernel
theorem dL_law_961 : decode cL_law 961 = .ok (.aload_n 0, 1) := by decide +kernel
theorem dL_law_962 : decode cL_law 962 = .ok (.iload 4, 2) := by decide +kernel
theorem dL_law_964 : decode cL_law 964 = .ok (.iconst 1, 1) := by decide +kernel
theorem dL_law_965 : decode cL_law 965 = .ok (.iadd, 1) := by decide +kernel
theorem dL_law_966 : decode cL_law 966 = .ok (.iaload, 1) := by decide +kernel
theorem dL_law_967 : decode cL_law 967 = .ok (.aload_n 0, 1) := by decide +kernel
theorem dL_law_968 : decode cL_law 968 = .ok (.iload 4, 2) := by decide +kernel
theorem dL_law_970 : decode cL_law 970 = .ok (.iconst 2, 1) := by decide +kernel
theorem dL_law_971 : decode cL_law 971 = .ok (.iadd, 1) := by decide +kernel
theorem dL_law_972 : decode cL_law 972 = .ok (.iaload, 1) := by decide +kernel
theorem dL_law_973 : decode cL_law 973 = .ok (.aload_n 3, 1) := by decide +kernel
theorem dL_law_974 : decode cL_law 974 = .ok (.invokestatic 129, 3) := by decide +kernel
theorem dL_law_977 : decode cL_law 977 = .ok (.istore 5, 2) := by decide +kernel
theorem dL_law_979 : decode cL_law 979 = .ok (.aload_n 2, 1) := by decide +kernel
theorem dL_law_980 : decode cL_law 980 = .ok (.aload_n 0, 1) := by decide +kernel
theorem dL_law_981 : decode cL_law 981 = .ok (.iload 4, 2) := by decide +kernel
theorem dL_law_983 : decode cL_law 983 = .ok (.iconst 1, 1) := by decide +kernel
theorem dL_law_984 : decode cL_law 984 = .ok (.iadd, 1) := by decide +kernel
theorem dL_law_985 : decode cL_law 985 = .ok (.iaload, 1) := by decide +kernel
theorem dL_law_986 : decode cL_law 986 = .ok (.aload_n 0, 1) := by decide +kernel
theorem dL_law_987 : decode cL_law 987 = .ok (.iload 4, 2) := by decide +kernel
theorem dL_law_989 : decode cL_law 989 = .ok (.iconst 2, 1) := by decide +kernel
theorem dL_law_990 : decode cL_law 990 = .ok (.iadd, 1) := by decide +kernel
theorem dL_law_991 : decode cL_law 991 = .ok (.iaload, 1) := by decide +kernel
theorem dL_law_992 : decode cL_law 992 = .ok (.invokevirtual 131, 3) := by decide +kernel
theorem dL_law_995 : decode cL_law 995 = .ok (.istore 6, 2) := by decide +kernel
theorem dL_law_997 : decode cL_law 997 = .ok (.aload_n 2, 1) := by decide +kernel
theorem dL_law_998 : decode cL_law 998 = .ok (.invokevirtual 89, 3) := by decide +kernel
theorem dL_law_1001 : decode cL_law 1001 = .ok (.iload 5, 2) := by decide +kernel
theorem dL_law_1003 : decode cL_law 1003 = .ok (.if_icmp .eq 5, 3) := by decide +kernel
theorem dL_law_1006 : decode cL_law 1006 = .ok (.iconst 0, 1) := by decide +kernel
theorem dL_law_1007 : decode cL_law 1007 = .ok (.ireturn, 1) := by decide +kernel
theorem dL_law_1008 : decode cL_law 1008 = .ok (.iload 5, 2) := by decide +kernel
theorem dL_law_1010 : decode cL_law 1010 = .ok (.ifCond .ne 15, 3) := by decide +kernel
theorem dL_law_1013 : decode cL_law 1013 = .ok (.aload_n 3, 1) := by decide +kernel
theorem dL_law_1014 : decode cL_law 1014 = .ok (.iconst 0, 1) := by decide +kernel
theorem dL_law_1015 : decode cL_law 1015 = .ok (.laload, 1) := by decide +kernel
theorem dL_law_1016 : decode cL_law 1016 = .ok (.iload 6, 2) := by decide +kernel
theorem dL_law_1018 : decode cL_law 1018 = .ok (.i2l, 1) := by decide +kernel
theorem dL_law_1019 : decode cL_law 1019 = .ok (.lcmp, 1) := by decide +kernel
theorem dL_law_1020 : decode cL_law 1020 = .ok (.ifCond .eq 5, 3) := by decide +kernel
theorem dL_law_1023 : decode cL_law 1023 = .ok (.iconst 0, 1) := by decide +kernel
theorem dL_law_1024 : decode cL_law 1024 = .ok (.ireturn, 1) := by decide +kernel
theorem dL_law_1025 : decode cL_law 1025 = .ok (.goto 499, 3) := by decide +kernel
theorem dL_law_1028 : decode cL_law 1028 = .ok (.aload_n 1, 1) := by decide +kernel
theorem dL_law_1029 : decode cL_law 1029 = .ok (.aload_n 0, 1) := by decide +kernel
theorem dL_law_1030 : decode cL_law 1030 = .ok (.iload 4, 2) := by decide +kernel
theorem dL_law_1032 : decode cL_law 1032 = .ok (.iconst 1, 1) := by decide +kernel
theorem dL_law_1033 : decode cL_law 1033 = .ok (.iadd, 1) := by decide +kernel
theorem dL_law_1034 : decode cL_law 1034 = .ok (.iaload, 1) := by decide +kernel
theorem dL_law_1035 : decode cL_law 1035 = .ok (.aload_n 3, 1) := by decide +kernel
theorem dL_law_1036 : decode cL_law 1036 = .ok (.invokestatic 132, 3) := by decide +kernel
theorem dL_law_1039 : decode cL_law 1039 = .ok (.istore 5, 2) := by decide +kernel
theorem dL_law_1041 : decode cL_law 1041 = .ok (.aload_n 2, 1) := by decide +kernel
theorem dL_law_1042 : decode cL_law 1042 = .ok (.aload_n 0, 1) := by decide +kernel
theorem dL_law_1043 : decode cL_law 1043 = .ok (.iload 4, 2) := by decide +kernel
theorem dL_law_1045 : decode cL_law 1045 = .ok (.iconst 1, 1) := by decide +kernel
theorem dL_law_1046 : decode cL_law 1046 = .ok (.iadd, 1) := by decide +kernel
theorem dL_law_1047 : decode cL_law 1047 = .ok (.iaload, 1) := by decide +kernel
theorem dL_law_1048 : decode cL_law 1048 = .ok (.invokevirtual 134, 3) := by decide +kernel
theorem dL_law_1051 : decode cL_law 1051 = .ok (.istore 6, 2) := by decide +kernel
theorem dL_law_1053 : decode cL_law 1053 = .ok (.aload_n 2, 1) := by decide +kernel
theorem dL_law_1054 : decode cL_law 1054 = .ok (.invokevirtual 89, 3) := by decide +kernel
theorem dL_law_1057 : decode cL_law 1057 = .ok (.iload 5, 2) := by decide +kernel
theorem dL_law_1059 : decode cL_law 1059 = .ok (.if_icmp .eq 5, 3) := by decide +kernel
theorem dL_law_1062 : decode cL_law 1062 = .ok (.iconst 0, 1) := by decide +kernel
theorem dL_law_1063 : decode cL_law 1063 = .ok (.ireturn, 1) := by decide +kernel
theorem dL_law_1064 : decode cL_law 1064 = .ok (.iload 5, 2) := by decide +kernel
theorem dL_law_1066 : decode cL_law 1066 = .ok (.ifCond .ne 15, 3) := by decide +kernel
theorem dL_law_1069 : decode cL_law 1069 = .ok (.aload_n 3, 1) := by decide +kernel
theorem dL_law_1070 : decode cL_law 1070 = .ok (.iconst 0, 1) := by decide +kernel
theorem dL_law_1071 : decode cL_law 1071 = .ok (.laload, 1) := by decide +kernel
theorem dL_law_1072 : decode cL_law 1072 = .ok (.iload 6, 2) := by decide +kernel
theorem dL_law_1074 : decode cL_law 1074 = .ok (.i2l, 1) := by decide +kernel
theorem dL_law_1075 : decode cL_law 1075 = .ok (.lcmp, 1) := by decide +kernel
theorem dL_law_1076 : decode cL_law 1076 = .ok (.ifCond .eq 5, 3) := by decide +kernel
theorem dL_law_1079 : decode cL_law 1079 = .ok (.iconst 0, 1) := by decide +kernel
theorem dL_law_1080 : decode cL_law 1080 = .ok (.ireturn, 1) := by decide +kernel
theorem dL_law_1081 : decode cL_law 1081 = .ok (.goto 443, 3) := by decide +kernel
theorem dL_law_1084 : decode cL_law 1084 = .ok (.aload_n 1, 1) := by decide +kernel
theorem dL_law_1085 : decode cL_law 1085 = .ok (.aload_n 0, 1) := by decide +kernel
theorem dL_law_1086 : decode cL_law 1086 = .ok (.iload 4, 2) := by decide +kernel
theorem dL_law_1088 : decode cL_law 1088 = .ok (.iconst 1, 1) := by decide +kernel
theorem dL_law_1089 : decode cL_law 1089 = .ok (.iadd, 1) := by decide +kernel
theorem dL_law_1090 : decode cL_law 1090 = .ok (.iaload, 1) := by decide +kernel
theorem dL_law_1091 : decode cL_law 1091 = .ok (.aload_n 0, 1) := by decide +kernel
theorem dL_law_1092 : decode cL_law 1092 = .ok (.iload 4, 2) := by decide +kernel
theorem dL_law_1094 : decode cL_law 1094 = .ok (.iconst 2, 1) := by decide +kernel
theorem dL_law_1095 : decode cL_law 1095 = .ok (.iadd, 1) := by decide +kernel
theorem dL_law_1096 : decode cL_law 1096 = .ok (.iaload, 1) := by decide +kernel
theorem dL_law_1097 : decode cL_law 1097 = .ok (.aload_n 3, 1) := by decide +kernel
theorem dL_law_1098 : decode cL_law 1098 = .ok (.invokestatic 135, 3) := by decide +kernel
theorem dL_law_1101 : decode cL_law 1101 = .ok (.istore 5, 2) := by decide +kernel
theorem dL_law_1103 : decode cL_law 1103 = .ok (.aload_n 2, 1) := by decide +kernel
theorem dL_law_1104 : decode cL_law 1104 = .ok (.aload_n 0, 1) := by decide +kernel
theorem dL_law_1105 : decode cL_law 1105 = .ok (.iload 4, 2) := by decide +kernel
theorem dL_law_1107 : decode cL_law 1107 = .ok (.iconst 1, 1) := by decide +kernel
theorem dL_law_1108 : decode cL_law 1108 = .ok (.iadd, 1) := by decide +kernel
theorem dL_law_1109 : decode cL_law 1109 = .ok (.iaload, 1) := by decide +kernel
theorem dL_law_1110 : decode cL_law 1110 = .ok (.aload_n 0, 1) := by decide +kernel
theorem dL_law_1111 : decode cL_law 1111 = .ok (.iload 4, 2) := by decide +kernel
theorem dL_law_1113 : decode cL_law 1113 = .ok (.iconst 2, 1) := by decide +kernel
theorem dL_law_1114 : decode cL_law 1114 = .ok (.iadd, 1) := by decide +kernel
theorem dL_law_1115 : decode cL_law 1115 = .ok (.iaload, 1) := by decide +kernel
theorem dL_law_1116 : decode cL_law 1116 = .ok (.invokevirtual 137, 3) := by decide +kernel
theorem dL_law_1119 : decode cL_law 1119 = .ok (.istore 6, 2) := by decide +kernel
theorem dL_law_1121 : decode cL_law 1121 = .ok (.aload_n 2, 1) := by decide +kernel
theorem dL_law_1122 : decode cL_law 1122 = .ok (.invokevirtual 89, 3) := by decide +kernel
theorem dL_law_1125 : decode cL_law 1125 = .ok (.iload 5, 2) := by decide +kernel
theorem dL_law_1127 : decode cL_law 1127 = .ok (.if_icmp .eq 5, 3) := by decide +kernel
theorem dL_law_1130 : decode cL_law 1130 = .ok (.iconst 0, 1) := by decide +kernel
theorem dL_law_1131 : decode cL_law 1131 = .ok (.ireturn, 1) := by decide +kernel
theorem dL_law_1132 : decode cL_law 1132 = .ok (.iload 5, 2) := by decide +kernel
theorem dL_law_1134 : decode cL_law 1134 = .ok (.ifCond .ne 15, 3) := by decide +kernel
theorem dL_law_1137 : decode cL_law 1137 = .ok (.aload_n 3, 1) := by decide +kernel
theorem dL_law_1138 : decode cL_law 1138 = .ok (.iconst 0, 1) := by decide +kernel
theorem dL_law_1139 : decode cL_law 1139 = .ok (.laload, 1) := by decide +kernel
theorem dL_law_1140 : decode cL_law 1140 = .ok (.iload 6, 2) := by decide +kernel
theorem dL_law_1142 : decode cL_law 1142 = .ok (.i2l, 1) := by decide +kernel
theorem dL_law_1143 : decode cL_law 1143 = .ok (.lcmp, 1) := by decide +kernel
theorem dL_law_1144 : decode cL_law 1144 = .ok (.ifCond .eq 5, 3) := by decide +kernel
theorem dL_law_1147 : decode cL_law 1147 = .ok (.iconst 0, 1) := by decide +kernel
theorem dL_law_1148 : decode cL_law 1148 = .ok (.ireturn, 1) := by decide +kernel
theorem dL_law_1149 : decode cL_law 1149 = .ok (.goto 375, 3) := by decide +kernel
theorem dL_law_1152 : decode cL_law 1152 = .ok (.aload_n 1, 1) := by decide +kernel
theorem dL_law_1153 : decode cL_law 1153 = .ok (.aload_n 0, 1) := by decide +kernel
theorem dL_law_1154 : decode cL_law 1154 = .ok (.iload 4, 2) := by decide +kernel
theorem dL_law_1156 : decode cL_law 1156 = .ok (.iconst 1, 1) := by decide +kernel
theorem dL_law_1157 : decode cL_law 1157 = .ok (.iadd, 1) := by decide +kernel
theorem dL_law_1158 : decode cL_law 1158 = .ok (.iaload, 1) := by decide +kernel
theorem dL_law_1159 : decode cL_law 1159 = .ok (.aload_n 3, 1) := by decide +kernel
theorem dL_law_1160 : decode cL_law 1160 = .ok (.invokestatic 138, 3) := by decide +kernel
theorem dL_law_1163 : decode cL_law 1163 = .ok (.istore 5, 2) := by decide +kernel
theorem dL_law_1165 : decode cL_law 1165 = .ok (.aload_n 2, 1) := by decide +kernel
theorem dL_law_1166 : decode cL_law 1166 = .ok (.aload_n 0, 1) := by decide +kernel
theorem dL_law_1167 : decode cL_law 1167 = .ok (.iload 4, 2) := by decide +kernel
theorem dL_law_1169 : decode cL_law 1169 = .ok (.iconst 1, 1) := by decide +kernel
theorem dL_law_1170 : decode cL_law 1170 = .ok (.iadd, 1) := by decide +kernel
theorem dL_law_1171 : decode cL_law 1171 = .ok (.iaload, 1) := by decide +kernel
theorem dL_law_1172 : decode cL_law 1172 = .ok (.invokevirtual 140, 3) := by decide +kernel
theorem dL_law_1175 : decode cL_law 1175 = .ok (.istore 6, 2) := by decide +kernel
theorem dL_law_1177 : decode cL_law 1177 = .ok (.aload_n 2, 1) := by decide +kernel
theorem dL_law_1178 : decode cL_law 1178 = .ok (.invokevirtual 89, 3) := by decide +kernel
theorem dL_law_1181 : decode cL_law 1181 = .ok (.iload 5, 2) := by decide +kernel
theorem dL_law_1183 : decode cL_law 1183 = .ok (.if_icmp .eq 5, 3) := by decide +kernel
theorem dL_law_1186 : decode cL_law 1186 = .ok (.iconst 0, 1) := by decide +kernel
theorem dL_law_1187 : decode cL_law 1187 = .ok (.ireturn, 1) := by decide +kernel
theorem dL_law_1188 : decode cL_law 1188 = .ok (.iload 5, 2) := by decide +kernel
theorem dL_law_1190 : decode cL_law 1190 = .ok (.ifCond .ne 15, 3) := by decide +kernel
theorem dL_law_1193 : decode cL_law 1193 = .ok (.aload_n 3, 1) := by decide +kernel
theorem dL_law_1194 : decode cL_law 1194 = .ok (.iconst 0, 1) := by decide +kernel
theorem dL_law_1195 : decode cL_law 1195 = .ok (.laload, 1) := by decide +kernel
theorem dL_law_1196 : decode cL_law 1196 = .ok (.iload 6, 2) := by decide +kernel
theorem dL_law_1198 : decode cL_law 1198 = .ok (.i2l, 1) := by decide +kernel
theorem dL_law_1199 : decode cL_law 1199 = .ok (.lcmp, 1) := by decide +kernel
theorem dL_law_1200 : decode cL_law 1200 = .ok (.ifCond .eq 5, 3) := by decide +kernel
theorem dL_law_1203 : decode cL_law 1203 = .ok (.iconst 0, 1) := by decide +kernel
theorem dL_law_1204 : decode cL_law 1204 = .ok (.ireturn, 1) := by decide +kernel
theorem dL_law_1205 : decode cL_law 1205 = .ok (.goto 319, 3) := by decide +kernel
theorem dL_law_1208 : decode cL_law 1208 = .ok (.aload_n 1, 1) := by decide +kernel
theorem dL_law_1209 : decode cL_law 1209 = .ok (.aload_n 0, 1) := by decide +kernel
theorem dL_law_1210 : decode cL_law 1210 = .ok (.iload 4, 2) := by decide +kernel
theorem dL_law_1212 : decode cL_law 1212 = .ok (.iconst 1, 1) := by decide +kernel
theorem dL_law_1213 : decode cL_law 1213 = .ok (.iadd, 1) := by decide +kernel
theorem dL_law_1214 : decode cL_law 1214 = .ok (.iaload, 1) := by decide +kernel
theorem dL_law_1215 : decode cL_law 1215 = .ok (.aload_n 3, 1) := by decide +kernel
theorem dL_law_1216 : decode cL_law 1216 = .ok (.invokestatic 141, 3) := by decide +kernel
theorem dL_law_1219 : decode cL_law 1219 = .ok (.istore 5, 2) := by decide +kernel
theorem dL_law_1221 : decode cL_law 1221 = .ok (.aload_n 2, 1) := by decide +kernel
theorem dL_law_1222 : decode cL_law 1222 = .ok (.aload_n 0, 1) := by decide +kernel
theorem dL_law_1223 : decode cL_law 1223 = .ok (.iload 4, 2) := by decide +kernel
theorem dL_law_1225 : decode cL_law 1225 = .ok (.iconst 1, 1) := by decide +kernel
theorem dL_law_1226 : decode cL_law 1226 = .ok (.iadd, 1) := by decide +kernel
theorem dL_law_1227 : decode cL_law 1227 = .ok (.iaload, 1) := by decide +kernel
theorem dL_law_1228 : decode cL_law 1228 = .ok (.invokevirtual 143, 3) := by decide +kernel
theorem dL_law_1231 : decode cL_law 1231 = .ok (.istore 6, 2) := by decide +kernel
theorem dL_law_1233 : decode cL_law 1233 = .ok (.aload_n 2, 1) := by decide +kernel
theorem dL_law_1234 : decode cL_law 1234 = .ok (.invokevirtual 89, 3) := by decide +kernel
theorem dL_law_1237 : decode cL_law 1237 = .ok (.iload 5, 2) := by decide +kernel
theorem dL_law_1239 : decode cL_law 1239 = .ok (.if_icmp .eq 5, 3) := by decide +kernel
theorem dL_law_1242 : decode cL_law 1242 = .ok (.iconst 0, 1) := by decide +kernel
theorem dL_law_1243 : decode cL_law 1243 = .ok (.ireturn, 1) := by decide +kernel
theorem dL_law_1244 : decode cL_law 1244 = .ok (.iload 5, 2) := by decide +kernel
theorem dL_law_1246 : decode cL_law 1246 = .ok (.ifCond .ne 15, 3) := by decide +kernel
theorem dL_law_1249 : decode cL_law 1249 = .ok (.aload_n 3, 1) := by decide +kernel
theorem dL_law_1250 : decode cL_law 1250 = .ok (.iconst 0, 1) := by decide +kernel
theorem dL_law_1251 : decode cL_law 1251 = .ok (.laload, 1) := by decide +kernel
theorem dL_law_1252 : decode cL_law 1252 = .ok (.iload 6, 2) := by decide +kernel
theorem dL_law_1254 : decode cL_law 1254 = .ok (.i2l, 1) := by decide +kernel
theorem dL_law_1255 : decode cL_law 1255 = .ok (.lcmp, 1) := by decide +kernel
theorem dL_law_1256 : decode cL_law 1256 = .ok (.ifCond .eq 5, 3) := by decide +kernel
theorem dL_law_1259 : decode cL_law 1259 = .ok (.iconst 0, 1) := by decide +kernel
theorem dL_law_1260 : decode cL_law 1260 = .ok (.ireturn, 1) := by decide +kernel
theorem dL_law_1261 : decode cL_law 1261 = .ok (.goto 263, 3) := by decide +kernel
theorem dL_law_1264 : decode cL_law 1264 = .ok (.aload_n 1, 1) := by decide +kernel
theorem dL_law_1265 : decode cL_law 1265 = .ok (.aload_n 0, 1) := by decide +kernel
theorem dL_law_1266 : decode cL_law 1266 = .ok (.iload 4, 2) := by decide +kernel
theorem dL_law_1268 : decode cL_law 1268 = .ok (.iconst 1, 1) := by decide +kernel
theorem dL_law_1269 : decode cL_law 1269 = .ok (.iadd, 1) := by decide +kernel
theorem dL_law_1270 : decode cL_law 1270 = .ok (.iaload, 1) := by decide +kernel
theorem dL_law_1271 : decode cL_law 1271 = .ok (.aload_n 0, 1) := by decide +kernel
theorem dL_law_1272 : decode cL_law 1272 = .ok (.iload 4, 2) := by decide +kernel
theorem dL_law_1274 : decode cL_law 1274 = .ok (.iconst 2, 1) := by decide +kernel
theorem dL_law_1275 : decode cL_law 1275 = .ok (.iadd, 1) := by decide +kernel
theorem dL_law_1276 : decode cL_law 1276 = .ok (.iaload, 1) := by decide +kernel
theorem dL_law_1277 : decode cL_law 1277 = .ok (.aload_n 3, 1) := by decide +kernel
theorem dL_law_1278 : decode cL_law 1278 = .ok (.invokestatic 144, 3) := by decide +kernel
theorem dL_law_1281 : decode cL_law 1281 = .ok (.istore 5, 2) := by decide +kernel
theorem dL_law_1283 : decode cL_law 1283 = .ok (.aload_n 2, 1) := by decide +kernel
theorem dL_law_1284 : decode cL_law 1284 = .ok (.aload_n 0, 1) := by decide +kernel
theorem dL_law_1285 : decode cL_law 1285 = .ok (.iload 4, 2) := by decide +kernel
theorem dL_law_1287 : decode cL_law 1287 = .ok (.iconst 1, 1) := by decide +kernel
theorem dL_law_1288 : decode cL_law 1288 = .ok (.iadd, 1) := by decide +kernel
theorem dL_law_1289 : decode cL_law 1289 = .ok (.iaload, 1) := by decide +kernel
theorem dL_law_1290 : decode cL_law 1290 = .ok (.aload_n 0, 1) := by decide +kernel
theorem dL_law_1291 : decode cL_law 1291 = .ok (.iload 4, 2) := by decide +kernel
theorem dL_law_1293 : decode cL_law 1293 = .ok (.iconst 2, 1) := by decide +kernel
theorem dL_law_1294 : decode cL_law 1294 = .ok (.iadd, 1) := by decide +kernel
theorem dL_law_1295 : decode cL_law 1295 = .ok (.iaload, 1) := by decide +kernel
theorem dL_law_1296 : decode cL_law 1296 = .ok (.invokevirtual 146, 3) := by decide +kernel
theorem dL_law_1299 : decode cL_law 1299 = .ok (.istore 6, 2) := by decide +kernel
theorem dL_law_1301 : decode cL_law 1301 = .ok (.aload_n 2, 1) := by decide +kernel
theorem dL_law_1302 : decode cL_law 1302 = .ok (.invokevirtual 89, 3) := by decide +kernel
theorem dL_law_1305 : decode cL_law 1305 = .ok (.iload 5, 2) := by decide +kernel
theorem dL_law_1307 : decode cL_law 1307 = .ok (.if_icmp .eq 5, 3) := by decide +kernel
theorem dL_law_1310 : decode cL_law 1310 = .ok (.iconst 0, 1) := by decide +kernel
theorem dL_law_1311 : decode cL_law 1311 = .ok (.ireturn, 1) := by decide +kernel
theorem dL_law_1312 : decode cL_law 1312 = .ok (.iload 5, 2) := by decide +kernel
theorem dL_law_1314 : decode cL_law 1314 = .ok (.ifCond .ne 15, 3) := by decide +kernel
theorem dL_law_1317 : decode cL_law 1317 = .ok (.aload_n 3, 1) := by decide +kernel
theorem dL_law_1318 : decode cL_law 1318 = .ok (.iconst 0, 1) := by decide +kernel
theorem dL_law_1319 : decode cL_law 1319 = .ok (.laload, 1) := by decide +kernel
theorem dL_law_1320 : decode cL_law 1320 = .ok (.iload 6, 2) := by decide +kernel
theorem dL_law_1322 : decode cL_law 1322 = .ok (.i2l, 1) := by decide +kernel
theorem dL_law_1323 : decode cL_law 1323 = .ok (.lcmp, 1) := by decide +kernel
theorem dL_law_1324 : decode cL_law 1324 = .ok (.ifCond .eq 5, 3) := by decide +kernel
theorem dL_law_1327 : decode cL_law 1327 = .ok (.iconst 0, 1) := by decide +kernel
theorem dL_law_1328 : decode cL_law 1328 = .ok (.ireturn, 1) := by decide +kernel
theorem dL_law_1329 : decode cL_law 1329 = .ok (.goto 195, 3) := by decide +kernel
theorem dL_law_1332 : decode cL_law 1332 = .ok (.aload_n 1, 1) := by decide +kernel
theorem dL_law_1333 : decode cL_law 1333 = .ok (.invokevirtual 147, 3) := by decide +kernel
theorem dL_law_1336 : decode cL_law 1336 = .ok (.aload_n 2, 1) := by decide +kernel
theorem dL_law_1337 : decode cL_law 1337 = .ok (.invokevirtual 150, 3) := by decide +kernel
theorem dL_law_1340 : decode cL_law 1340 = .ok (.if_icmp .eq 184, 3) := by decide +kernel
theorem dL_law_1343 : decode cL_law 1343 = .ok (.iconst 0, 1) := by decide +kernel
theorem dL_law_1344 : decode cL_law 1344 = .ok (.ireturn, 1) := by decide +kernel
theorem dL_law_1345 : decode cL_law 1345 = .ok (.aload_n 1, 1) := by decide +kernel
theorem dL_law_1346 : decode cL_law 1346 = .ok (.aload_n 0, 1) := by decide +kernel
theorem dL_law_1347 : decode cL_law 1347 = .ok (.iload 4, 2) := by decide +kernel
theorem dL_law_1349 : decode cL_law 1349 = .ok (.iconst 1, 1) := by decide +kernel
theorem dL_law_1350 : decode cL_law 1350 = .ok (.iadd, 1) := by decide +kernel
theorem dL_law_1351 : decode cL_law 1351 = .ok (.iaload, 1) := by decide +kernel
theorem dL_law_1352 : decode cL_law 1352 = .ok (.aload_n 3, 1) := by decide +kernel
theorem dL_law_1353 : decode cL_law 1353 = .ok (.invokestatic 151, 3) := by decide +kernel
theorem dL_law_1356 : decode cL_law 1356 = .ok (.istore 5, 2) := by decide +kernel
theorem dL_law_1358 : decode cL_law 1358 = .ok (.aload_n 2, 1) := by decide +kernel
theorem dL_law_1359 : decode cL_law 1359 = .ok (.aload_n 0, 1) := by decide +kernel
theorem dL_law_1360 : decode cL_law 1360 = .ok (.iload 4, 2) := by decide +kernel
theorem dL_law_1362 : decode cL_law 1362 = .ok (.iconst 1, 1) := by decide +kernel
theorem dL_law_1363 : decode cL_law 1363 = .ok (.iadd, 1) := by decide +kernel
theorem dL_law_1364 : decode cL_law 1364 = .ok (.iaload, 1) := by decide +kernel
theorem dL_law_1365 : decode cL_law 1365 = .ok (.invokevirtual 153, 3) := by decide +kernel
theorem dL_law_1368 : decode cL_law 1368 = .ok (.istore 6, 2) := by decide +kernel
theorem dL_law_1370 : decode cL_law 1370 = .ok (.aload_n 2, 1) := by decide +kernel
theorem dL_law_1371 : decode cL_law 1371 = .ok (.invokevirtual 89, 3) := by decide +kernel
theorem dL_law_1374 : decode cL_law 1374 = .ok (.iload 5, 2) := by decide +kernel
theorem dL_law_1376 : decode cL_law 1376 = .ok (.if_icmp .eq 5, 3) := by decide +kernel
theorem dL_law_1379 : decode cL_law 1379 = .ok (.iconst 0, 1) := by decide +kernel
theorem dL_law_1380 : decode cL_law 1380 = .ok (.ireturn, 1) := by decide +kernel
theorem dL_law_1381 : decode cL_law 1381 = .ok (.iload 5, 2) := by decide +kernel
theorem dL_law_1383 : decode cL_law 1383 = .ok (.ifCond .ne 15, 3) := by decide +kernel
theorem dL_law_1386 : decode cL_law 1386 = .ok (.aload_n 3, 1) := by decide +kernel
theorem dL_law_1387 : decode cL_law 1387 = .ok (.iconst 0, 1) := by decide +kernel
theorem dL_law_1388 : decode cL_law 1388 = .ok (.laload, 1) := by decide +kernel
theorem dL_law_1389 : decode cL_law 1389 = .ok (.iload 6, 2) := by decide +kernel
theorem dL_law_1391 : decode cL_law 1391 = .ok (.i2l, 1) := by decide +kernel
theorem dL_law_1392 : decode cL_law 1392 = .ok (.lcmp, 1) := by decide +kernel
theorem dL_law_1393 : decode cL_law 1393 = .ok (.ifCond .eq 5, 3) := by decide +kernel
theorem dL_law_1396 : decode cL_law 1396 = .ok (.iconst 0, 1) := by decide +kernel
theorem dL_law_1397 : decode cL_law 1397 = .ok (.ireturn, 1) := by decide +kernel
theorem dL_law_1398 : decode cL_law 1398 = .ok (.goto 126, 3) := by decide +kernel
theorem dL_law_1401 : decode cL_law 1401 = .ok (.aload_n 1, 1) := by decide +kernel
theorem dL_law_1402 : decode cL_law 1402 = .ok (.aload_n 0, 1) := by decide +kernel
theorem dL_law_1403 : decode cL_law 1403 = .ok (.iload 4, 2) := by decide +kernel
theorem dL_law_1405 : decode cL_law 1405 = .ok (.iconst 1, 1) := by decide +kernel
theorem dL_law_1406 : decode cL_law 1406 = .ok (.iadd, 1) := by decide +kernel
theorem dL_law_1407 : decode cL_law 1407 = .ok (.iaload, 1) := by decide +kernel
theorem dL_law_1408 : decode cL_law 1408 = .ok (.aload_n 0, 1) := by decide +kernel
theorem dL_law_1409 : decode cL_law 1409 = .ok (.iload 4, 2) := by decide +kernel
theorem dL_law_1411 : decode cL_law 1411 = .ok (.iconst 2, 1) := by decide +kernel
theorem dL_law_1412 : decode cL_law 1412 = .ok (.iadd, 1) := by decide +kernel
theorem dL_law_1413 : decode cL_law 1413 = .ok (.iaload, 1) := by decide +kernel
theorem dL_law_1414 : decode cL_law 1414 = .ok (.aload_n 3, 1) := by decide +kernel
theorem dL_law_1415 : decode cL_law 1415 = .ok (.invokestatic 154, 3) := by decide +kernel
theorem dL_law_1418 : decode cL_law 1418 = .ok (.istore 5, 2) := by decide +kernel
theorem dL_law_1420 : decode cL_law 1420 = .ok (.aload_n 2, 1) := by decide +kernel
theorem dL_law_1421 : decode cL_law 1421 = .ok (.aload_n 0, 1) := by decide +kernel
theorem dL_law_1422 : decode cL_law 1422 = .ok (.iload 4, 2) := by decide +kernel
theorem dL_law_1424 : decode cL_law 1424 = .ok (.iconst 1, 1) := by decide +kernel
theorem dL_law_1425 : decode cL_law 1425 = .ok (.iadd, 1) := by decide +kernel
theorem dL_law_1426 : decode cL_law 1426 = .ok (.iaload, 1) := by decide +kernel
theorem dL_law_1427 : decode cL_law 1427 = .ok (.aload_n 0, 1) := by decide +kernel
theorem dL_law_1428 : decode cL_law 1428 = .ok (.iload 4, 2) := by decide +kernel
theorem dL_law_1430 : decode cL_law 1430 = .ok (.iconst 2, 1) := by decide +kernel
theorem dL_law_1431 : decode cL_law 1431 = .ok (.iadd, 1) := by decide +kernel
theorem dL_law_1432 : decode cL_law 1432 = .ok (.iaload, 1) := by decide +kernel
theorem dL_law_1433 : decode cL_law 1433 = .ok (.invokevirtual 156, 3) := by decide +kernel
theorem dL_law_1436 : decode cL_law 1436 = .ok (.istore 6, 2) := by decide +kernel
theorem dL_law_1438 : decode cL_law 1438 = .ok (.aload_n 2, 1) := by decide +kernel
theorem dL_law_1439 : decode cL_law 1439 = .ok (.invokevirtual 89, 3) := by decide +kernel
theorem dL_law_1442 : decode cL_law 1442 = .ok (.iload 5, 2) := by decide +kernel
theorem dL_law_1444 : decode cL_law 1444 = .ok (.if_icmp .eq 5, 3) := by decide +kernel
theorem dL_law_1447 : decode cL_law 1447 = .ok (.iconst 0, 1) := by decide +kernel
theorem dL_law_1448 : decode cL_law 1448 = .ok (.ireturn, 1) := by decide +kernel
theorem dL_law_1449 : decode cL_law 1449 = .ok (.iload 5, 2) := by decide +kernel
theorem dL_law_1451 : decode cL_law 1451 = .ok (.ifCond .ne 15, 3) := by decide +kernel
theorem dL_law_1454 : decode cL_law 1454 = .ok (.aload_n 3, 1) := by decide +kernel
theorem dL_law_1455 : decode cL_law 1455 = .ok (.iconst 0, 1) := by decide +kernel
theorem dL_law_1456 : decode cL_law 1456 = .ok (.laload, 1) := by decide +kernel
theorem dL_law_1457 : decode cL_law 1457 = .ok (.iload 6, 2) := by decide +kernel
theorem dL_law_1459 : decode cL_law 1459 = .ok (.i2l, 1) := by decide +kernel
theorem dL_law_1460 : decode cL_law 1460 = .ok (.lcmp, 1) := by decide +kernel
theorem dL_law_1461 : decode cL_law 1461 = .ok (.ifCond .eq 5, 3) := by decide +kernel
theorem dL_law_1464 : decode cL_law 1464 = .ok (.iconst 0, 1) := by decide +kernel
theorem dL_law_1465 : decode cL_law 1465 = .ok (.ireturn, 1) := by decide +kernel
theorem dL_law_1466 : decode cL_law 1466 = .ok (.goto 58, 3) := by decide +kernel
theorem dL_law_1469 : decode cL_law 1469 = .ok (.aload_n 1, 1) := by decide +kernel
theorem dL_law_1470 : decode cL_law 1470 = .ok (.invokevirtual 157, 3) := by decide +kernel
theorem dL_law_1473 : decode cL_law 1473 = .ok (.dstore 5, 2) := by decide +kernel
theorem dL_law_1475 : decode cL_law 1475 = .ok (.aload_n 2, 1) := by decide +kernel
theorem dL_law_1476 : decode cL_law 1476 = .ok (.invokevirtual 161, 3) := by decide +kernel
theorem dL_law_1479 : decode cL_law 1479 = .ok (.dstore 7, 2) := by decide +kernel
theorem dL_law_1481 : decode cL_law 1481 = .ok (.dload 5, 2) := by decide +kernel
theorem dL_law_1483 : decode cL_law 1483 = .ok (.dload 7, 2) := by decide +kernel
theorem dL_law_1485 : decode cL_law 1485 = .ok (.dcmp .l, 1) := by decide +kernel
theorem dL_law_1486 : decode cL_law 1486 = .ok (.ifCond .eq 21, 3) := by decide +kernel
theorem dL_law_1489 : decode cL_law 1489 = .ok (.dload 5, 2) := by decide +kernel
theorem dL_law_1491 : decode cL_law 1491 = .ok (.dload 5, 2) := by decide +kernel
theorem dL_law_1493 : decode cL_law 1493 = .ok (.dcmp .l, 1) := by decide +kernel
theorem dL_law_1494 : decode cL_law 1494 = .ok (.ifCond .eq 11, 3) := by decide +kernel
theorem dL_law_1497 : decode cL_law 1497 = .ok (.dload 7, 2) := by decide +kernel
theorem dL_law_1499 : decode cL_law 1499 = .ok (.dload 7, 2) := by decide +kernel
theorem dL_law_1501 : decode cL_law 1501 = .ok (.dcmp .l, 1) := by decide +kernel
theorem dL_law_1502 : decode cL_law 1502 = .ok (.ifCond .ne 5, 3) := by decide +kernel
theorem dL_law_1505 : decode cL_law 1505 = .ok (.iconst 0, 1) := by decide +kernel
theorem dL_law_1506 : decode cL_law 1506 = .ok (.ireturn, 1) := by decide +kernel
theorem dL_law_1507 : decode cL_law 1507 = .ok (.goto 17, 3) := by decide +kernel
theorem dL_law_1510 : decode cL_law 1510 = .ok (.aload_n 1, 1) := by decide +kernel
theorem dL_law_1511 : decode cL_law 1511 = .ok (.invokevirtual 162, 3) := by decide +kernel
theorem dL_law_1514 : decode cL_law 1514 = .ok (.aload_n 2, 1) := by decide +kernel
theorem dL_law_1515 : decode cL_law 1515 = .ok (.invokevirtual 166, 3) := by decide +kernel
theorem dL_law_1518 : decode cL_law 1518 = .ok (.lcmp, 1) := by decide +kernel
theorem dL_law_1519 : decode cL_law 1519 = .ok (.ifCond .eq 5, 3) := by decide +kernel
theorem dL_law_1522 : decode cL_law 1522 = .ok (.iconst 0, 1) := by decide +kernel
theorem dL_law_1523 : decode cL_law 1523 = .ok (.ireturn, 1) := by decide +kernel
theorem dL_law_1524 : decode cL_law 1524 = .ok (.iinc 4 5, 3) := by decide +kernel
theorem dL_law_1527 : decode cL_law 1527 = .ok (.goto (-1504), 3) := by decide +kernel
theorem dL_law_1530 : decode cL_law 1530 = .ok (.iconst 1, 1) := by decide +kernel
theorem dL_law_1531 : decode cL_law 1531 = .ok (.ireturn, 1) := by decide +kernel
end
section
/-! THE MACHINE LAYER: an abstract heap (cells by their number), abstract values (a reference is a cell's number), and one judgement, WP, that hides the machine. -/
def wsAll : List Cond := lw_tbl.filter goodWord
theorem wsAll_tbl {w : Cond} (h : w ∈ wsAll) : w ∈ lw_tbl := (List.mem_filter.mp h).1
theorem wsAll_good {w : Cond} (h : w ∈ wsAll) : goodWord w = true := (List.mem_filter.mp h).2
theorem wsAll_of {w : Cond} (i : Nat) (h : lw_tbl[i]? = some w) (hg : goodWord w = true) : w ∈ wsAll := List.mem_filter.mpr ⟨List.mem_of_getElem? h, hg⟩
/-- a method: name, bytes, locals, what it returns, its exception table -/
abbrev MD : Type := MethodName × ByteArray × Nat × Option FieldType × List (Nat × Nat × Nat × Nat)
abbrev mdY (M : MD) : MethodName := M.1
abbrev mdB (M : MD) : ByteArray := M.2.1
abbrev mdL (M : MD) : Nat := M.2.2.1
abbrev mdR (M : MD) : Option FieldType := M.2.2.2.1
abbrev mdH (M : MD) : List (Nat × Nat × Nat × Nat) := M.2.2.2.2
def wordOf (M : MD) : Cond := match mdH M with
  | [] => .code (mdY M) (mdB M) (mdL M) (mdR M)
  | q :: hs => .codeWith (mdY M) (mdB M) (mdL M) (mdR M) (q :: hs)
/-- marks: a caught exception; the script; a local that is not set -/
abbrev vX : Value := .retAddr 0
abbrev vScr : Value := .retAddr 1
abbrev vU : Value := .retAddr 2
def VR (as : List Nat) (sb : Nat) : Value → Value → Prop
  | .ref i, w => ∃ a, as[i]? = some a ∧ w = .ref a
  | .retAddr k, w => (k = 0 → ∃ q, w = .ref q) ∧ (k = 1 → w = .ref sb)
  | v, w => w = v
def VF (as : List Nat) : Value → Value → Prop
  | .ref i, w => ∃ a, as[i]? = some a ∧ w = .ref a
  | .retAddr _, _ => False
  | v, w => w = v
theorem VF.to {as : List Nat} {sb : Nat} {v w : Value} (h : VF as v w) : VR as sb v w := by
  cases v <;> first | exact h | exact h.elim
def SR (as : List Nat) (sb : Nat) : List Value → List Value → Prop
  | [], [] => True
  | v :: vs, w :: ws => VR as sb v w ∧ SR as sb vs ws
  | _, _ => False
theorem SR.c {as : List Nat} {sb : Nat} {v : Value} {vs st : List Value} (h : SR as sb (v :: vs) st) : ∃ w t, st = w :: t ∧ VR as sb v w ∧ SR as sb vs t := by
  cases st with
  | nil => exact h.elim
  | cons w t => exact ⟨w, t, rfl, h⟩
theorem SR.n {as : List Nat} {sb : Nat} {st : List Value} (h : SR as sb [] st) : st = [] := by
  cases st with
  | nil => rfl
  | cons w t => exact h.elim
def Gr (as as' : List Nat) : Prop := ∀ (i a : Nat), as[i]? = some a → as'[i]? = some a
theorem Gr.rf {as : List Nat} : Gr as as := fun _ _ h => h
theorem Gr.tr {a b c : List Nat} (h : Gr a b) (k : Gr b c) : Gr a c := fun i x q => k i x (h i x q)
theorem Gr.app (a b : List Nat) : Gr a (a ++ b) := fun i x q => by
  rw [List.getElem?_append_left (List.getElem?_eq_some_iff.mp q).1]; exact q
theorem VR.gr {as as' : List Nat} {sb : Nat} {v w : Value} (g : Gr as as') (h : VR as sb v w) : VR as' sb v w := by
  cases v <;> first | exact h | (obtain ⟨a, h1, h2⟩ := h; exact ⟨a, g _ _ h1, h2⟩)
theorem VF.gr {as as' : List Nat} {v w : Value} (g : Gr as as') (h : VF as v w) : VF as' v w := by
  cases v <;> first | exact h | (obtain ⟨a, h1, h2⟩ := h; exact ⟨a, g _ _ h1, h2⟩)
theorem SR.gr {as as' : List Nat} {sb : Nat} (g : Gr as as') : ∀ {st tv : List Value}, SR as sb st tv → SR as' sb st tv
  | [], [], h => h
  | _ :: _, _ :: _, h => ⟨VR.gr g h.1, SR.gr g h.2⟩
  | [], _ :: _, h => h
  | _ :: _, [], h => h
def LR (as : List Nat) (sb n : Nat) (ls : List Value) (L : Array Slot) : Prop :=
  ls.length = n ∧ L.size = n ∧ lv_wf L ∧ ∀ (i : Nat) (v : Value), ls[i]? = some v → v ≠ vU → ∃ w, L[i]? = some (.val w) ∧ VR as sb v w
theorem LR.gr {as as' : List Nat} {sb n : Nat} {ls : List Value} {L : Array Slot} (g : Gr as as') (h : LR as sb n ls L) : LR as' sb n ls L :=
  ⟨h.1, h.2.1, h.2.2.1, fun i v h1 h2 => by obtain ⟨w, h3, h4⟩ := h.2.2.2 i v h1 h2; exact ⟨w, h3, VR.gr g h4⟩⟩
/-- all values that the locals hold -/
def lsVals (L : Array Slot) : List (Nat × Value) := (List.range L.size).filterMap fun (i : Nat) => match (L[i]? : Option Slot) with
  | some (.val w) => some (i, w)
  | _ => none
theorem lsVals_in {L : Array Slot} {i : Nat} {w : Value} : (i, w) ∈ lsVals L ↔ L[i]? = some (.val w) := by
  unfold lsVals
  rw [List.mem_filterMap]
  constructor
  · rintro ⟨j, hj, h⟩
    split at h
    next w' hw => cases h; exact hw
    next => cases h
  · intro h
    exact ⟨i, List.mem_range.mpr (Array.getElem?_eq_some_iff.mp h).1, by rw [h]⟩
theorem LR.has {as : List Nat} {sb n : Nat} {ls : List Value} {L : Array Slot} (h : LR as sb n ls L) : lv_has L n (lsVals L) :=
  ⟨h.2.1, h.2.2.1, fun q hq => lsVals_in.mp (by obtain ⟨a, b⟩ := q; exact hq)⟩
def wide (v : Value) : Bool := match v with
  | .long _ => true
  | .double _ => true
  | _ => false
/-- no wide value ends in local i -/
def okS (ls : List Value) (i : Nat) : Bool := match i with
  | 0 => true
  | j + 1 => match ls[j]? with
    | some v => !wide v
    | none => true
theorem VR.cat {as : List Nat} {sb : Nat} {v w : Value} (h : VR as sb v w) (hv : v ≠ vU) (hk : ∀ k, v = .retAddr k → k = 0 ∨ k = 1) : w.category = if wide v then 2 else 1 := by
  cases v with
  | ref i => obtain ⟨a, -, rfl⟩ := h; rfl
  | retAddr k =>
    rcases hk k rfl with rfl | rfl
    · obtain ⟨q, rfl⟩ := h.1 rfl; rfl
    · rw [h.2 rfl]; rfl
  | int _ => cases h; rfl
  | long _ => cases h; rfl
  | float _ => cases h; rfl
  | double _ => cases h; rfl
  | null => cases h; rfl
/-- which values locals and stack may hold -/
def okV (v : Value) : Bool := match v with
  | .retAddr k => decide (k ≤ 2)
  | _ => true
def okL (ls : List Value) : Bool := ls.all okV
theorem LR.store1 {as : List Nat} {sb n : Nat} {ls : List Value} {L L' : Array Slot} {i : Nat} {v w : Value} (h : LR as sb n ls L) (hi : i < n) (hv : VR as sb v w) (ho : okS ls i = true) (hw : ∀ (j : Nat) (u : Value), ls[j]? = some u → okV u = true)
    (h2 : lv_has L' n ((i, w) :: (lsVals L).filter (fun q => !(q.1 == i) && !(q.1 + 1 == i && q.2.category == 2)))) : LR as sb n (ls.set i v) L' := by
  refine ⟨by rw [List.length_set]; exact h.1, h2.1, h2.2.1, fun j u hj hu => ?_⟩
  by_cases e : j = i
  · subst e
    rw [List.getElem?_set_self (by rw [h.1]; exact hi)] at hj
    cases hj
    exact ⟨w, h2.2.2 (j, w) List.mem_cons_self, hv⟩
  · rw [List.getElem?_set_ne (Ne.symm e)] at hj
    obtain ⟨x, h3, h4⟩ := h.2.2.2 j u hj hu
    refine ⟨x, h2.2.2 (j, x) (List.mem_cons_of_mem _ (List.mem_filter.mpr ⟨lsVals_in.mpr h3, ?_⟩)), h4⟩
    have c1 : (j == i) = false := by simp [e]
    by_cases e1 : j + 1 = i
    · subst e1
      have hc := h4.cat hu (fun k hk => by
        have h5 := hw j u hj
        rw [hk] at h5 hu
        have h6 : k ≤ 2 := by simpa [okV] using h5
        have h7 : k ≠ 2 := fun q => hu (by rw [q])
        omega)
      have h8 : wide u = false := by
        have : okS ls (j + 1) = (match ls[j]? with | some v => !wide v | none => true) := rfl
        rw [this, hj] at ho
        simpa using ho
      rw [h8] at hc
      have hc1 : x.category = 1 := hc
      simp [e, hc1]
    · simp [e, e1]
theorem LR.store2 {as : List Nat} {sb n : Nat} {ls : List Value} {L L' : Array Slot} {i : Nat} {v w : Value} (h : LR as sb n ls L) (hi : i + 1 < n) (hv : VR as sb v w) (ho : okS ls i = true) (hw : ∀ (j : Nat) (u : Value), ls[j]? = some u → okV u = true)
    (h2 : lv_has L' n ((i, w) :: (lsVals L).filter (fun q => !(q.1 == i) && (!(q.1 == i + 1) && !(q.1 + 1 == i && q.2.category == 2))))) : LR as sb n ((ls.set i v).set (i + 1) vU) L' := by
  refine ⟨by rw [List.length_set, List.length_set]; exact h.1, h2.1, h2.2.1, fun j u hj hu => ?_⟩
  by_cases e2 : j = i + 1
  · subst e2
    rw [List.getElem?_set_self (by rw [List.length_set, h.1]; exact hi)] at hj
    cases hj
    exact absurd rfl hu
  · rw [List.getElem?_set_ne (Ne.symm e2)] at hj
    by_cases e : j = i
    · subst e
      rw [List.getElem?_set_self (by rw [h.1]; omega)] at hj
      cases hj
      exact ⟨w, h2.2.2 (j, w) List.mem_cons_self, hv⟩
    · rw [List.getElem?_set_ne (Ne.symm e)] at hj
      obtain ⟨x, h3, h4⟩ := h.2.2.2 j u hj hu
      refine ⟨x, h2.2.2 (j, x) (List.mem_cons_of_mem _ (List.mem_filter.mpr ⟨lsVals_in.mpr h3, ?_⟩)), h4⟩
      by_cases e1 : j + 1 = i
      · subst e1
        have hc := h4.cat hu (fun k hk => by
          have h5 := hw j u hj
          rw [hk] at h5 hu
          have h6 : k ≤ 2 := by simpa [okV] using h5
          have h7 : k ≠ 2 := fun q => hu (by rw [q])
          omega)
        have h8 : wide u = false := by
          have : okS ls (j + 1) = (match ls[j]? with | some v => !wide v | none => true) := rfl
          rw [this, hj] at ho
          simpa using ho
        rw [h8] at hc
        have hc1 : x.category = 1 := hc
        simp [e, e2, hc1]
      · simp [e, e1, e2]
theorem okL_at {ls : List Value} (h : okL ls = true) : ∀ (j : Nat) (u : Value), ls[j]? = some u → okV u = true := fun j u hj => List.all_eq_true.mp h u (List.mem_of_getElem? hj)
/-! cells -/
abbrev AC : Type := vp_A ⊕ (Nat × List Value)
abbrev AH : Type := List AC
abbrev TC : Type := ClassId × ClassId × ClassId
def tys3 (tc : TC) : List (ClassId × FieldType) := [(tc.1, .int), (tc.2.1, .long), (tc.2.2, .array .int)]
abbrev cls5 : List vw_C := [(RX0, TX0, 3), (RX1, TX1, 17), (RX2, TX2, 2), (RX3, TX3, 18), (RX4, TX4, 9)]
def RF (as : List Nat) : Option Nat → Option Nat → Prop
  | none, g => g = none
  | some i, g => ∃ a, as[i]? = some a ∧ g = some a
def CR (as : List Nat) (tc : TC) : AC → va_E → Prop
  | .inl (n, .inl f), e => e = .inl (tc.1, n, .inl f)
  | .inl (n, .inr (.inl f)), e => e = .inl (tc.2.1, n, .inr (.inl f))
  | .inl (n, .inr (.inr (.inr (.inr f)))), e => ∃ g, e = .inl (tc.2.2, n, .inr (.inr (.inr (.inr g)))) ∧ ∀ j, j < n → RF as (f j) (g j)
  | .inr (ci, fs), e => ∃ vs, e = .inr (ci, vs) ∧ vs.length = fs.length ∧ ∀ (k : Nat) (v : Value), fs[k]? = some v → ∃ w, vs[k]? = some w ∧ VF as v w
  | _, _ => False
theorem RF.gr {as as' : List Nat} {x y : Option Nat} (g : Gr as as') (h : RF as x y) : RF as' x y := by
  cases x with
  | none => exact h
  | some i => obtain ⟨a, h1, h2⟩ := h; exact ⟨a, g _ _ h1, h2⟩
theorem CR.gr {as as' : List Nat} {tc : TC} {c : AC} {e : va_E} (g : Gr as as') (h : CR as tc c e) : CR as' tc c e := by
  rcases c with ⟨n, f | f | f | f | f⟩ | ⟨ci, fs⟩
  · exact h
  · exact h
  · exact h
  · exact h
  · obtain ⟨q, h1, h2⟩ := h
    exact ⟨q, h1, fun j hj => RF.gr g (h2 j hj)⟩
  · obtain ⟨vs, h1, h2, h3⟩ := h
    exact ⟨vs, h1, h2, fun k v hk => by obtain ⟨w, h4, h5⟩ := h3 k v hk; exact ⟨w, h4, VF.gr g h5⟩⟩
def HR (as : List Nat) (tc : TC) (h : AH) (ws : va_W) : Prop :=
  as.length = h.length ∧ ws.length = h.length ∧ ∀ (i : Nat) (c : AC), h[i]? = some c → ∃ (a : Nat) (e : va_E), as[i]? = some a ∧ ws[i]? = some (a, e) ∧ CR as tc c e
theorem HR.set {as : List Nat} {tc : TC} {h : AH} {ws : va_W} {i a : Nat} {c : AC} {e : va_E} (hr : HR as tc h ws) (ha : as[i]? = some a) (hc : CR as tc c e) : HR as tc (h.set i c) (ws.set i (a, e)) := by
  have hi : i < h.length := by rw [← hr.1]; exact (List.getElem?_eq_some_iff.mp ha).1
  refine ⟨by rw [List.length_set]; exact hr.1, by rw [List.length_set, List.length_set]; exact hr.2.1, fun j c' hj => ?_⟩
  by_cases e1 : j = i
  · subst e1
    rw [List.getElem?_set_self hi] at hj
    cases hj
    exact ⟨a, e, ha, List.getElem?_set_self (by rw [hr.2.1]; exact hi), hc⟩
  · rw [List.getElem?_set_ne (Ne.symm e1)] at hj
    obtain ⟨a', e', h1, h2, h3⟩ := hr.2.2 j c' hj
    exact ⟨a', e', h1, by rw [List.getElem?_set_ne (Ne.symm e1)]; exact h2, h3⟩
theorem HR.push {as : List Nat} {tc : TC} {h : AH} {ws : va_W} {a : Nat} {c : AC} {e : va_E} (hr : HR as tc h ws) (hc : CR as tc c e) : HR (as ++ [a]) tc (h ++ [c]) (ws ++ [(a, e)]) := by
  refine ⟨by simp [hr.1], by simp [hr.2.1], fun j c' hj => ?_⟩
  by_cases hl : j < h.length
  · rw [List.getElem?_append_left hl] at hj
    obtain ⟨a', e', h1, h2, h3⟩ := hr.2.2 j c' hj
    refine ⟨a', e', Gr.app _ _ _ _ h1, ?_, CR.gr (Gr.app _ _) h3⟩
    rw [List.getElem?_append_left (by rw [hr.2.1]; exact hl)]
    exact h2
  · have hlt := (List.getElem?_eq_some_iff.mp hj).1
    rw [List.length_append] at hlt
    have : j = h.length := by simp at hlt; omega
    subst this
    rw [List.getElem?_append_right (Nat.le_refl _), Nat.sub_self] at hj
    cases hj
    refine ⟨a, e, ?_, ?_, CR.gr (Gr.app _ _) hc⟩
    · rw [← hr.1, List.getElem?_append_right (Nat.le_refl _), Nat.sub_self]; rfl
    · rw [← hr.2.1, List.getElem?_append_right (Nat.le_refl _), Nat.sub_self]; rfl
/-! what else holds at every call: the throwables' statics, the texts, the nest mates' words -/
def isNest : Cond → Bool
  | .fieldLinkNest .. => true
  | .methodLinkNest .. => true
  | .declares _ => true
  | .castable .. => true
  | _ => false
def nestW : List Cond := lw_tbl.filter isNest
def exNames : List String := ["java/lang/IllegalArgumentException", "java/lang/IllegalStateException", "java/lang/IndexOutOfBoundsException"]
def EX (A : Nat → Prop) (U : State) (H : Heap) : Prop :=
  vx_Zq Bundle.tN "UNASSIGNED_STACK" Bundle.steD A U H ∧ vx_Zq Bundle.tN "SUPPRESSED_SENTINEL" Bundle.listD A U H ∧
  (∃ a, vk_R RX2 172 "an argument is out of its range" a U) ∧ (∃ a, vk_R RX2 177 "this can not be done now" a U) ∧ (∃ a, vk_R RX2 165 "there is no such number" a U) ∧
  (∀ w ∈ nestW, va_Nw w U) ∧ va_AOA .int U ∧ (∀ a ∈ exNames, ∀ b ∈ exNames, a ≠ b → va_Nc a b U) ∧ (∀ a ∈ exNames, va_Nw (.castable a a) U)
theorem nest_warm {w : Cond} {s U : State} (hn : isNest w = true) (hW : s.WarmedH U.vm) (h : va_Nw w s) : va_Nw w U := by
  cases w <;> first | exact va_Nw.warmF hW h | exact va_Nw.warmM hW h | exact va_Nw.warmD hW h | exact va_Nw.warmC hW h | (exfalso; revert hn; simp [isNest])
theorem va_AOA.moved {ty : FieldType} {u U : State} (hvm : u.vm.Alike U.vm) (h : va_AOA ty u) : va_AOA ty U := by
  unfold va_AOA Cond.before Cond.holds at h
  simp only [Cond.value, beq_iff_eq] at h
  cases hc : u.vm.findClass (FieldType.array ty).toString with
  | none => simp [hc] at h
  | some comp =>
    simp only [hc, Option.bind_some, Option.bind_eq_some_iff, Option.map_eq_some_iff] at h
    obtain ⟨c, hi, k, hk, hb⟩ := h
    obtain ⟨k', hk', he⟩ := hvm.2.2 _ _ hk
    have hi' : (U.vm.classes.findIdx? fun (x : Class) => match x.kind with | .array component _ => component == comp | _ => false) = some c := by
      have e1 := va_idx_bare U.vm comp
      have e2 := va_idx_bare u.vm comp
      have e3 : U.vm.bare = u.vm.bare := by first | exact hvm.bare_eq | exact hvm.bare_eq.symm
      rw [e3] at e1
      exact e1.symm.trans (e2.trans hi)
    have f1 : U.vm.findClass (FieldType.array ty).toString = some comp := by rw [hvm.findClass]; exact hc
    have hkind : k'.kind = k.kind := by rw [he]
    unfold va_AOA Cond.before Cond.holds
    simp only [Cond.value]
    rw [f1, Option.bind_some]
    refine (congrArg (fun o : Option Nat => (o.bind (fun c => (U.vm.classes[c]?).map fun (k : Class) => match k.kind with | .array _ ty' => decide (ty' = FieldType.array ty) && decide (U.vm.findClass ("[" ++ (FieldType.array ty).toString) = some c) | _ => false) == some true)) hi').trans ?_
    simp only [Option.bind_some, hk', Option.map_some, hkind, hvm.findClass]
    rw [beq_iff_eq]
    exact congrArg some hb
theorem EX.go {A B : Nat → Prop} {s U : State} {H : Heap} (h : EX A s s.heap) (hW : s.WarmedH U.vm) (hk : ∀ q, q < s.heap.size → ¬ A q → H[q]? = s.heap[q]?) (hAB : ∀ q, B q → A q) : EX B U H := by
  obtain ⟨h1, h2, ⟨a1, h3⟩, ⟨a2, h4⟩, ⟨a3, h5⟩, h6, h7, h8, h9⟩ := h
  refine ⟨((vx_Zq.moved hW.alike h1).kept hk).narrow hAB, ((vx_Zq.moved hW.alike h2).kept hk).narrow hAB, ⟨a1, vk_R.warm hW h3⟩, ⟨a2, vk_R.warm hW h4⟩, ⟨a3, vk_R.warm hW h5⟩, fun w hw => nest_warm (List.mem_filter.mp hw).2 hW (h6 w hw), va_AOA.moved hW.alike h7, fun a ha b hb hab => va_Nc.moved hW.alike (h8 a ha b hb hab), fun a ha => va_Nw.warmC hW (h9 a ha)⟩
/-! the judgement -/
abbrev AO : Type := Option Value ⊕ String
def Cx (d : Nat) (M : MD) (p : Program) (l : Launch) (R : Room) (s : State) (m : MethodId) (args : Array Value) (meth : Method) (c : Code) : Prop :=
  p.tables.exec = Jvm.exec ∧ c.code = mdB M ∧ c.maxLocals = mdL M ∧ meth.sig.returnType = mdR M ∧ s.vm.findClass (mdY M).cls = some m.cls ∧ (∀ w ∈ wsAll, w.before args s = true) ∧ meth.locks = false ∧ meth.name = (mdY M).name ∧ l.stackTraces = false ∧ c.exceptionTable.toList = tableOf (mdH M) ∧ d ≤ R.frames ∧ 35 * d ≤ R.locals
def Ix (D : va_G) (tc : TC) (A : Nat → Prop) (s : State) (as : List Nat) (h : AH) (ws : va_W) (H : Heap) (locs : List Loc) : Prop :=
  va_K D cls5 (tys3 tc) s ∧ EX A s s.heap ∧ (∀ q, s.heap.size ≤ q → A q) ∧ HR as tc h ws ∧ va_P D cls5 ws H ∧ va_D A ws ∧ va_S A s.heap H locs
def Sx (z : Option (Nat × (Nat → Int32))) (sb : Nat) (A : Nat → Prop) (s : State) : Prop := ∀ L xs, z = some (L, xs) → va_X sb L xs s s.heap ∧ sb < s.heap.size ∧ ¬ A sb
def OV (as : List Nat) : Option Value → Option Value → Prop
  | none, w => w = none
  | some v, w => ∃ x, w = some x ∧ VF as v x
def retAt (M : MD) (pc : Nat) : Option Value → Prop
  | none => decode (mdB M) pc = .ok (.return_, 1) ∧ mdR M = none
  | some (.int x) => decode (mdB M) pc = .ok (.ireturn, 1) ∧ ∃ ty, mdR M = some ty ∧ narrow ty (.int x) = .int x
  | some (.long _) => decode (mdB M) pc = .ok (.lreturn, 1) ∧ mdR M = some .long
  | some (.double _) => decode (mdB M) pc = .ok (.dreturn, 1) ∧ mdR M = some .double
  | some (.ref _) => decode (mdB M) pc = .ok (.areturn, 1) ∧ ∃ rt, mdR M = some rt ∧ ((∃ n, rt = .object n) ∨ ∃ t, rt = .array t)
  | _ => False
def Kr (M : MD) (P : AO → AH → Prop) (D : va_G) (tc : TC) (A : Nat → Prop) (p : Program) (l : Launch) (e : Env) (R : Room) (s : State) (m : MethodId) (args : Array Value) (below : List Frame) (meth : Method) (c : Code) (as : List Nat) (Q : State → Prop) : Prop :=
  ∀ (H : Heap) (locs : List Loc) (cells slots : Nat) (as' : List Nat) (h : AH) (ws : va_W) (pc : Nat) (L : Array Slot) (av vv : Option Value),
    P (.inl av) h → Gr as as' → Ix D tc A s as' h ws H locs → cells ≤ R.cells → slots ≤ R.slots → OV as' av vv → retAt M pc av →
    W p l e R s m args below meth c H locs cells slots Q (F0 m pc L vv.toList)
def Kt (M : MD) (P : AO → AH → Prop) (D : va_G) (tc : TC) (A : Nat → Prop) (p : Program) (l : Launch) (e : Env) (R : Room) (s : State) (m : MethodId) (args : Array Value) (below : List Frame) (meth : Method) (c : Code) (as : List Nat) (Q : State → Prop) : Prop :=
  ∀ (H : Heap) (locs : List Loc) (cells slots : Nat) (as' : List Nat) (h : AH) (ws : va_W) (pc : Nat) (L : Array Slot) (rest : List Value) (E : String) (ce : Cell) (q : Addr),
    P (.inr E) h → Gr as as' → Ix D tc A s as' h ws H locs → cells ≤ R.cells → slots ≤ R.slots → H[q]? = some ce → ce.vm = .none → s.vm.findClass E = some ce.cls → (∀ x ∈ tableOf (mdH M), covers x pc = false) →
    vx_W p l e R s m args below meth c H locs cells slots Q (F0 m pc L rest) q
def WP (d : Nat) (M : MD) (z : Option (Nat × (Nat → Int32))) (k n pc : Nat) (ls st : List Value) (h : AH) (P : AO → AH → Prop) : Prop :=
  ∀ ⦃p : Program⦄ ⦃l : Launch⦄ ⦃e : Env⦄ ⦃R : Room⦄ ⦃s : State⦄ ⦃m : MethodId⦄ ⦃args : Array Value⦄ ⦃below : List Frame⦄ ⦃meth : Method⦄ ⦃c : Code⦄ ⦃D : va_G⦄ ⦃tc : TC⦄ ⦃A : Nat → Prop⦄ ⦃H : Heap⦄ ⦃locs : List Loc⦄ ⦃cells slots : Nat⦄ ⦃as : List Nat⦄ ⦃ws : va_W⦄ ⦃L : Array Slot⦄ ⦃sv : List Value⦄ ⦃sb : Nat⦄ ⦃Q : State → Prop⦄,
    Cx d M p l R s m args meth c → Ix D tc A s as h ws H locs → Sx z sb A s → LR as sb (mdL M) ls L → SR as sb st sv → cells + k ≤ R.cells → slots + n ≤ R.slots →
    Kr M P D tc A p l e R s m args below meth c as Q → Kt M P D tc A p l e R s m args below meth c as Q →
    W p l e R s m args below meth c H locs cells slots Q (F0 m pc L sv)
/-- the same, with E thrown over the frame -/
def WX (d : Nat) (M : MD) (z : Option (Nat × (Nat → Int32))) (k n pc : Nat) (ls : List Value) (E : String) (h : AH) (P : AO → AH → Prop) : Prop :=
  ∀ ⦃p : Program⦄ ⦃l : Launch⦄ ⦃e : Env⦄ ⦃R : Room⦄ ⦃s : State⦄ ⦃m : MethodId⦄ ⦃args : Array Value⦄ ⦃below : List Frame⦄ ⦃meth : Method⦄ ⦃c : Code⦄ ⦃D : va_G⦄ ⦃tc : TC⦄ ⦃A : Nat → Prop⦄ ⦃H : Heap⦄ ⦃locs : List Loc⦄ ⦃cells slots : Nat⦄ ⦃as : List Nat⦄ ⦃ws : va_W⦄ ⦃L : Array Slot⦄ ⦃rest : List Value⦄ ⦃sb : Nat⦄ ⦃Q : State → Prop⦄ ⦃ce : Cell⦄ ⦃q : Addr⦄,
    Cx d M p l R s m args meth c → Ix D tc A s as h ws H locs → Sx z sb A s → LR as sb (mdL M) ls L → cells + k ≤ R.cells → slots + n ≤ R.slots →
    Kr M P D tc A p l e R s m args below meth c as Q → Kt M P D tc A p l e R s m args below meth c as Q → H[q]? = some ce → ce.vm = .none → s.vm.findClass E = some ce.cls →
    vx_W p l e R s m args below meth c H locs cells slots Q (F0 m pc L rest) q
theorem Kr.gr {M : MD} {P : AO → AH → Prop} {D : va_G} {tc : TC} {A : Nat → Prop} {p : Program} {l : Launch} {e : Env} {R : Room} {s : State} {m : MethodId} {args : Array Value} {below : List Frame} {meth : Method} {c : Code} {as as' : List Nat} {Q : State → Prop}
    (g : Gr as as') (h : Kr M P D tc A p l e R s m args below meth c as Q) : Kr M P D tc A p l e R s m args below meth c as' Q := fun H locs cells slots as2 h2 ws pc L av vv h1 g2 => h H locs cells slots as2 h2 ws pc L av vv h1 (g.tr g2)
theorem Kt.gr {M : MD} {P : AO → AH → Prop} {D : va_G} {tc : TC} {A : Nat → Prop} {p : Program} {l : Launch} {e : Env} {R : Room} {s : State} {m : MethodId} {args : Array Value} {below : List Frame} {meth : Method} {c : Code} {as as' : List Nat} {Q : State → Prop}
    (g : Gr as as') (h : Kt M P D tc A p l e R s m args below meth c as Q) : Kt M P D tc A p l e R s m args below meth c as' Q := fun H locs cells slots as2 h2 ws pc L rest E ce q h1 g2 => h H locs cells slots as2 h2 ws pc L rest E ce q h1 (g.tr g2)
end
section
section ROWS
variable {d : Nat} {M : MD} {z : Option (Nat × (Nat → Int32))} {k n pc : Nat} {ls st : List Value} {h : AH} {P : AO → AH → Prop}
theorem w_iconst {i : Int} {v : Int32} (hd : decode (mdB M) pc = .ok (.iconst i, 1)) (hv : Int32.ofInt i = v) (kk : WP d M z k n (pc + 1) ls (.int v :: st) h P) : WP d M z k n pc ls st h P := by
  intro p l e R s m args below meth c D tc A H locs cells slots as ws L sv sb Q hC hI hX hL hS hc hs hr ht
  exact lv_iconst hC.1 hC.2.1 hd hv (kk hC hI hX hL ⟨rfl, hS⟩ hc hs hr ht)
theorem w_bipush {i : Int} {v : Int32} (hd : decode (mdB M) pc = .ok (.bipush i, 2)) (hv : (Int8.ofInt i).toInt32 = v) (kk : WP d M z k n (pc + 2) ls (.int v :: st) h P) : WP d M z k n pc ls st h P := by
  intro p l e R s m args below meth c D tc A H locs cells slots as ws L sv sb Q hC hI hX hL hS hc hs hr ht
  exact lv_bipush hC.1 hC.2.1 hd hv (kk hC hI hX hL ⟨rfl, hS⟩ hc hs hr ht)
theorem w_sipush {i : Int} {v : Int32} (hd : decode (mdB M) pc = .ok (.sipush i, 3)) (hv : (Int16.ofInt i).toInt32 = v) (kk : WP d M z k n (pc + 3) ls (.int v :: st) h P) : WP d M z k n pc ls st h P := by
  intro p l e R s m args below meth c D tc A H locs cells slots as ws L sv sb Q hC hI hX hL hS hc hs hr ht
  exact lv_sipush hC.1 hC.2.1 hd hv (kk hC hI hX hL ⟨rfl, hS⟩ hc hs hr ht)
theorem w_dconst0  (hd : decode (mdB M) pc = .ok (.dconst 0, 1)) (kk : WP d M z k n (pc + 1) ls (.double FP.dconst0 :: st) h P) : WP d M z k n pc ls st h P := by
  intro p l e R s m args below meth c D tc A H locs cells slots as ws L sv sb Q hC hI hX hL hS hc hs hr ht
  exact lv_dconst0 hC.1 hC.2.1 hd (kk hC hI hX hL ⟨rfl, hS⟩ hc hs hr ht)
theorem w_ldc {i : Nat} {v : Int32} (hd : decode (mdB M) pc = .ok (.ldc i, 2)) (hw : Cond.constant (mdY M).cls i v ∈ wsAll) (kk : WP d M z k n (pc + 2) ls (.int v :: st) h P) : WP d M z k n pc ls st h P := by
  intro p l e R s m args below meth c D tc A H locs cells slots as ws L sv sb Q hC hI hX hL hS hc hs hr ht
  exact lv_ldc hC.1 hC.2.1 hC.2.2.2.2.1 (hC.2.2.2.2.2.1 _ hw) hd (kk hC hI hX hL ⟨rfl, hS⟩ hc hs hr ht)
theorem w_ldc2 {i : Nat} {v : Int64} (hd : decode (mdB M) pc = .ok (.ldc2_w i, 3)) (hw : Cond.constantLong (mdY M).cls i v ∈ wsAll) (kk : WP d M z k n (pc + 3) ls (.long v :: st) h P) : WP d M z k n pc ls st h P := by
  intro p l e R s m args below meth c D tc A H locs cells slots as ws L sv sb Q hC hI hX hL hS hc hs hr ht
  exact lv_ldc2 hC.1 hC.2.1 hC.2.2.2.2.1 (hC.2.2.2.2.2.1 _ hw) hd (kk hC hI hX hL ⟨rfl, hS⟩ hc hs hr ht)
theorem w_iload_n {i : Nat} {j : Fin 4} {x : Int32} (hd : decode (mdB M) pc = .ok (.iload_n j, 1)) (hi : (j : Nat) = i) (hv : ls[i]? = some (.int x)) (kk : WP d M z k n (pc + 1) ls (.int x :: st) h P) : WP d M z k n pc ls st h P := by
  intro p l e R s m args below meth c D tc A H locs cells slots as ws L sv sb Q hC hI hX hL hS hc hs hr ht
  obtain ⟨w, h1, h2⟩ := hL.2.2.2 i _ hv (by intro q; cases q)
  cases h2
  exact lv_iload_n hC.1 hC.2.1 hd hi h1 (kk hC hI hX hL ⟨rfl, hS⟩ hc hs hr ht)
theorem w_iload {i : Nat} {x : Int32} (hd : decode (mdB M) pc = .ok (.iload i, 2)) (hv : ls[i]? = some (.int x)) (kk : WP d M z k n (pc + 2) ls (.int x :: st) h P) : WP d M z k n pc ls st h P := by
  intro p l e R s m args below meth c D tc A H locs cells slots as ws L sv sb Q hC hI hX hL hS hc hs hr ht
  obtain ⟨w, h1, h2⟩ := hL.2.2.2 i _ hv (by intro q; cases q)
  cases h2
  exact lv_iload hC.1 hC.2.1 hd h1 (kk hC hI hX hL ⟨rfl, hS⟩ hc hs hr ht)
theorem w_lload_n {i : Nat} {j : Fin 4} {x : Int64} (hd : decode (mdB M) pc = .ok (.lload_n j, 1)) (hi : (j : Nat) = i) (hv : ls[i]? = some (.long x)) (kk : WP d M z k n (pc + 1) ls (.long x :: st) h P) : WP d M z k n pc ls st h P := by
  intro p l e R s m args below meth c D tc A H locs cells slots as ws L sv sb Q hC hI hX hL hS hc hs hr ht
  obtain ⟨w, h1, h2⟩ := hL.2.2.2 i _ hv (by intro q; cases q)
  cases h2
  exact lv_lload_n hC.1 hC.2.1 hd hi h1 (kk hC hI hX hL ⟨rfl, hS⟩ hc hs hr ht)
theorem w_lload {i : Nat} {x : Int64} (hd : decode (mdB M) pc = .ok (.lload i, 2)) (hv : ls[i]? = some (.long x)) (kk : WP d M z k n (pc + 2) ls (.long x :: st) h P) : WP d M z k n pc ls st h P := by
  intro p l e R s m args below meth c D tc A H locs cells slots as ws L sv sb Q hC hI hX hL hS hc hs hr ht
  obtain ⟨w, h1, h2⟩ := hL.2.2.2 i _ hv (by intro q; cases q)
  cases h2
  exact lv_lload hC.1 hC.2.1 hd h1 (kk hC hI hX hL ⟨rfl, hS⟩ hc hs hr ht)
theorem w_dload_n {i : Nat} {j : Fin 4} {x : UInt64} (hd : decode (mdB M) pc = .ok (.dload_n j, 1)) (hi : (j : Nat) = i) (hv : ls[i]? = some (.double x)) (kk : WP d M z k n (pc + 1) ls (.double x :: st) h P) : WP d M z k n pc ls st h P := by
  intro p l e R s m args below meth c D tc A H locs cells slots as ws L sv sb Q hC hI hX hL hS hc hs hr ht
  obtain ⟨w, h1, h2⟩ := hL.2.2.2 i _ hv (by intro q; cases q)
  cases h2
  exact lv_dload_n hC.1 hC.2.1 hd hi h1 (kk hC hI hX hL ⟨rfl, hS⟩ hc hs hr ht)
theorem w_dload {i : Nat} {x : UInt64} (hd : decode (mdB M) pc = .ok (.dload i, 2)) (hv : ls[i]? = some (.double x)) (kk : WP d M z k n (pc + 2) ls (.double x :: st) h P) : WP d M z k n pc ls st h P := by
  intro p l e R s m args below meth c D tc A H locs cells slots as ws L sv sb Q hC hI hX hL hS hc hs hr ht
  obtain ⟨w, h1, h2⟩ := hL.2.2.2 i _ hv (by intro q; cases q)
  cases h2
  exact lv_dload hC.1 hC.2.1 hd h1 (kk hC hI hX hL ⟨rfl, hS⟩ hc hs hr ht)
theorem w_aload_n {i : Nat} {j : Fin 4} {x : Nat} (hd : decode (mdB M) pc = .ok (.aload_n j, 1)) (hi : (j : Nat) = i) (hv : ls[i]? = some (.ref x)) (kk : WP d M z k n (pc + 1) ls (.ref x :: st) h P) : WP d M z k n pc ls st h P := by
  intro p l e R s m args below meth c D tc A H locs cells slots as ws L sv sb Q hC hI hX hL hS hc hs hr ht
  obtain ⟨w, h1, h2⟩ := hL.2.2.2 i _ hv (by intro q; cases q)
  obtain ⟨a, h3, rfl⟩ := h2
  exact lv_aload_n hC.1 hC.2.1 hd hi h1 (kk hC hI hX hL ⟨⟨a, h3, rfl⟩, hS⟩ hc hs hr ht)
theorem w_aload {i : Nat} {x : Nat} (hd : decode (mdB M) pc = .ok (.aload i, 2)) (hv : ls[i]? = some (.ref x)) (kk : WP d M z k n (pc + 2) ls (.ref x :: st) h P) : WP d M z k n pc ls st h P := by
  intro p l e R s m args below meth c D tc A H locs cells slots as ws L sv sb Q hC hI hX hL hS hc hs hr ht
  obtain ⟨w, h1, h2⟩ := hL.2.2.2 i _ hv (by intro q; cases q)
  obtain ⟨a, h3, rfl⟩ := h2
  exact lv_aload hC.1 hC.2.1 hd h1 (kk hC hI hX hL ⟨⟨a, h3, rfl⟩, hS⟩ hc hs hr ht)
theorem w_aload_s {i : Nat} {j : Fin 4} (hd : decode (mdB M) pc = .ok (.aload_n j, 1)) (hi : (j : Nat) = i) (hv : ls[i]? = some vScr) (kk : WP d M z k n (pc + 1) ls (vScr :: st) h P) : WP d M z k n pc ls st h P := by
  intro p l e R s m args below meth c D tc A H locs cells slots as ws L sv sb Q hC hI hX hL hS hc hs hr ht
  obtain ⟨w, h1, h2⟩ := hL.2.2.2 i _ hv (by intro q; cases q)
  have h3 := h2.2 rfl
  subst h3
  exact lv_aload_n hC.1 hC.2.1 hd hi h1 (kk hC hI hX hL ⟨⟨fun q => absurd q (by decide), fun _ => rfl⟩, hS⟩ hc hs hr ht)
theorem w_istore_n {i : Nat} {j : Fin 4} {x : Int32} (hd : decode (mdB M) pc = .ok (.istore_n j, 1)) (hi : (j : Nat) = i) (hb : i < mdL M) (ho : okS ls i = true) (hw : okL ls = true) {ls' : List Value} (hl : (ls.set i (.int x)) = ls') (kk : WP d M z k n (pc + 1) ls' st h P) : WP d M z k n pc ls (.int x :: st) h P := by
  subst hl
  intro p l e R s m args below meth c D tc A H locs cells slots as ws L sv sb Q hC hI hX hL hS hc hs hr ht
  obtain ⟨_, _, rfl, e0, hS0⟩ := hS.c
  cases e0
  exact lv_istore_n hC.1 hC.2.1 hd hi hL.has hb rfl (fun L' h2 => kk hC hI hX (hL.store1 hb rfl ho (okL_at hw) h2) hS0 hc hs hr ht)
theorem w_istore {i : Nat} {x : Int32} (hd : decode (mdB M) pc = .ok (.istore i, 2)) (hb : i < mdL M) (ho : okS ls i = true) (hw : okL ls = true) {ls' : List Value} (hl : (ls.set i (.int x)) = ls') (kk : WP d M z k n (pc + 2) ls' st h P) : WP d M z k n pc ls (.int x :: st) h P := by
  subst hl
  intro p l e R s m args below meth c D tc A H locs cells slots as ws L sv sb Q hC hI hX hL hS hc hs hr ht
  obtain ⟨_, _, rfl, e0, hS0⟩ := hS.c
  cases e0
  exact lv_istore hC.1 hC.2.1 hd hL.has hb rfl (fun L' h2 => kk hC hI hX (hL.store1 hb rfl ho (okL_at hw) h2) hS0 hc hs hr ht)
theorem w_lstore_n {i : Nat} {j : Fin 4} {x : Int64} (hd : decode (mdB M) pc = .ok (.lstore_n j, 1)) (hi : (j : Nat) = i) (hb : i + 1 < mdL M) (ho : okS ls i = true) (hw : okL ls = true) {ls' : List Value} (hl : ((ls.set i (.long x)).set (i + 1) vU) = ls') (kk : WP d M z k n (pc + 1) ls' st h P) : WP d M z k n pc ls (.long x :: st) h P := by
  subst hl
  intro p l e R s m args below meth c D tc A H locs cells slots as ws L sv sb Q hC hI hX hL hS hc hs hr ht
  obtain ⟨_, _, rfl, e0, hS0⟩ := hS.c
  cases e0
  exact lv_lstore_n hC.1 hC.2.1 hd hi hL.has hb rfl (fun L' h2 => kk hC hI hX (hL.store2 hb rfl ho (okL_at hw) h2) hS0 hc hs hr ht)
theorem w_lstore {i : Nat} {x : Int64} (hd : decode (mdB M) pc = .ok (.lstore i, 2)) (hb : i + 1 < mdL M) (ho : okS ls i = true) (hw : okL ls = true) {ls' : List Value} (hl : ((ls.set i (.long x)).set (i + 1) vU) = ls') (kk : WP d M z k n (pc + 2) ls' st h P) : WP d M z k n pc ls (.long x :: st) h P := by
  subst hl
  intro p l e R s m args below meth c D tc A H locs cells slots as ws L sv sb Q hC hI hX hL hS hc hs hr ht
  obtain ⟨_, _, rfl, e0, hS0⟩ := hS.c
  cases e0
  exact lv_lstore hC.1 hC.2.1 hd hL.has hb rfl (fun L' h2 => kk hC hI hX (hL.store2 hb rfl ho (okL_at hw) h2) hS0 hc hs hr ht)
theorem w_dstore_n {i : Nat} {j : Fin 4} {x : UInt64} (hd : decode (mdB M) pc = .ok (.dstore_n j, 1)) (hi : (j : Nat) = i) (hb : i + 1 < mdL M) (ho : okS ls i = true) (hw : okL ls = true) {ls' : List Value} (hl : ((ls.set i (.double x)).set (i + 1) vU) = ls') (kk : WP d M z k n (pc + 1) ls' st h P) : WP d M z k n pc ls (.double x :: st) h P := by
  subst hl
  intro p l e R s m args below meth c D tc A H locs cells slots as ws L sv sb Q hC hI hX hL hS hc hs hr ht
  obtain ⟨_, _, rfl, e0, hS0⟩ := hS.c
  cases e0
  exact lv_dstore_n hC.1 hC.2.1 hd hi hL.has hb rfl (fun L' h2 => kk hC hI hX (hL.store2 hb rfl ho (okL_at hw) h2) hS0 hc hs hr ht)
theorem w_dstore {i : Nat} {x : UInt64} (hd : decode (mdB M) pc = .ok (.dstore i, 2)) (hb : i + 1 < mdL M) (ho : okS ls i = true) (hw : okL ls = true) {ls' : List Value} (hl : ((ls.set i (.double x)).set (i + 1) vU) = ls') (kk : WP d M z k n (pc + 2) ls' st h P) : WP d M z k n pc ls (.double x :: st) h P := by
  subst hl
  intro p l e R s m args below meth c D tc A H locs cells slots as ws L sv sb Q hC hI hX hL hS hc hs hr ht
  obtain ⟨_, _, rfl, e0, hS0⟩ := hS.c
  cases e0
  exact lv_dstore hC.1 hC.2.1 hd hL.has hb rfl (fun L' h2 => kk hC hI hX (hL.store2 hb rfl ho (okL_at hw) h2) hS0 hc hs hr ht)
theorem w_astore_n {i : Nat} {j : Fin 4} {x : Nat} (hd : decode (mdB M) pc = .ok (.astore_n j, 1)) (hi : (j : Nat) = i) (hb : i < mdL M) (ho : okS ls i = true) (hw : okL ls = true) {ls' : List Value} (hl : (ls.set i (.ref x)) = ls') (kk : WP d M z k n (pc + 1) ls' st h P) : WP d M z k n pc ls (.ref x :: st) h P := by
  subst hl
  intro p l e R s m args below meth c D tc A H locs cells slots as ws L sv sb Q hC hI hX hL hS hc hs hr ht
  obtain ⟨_, _, rfl, e0, hS0⟩ := hS.c
  obtain ⟨a, h3, rfl⟩ := e0
  exact lv_astore_n hC.1 hC.2.1 hd hi hL.has hb rfl (fun L' h2 => kk hC hI hX (hL.store1 hb ⟨a, h3, rfl⟩ ho (okL_at hw) h2) hS0 hc hs hr ht)
theorem w_astore {i : Nat} {x : Nat} (hd : decode (mdB M) pc = .ok (.astore i, 2)) (hb : i < mdL M) (ho : okS ls i = true) (hw : okL ls = true) {ls' : List Value} (hl : (ls.set i (.ref x)) = ls') (kk : WP d M z k n (pc + 2) ls' st h P) : WP d M z k n pc ls (.ref x :: st) h P := by
  subst hl
  intro p l e R s m args below meth c D tc A H locs cells slots as ws L sv sb Q hC hI hX hL hS hc hs hr ht
  obtain ⟨_, _, rfl, e0, hS0⟩ := hS.c
  obtain ⟨a, h3, rfl⟩ := e0
  exact lv_astore hC.1 hC.2.1 hd hL.has hb rfl (fun L' h2 => kk hC hI hX (hL.store1 hb ⟨a, h3, rfl⟩ ho (okL_at hw) h2) hS0 hc hs hr ht)
theorem w_astore_x_n {i : Nat} {j : Fin 4} (hd : decode (mdB M) pc = .ok (.astore_n j, 1)) (hi : (j : Nat) = i) (hb : i < mdL M) (ho : okS ls i = true) (hw : okL ls = true) {ls' : List Value} (hl : ls.set i vX = ls') (kk : WP d M z k n (pc + 1) ls' st h P) : WP d M z k n pc ls (vX :: st) h P := by
  subst hl
  intro p l e R s m args below meth c D tc A H locs cells slots as ws L sv sb Q hC hI hX hL hS hc hs hr ht
  obtain ⟨_, _, rfl, e0, hS0⟩ := hS.c
  obtain ⟨q, rfl⟩ := e0.1 rfl
  exact lv_astore_n hC.1 hC.2.1 hd hi hL.has hb rfl (fun L' h2 => kk hC hI hX (hL.store1 hb ⟨fun _ => ⟨q, rfl⟩, fun q => absurd q (by decide)⟩ ho (okL_at hw) h2) hS0 hc hs hr ht)
theorem w_astore_x {i : Nat} (hd : decode (mdB M) pc = .ok (.astore i, 2)) (hb : i < mdL M) (ho : okS ls i = true) (hw : okL ls = true) {ls' : List Value} (hl : ls.set i vX = ls') (kk : WP d M z k n (pc + 2) ls' st h P) : WP d M z k n pc ls (vX :: st) h P := by
  subst hl
  intro p l e R s m args below meth c D tc A H locs cells slots as ws L sv sb Q hC hI hX hL hS hc hs hr ht
  obtain ⟨_, _, rfl, e0, hS0⟩ := hS.c
  obtain ⟨q, rfl⟩ := e0.1 rfl
  exact lv_astore hC.1 hC.2.1 hd hL.has hb rfl (fun L' h2 => kk hC hI hX (hL.store1 hb ⟨fun _ => ⟨q, rfl⟩, fun q => absurd q (by decide)⟩ ho (okL_at hw) h2) hS0 hc hs hr ht)
theorem w_iinc {i : Nat} {v : Int} {x y : Int32} (hd : decode (mdB M) pc = .ok (.iinc i v, 3)) (hx : ls[i]? = some (.int x)) (hy : x + Int32.ofInt v = y) (hb : i < mdL M) (ho : okS ls i = true) (hw : okL ls = true) {ls' : List Value} (hl : ls.set i (.int y) = ls') (kk : WP d M z k n (pc + 3) ls' st h P) : WP d M z k n pc ls st h P := by
  subst hl
  intro p l e R s m args below meth c D tc A H locs cells slots as ws L sv sb Q hC hI hX hL hS hc hs hr ht
  obtain ⟨w, h1, h2⟩ := hL.2.2.2 i _ hx (by intro q; cases q)
  cases h2
  obtain ⟨j, hj⟩ := List.getElem?_of_mem (lsVals_in.mpr h1)
  exact lv_iinc hC.1 hC.2.1 hd hL.has hj hy hb rfl (fun L' h2 => kk hC hI hX (hL.store1 hb rfl ho (okL_at hw) h2) hS hc hs hr ht)
theorem w_iadd {x y : Int32} (hd : decode (mdB M) pc = .ok (.iadd, 1)) (kk : WP d M z k n (pc + 1) ls (.int (x + y) :: st) h P) : WP d M z k n pc ls (.int y :: .int x :: st) h P := by
  intro p l e R s m args below meth c D tc A H locs cells slots as ws L sv sb Q hC hI hX hL hS hc hs hr ht
  obtain ⟨_, _, rfl, e0, hS0⟩ := hS.c
  obtain ⟨_, _, rfl, e1, hS1⟩ := hS0.c
  cases e0
  cases e1
  exact lv_iadd hC.1 hC.2.1 hd (kk hC hI hX hL ⟨rfl, hS1⟩ hc hs hr ht)
theorem w_isub {x y : Int32} (hd : decode (mdB M) pc = .ok (.isub, 1)) (kk : WP d M z k n (pc + 1) ls (.int (x - y) :: st) h P) : WP d M z k n pc ls (.int y :: .int x :: st) h P := by
  intro p l e R s m args below meth c D tc A H locs cells slots as ws L sv sb Q hC hI hX hL hS hc hs hr ht
  obtain ⟨_, _, rfl, e0, hS0⟩ := hS.c
  obtain ⟨_, _, rfl, e1, hS1⟩ := hS0.c
  cases e0
  cases e1
  exact lv_isub hC.1 hC.2.1 hd (kk hC hI hX hL ⟨rfl, hS1⟩ hc hs hr ht)
theorem w_imul {x y : Int32} (hd : decode (mdB M) pc = .ok (.imul, 1)) (kk : WP d M z k n (pc + 1) ls (.int (x * y) :: st) h P) : WP d M z k n pc ls (.int y :: .int x :: st) h P := by
  intro p l e R s m args below meth c D tc A H locs cells slots as ws L sv sb Q hC hI hX hL hS hc hs hr ht
  obtain ⟨_, _, rfl, e0, hS0⟩ := hS.c
  obtain ⟨_, _, rfl, e1, hS1⟩ := hS0.c
  cases e0
  cases e1
  exact lv_imul hC.1 hC.2.1 hd (kk hC hI hX hL ⟨rfl, hS1⟩ hc hs hr ht)
theorem w_iand {x y : Int32} (hd : decode (mdB M) pc = .ok (.iand, 1)) (kk : WP d M z k n (pc + 1) ls (.int (x &&& y) :: st) h P) : WP d M z k n pc ls (.int y :: .int x :: st) h P := by
  intro p l e R s m args below meth c D tc A H locs cells slots as ws L sv sb Q hC hI hX hL hS hc hs hr ht
  obtain ⟨_, _, rfl, e0, hS0⟩ := hS.c
  obtain ⟨_, _, rfl, e1, hS1⟩ := hS0.c
  cases e0
  cases e1
  exact lv_iand hC.1 hC.2.1 hd (kk hC hI hX hL ⟨rfl, hS1⟩ hc hs hr ht)
theorem w_ixor {x y : Int32} (hd : decode (mdB M) pc = .ok (.ixor, 1)) (kk : WP d M z k n (pc + 1) ls (.int (x ^^^ y) :: st) h P) : WP d M z k n pc ls (.int y :: .int x :: st) h P := by
  intro p l e R s m args below meth c D tc A H locs cells slots as ws L sv sb Q hC hI hX hL hS hc hs hr ht
  obtain ⟨_, _, rfl, e0, hS0⟩ := hS.c
  obtain ⟨_, _, rfl, e1, hS1⟩ := hS0.c
  cases e0
  cases e1
  exact lv_ixor hC.1 hC.2.1 hd (kk hC hI hX hL ⟨rfl, hS1⟩ hc hs hr ht)
theorem w_idiv {x y : Int32} (hd : decode (mdB M) pc = .ok (.idiv, 1)) (hne : ¬ y = 0) (kk : WP d M z k n (pc + 1) ls (.int (x / y) :: st) h P) : WP d M z k n pc ls (.int y :: .int x :: st) h P := by
  intro p l e R s m args below meth c D tc A H locs cells slots as ws L sv sb Q hC hI hX hL hS hc hs hr ht
  obtain ⟨_, _, rfl, e0, hS0⟩ := hS.c
  obtain ⟨_, _, rfl, e1, hS1⟩ := hS0.c
  cases e0
  cases e1
  exact lv_idiv hC.1 hC.2.1 hd hne (kk hC hI hX hL ⟨rfl, hS1⟩ hc hs hr ht)
theorem w_irem {x y : Int32} (hd : decode (mdB M) pc = .ok (.irem, 1)) (hne : ¬ y = 0) (kk : WP d M z k n (pc + 1) ls (.int (x - x / y * y) :: st) h P) : WP d M z k n pc ls (.int y :: .int x :: st) h P := by
  intro p l e R s m args below meth c D tc A H locs cells slots as ws L sv sb Q hC hI hX hL hS hc hs hr ht
  obtain ⟨_, _, rfl, e0, hS0⟩ := hS.c
  obtain ⟨_, _, rfl, e1, hS1⟩ := hS0.c
  cases e0
  cases e1
  exact lv_irem hC.1 hC.2.1 hd hne (kk hC hI hX hL ⟨rfl, hS1⟩ hc hs hr ht)
theorem w_ineg {x : Int32} (hd : decode (mdB M) pc = .ok (.ineg, 1)) (kk : WP d M z k n (pc + 1) ls (.int (-x) :: st) h P) : WP d M z k n pc ls (.int x :: st) h P := by
  intro p l e R s m args below meth c D tc A H locs cells slots as ws L sv sb Q hC hI hX hL hS hc hs hr ht
  obtain ⟨_, _, rfl, e0, hS0⟩ := hS.c
  cases e0
  exact lv_ineg hC.1 hC.2.1 hd (kk hC hI hX hL ⟨rfl, hS0⟩ hc hs hr ht)
theorem w_ladd {x y : Int64} (hd : decode (mdB M) pc = .ok (.ladd, 1)) (kk : WP d M z k n (pc + 1) ls (.long (x + y) :: st) h P) : WP d M z k n pc ls (.long y :: .long x :: st) h P := by
  intro p l e R s m args below meth c D tc A H locs cells slots as ws L sv sb Q hC hI hX hL hS hc hs hr ht
  obtain ⟨_, _, rfl, e0, hS0⟩ := hS.c
  obtain ⟨_, _, rfl, e1, hS1⟩ := hS0.c
  cases e0
  cases e1
  exact lv_ladd hC.1 hC.2.1 hd (kk hC hI hX hL ⟨rfl, hS1⟩ hc hs hr ht)
theorem w_lmul {x y : Int64} (hd : decode (mdB M) pc = .ok (.lmul, 1)) (kk : WP d M z k n (pc + 1) ls (.long (x * y) :: st) h P) : WP d M z k n pc ls (.long y :: .long x :: st) h P := by
  intro p l e R s m args below meth c D tc A H locs cells slots as ws L sv sb Q hC hI hX hL hS hc hs hr ht
  obtain ⟨_, _, rfl, e0, hS0⟩ := hS.c
  obtain ⟨_, _, rfl, e1, hS1⟩ := hS0.c
  cases e0
  cases e1
  exact lv_lmul hC.1 hC.2.1 hd (kk hC hI hX hL ⟨rfl, hS1⟩ hc hs hr ht)
theorem w_i2l {x : Int32} (hd : decode (mdB M) pc = .ok (.i2l, 1)) (kk : WP d M z k n (pc + 1) ls (.long x.toInt64 :: st) h P) : WP d M z k n pc ls (.int x :: st) h P := by
  intro p l e R s m args below meth c D tc A H locs cells slots as ws L sv sb Q hC hI hX hL hS hc hs hr ht
  obtain ⟨_, _, rfl, e0, hS0⟩ := hS.c
  cases e0
  exact lv_i2l hC.1 hC.2.1 hd rfl (kk hC hI hX hL ⟨rfl, hS0⟩ hc hs hr ht)
theorem w_i2d {x : Int32} (hd : decode (mdB M) pc = .ok (.i2d, 1)) (kk : WP d M z k n (pc + 1) ls (.double (FP.i2d x) :: st) h P) : WP d M z k n pc ls (.int x :: st) h P := by
  intro p l e R s m args below meth c D tc A H locs cells slots as ws L sv sb Q hC hI hX hL hS hc hs hr ht
  obtain ⟨_, _, rfl, e0, hS0⟩ := hS.c
  cases e0
  exact lv_i2d hC.1 hC.2.1 hd (kk hC hI hX hL ⟨rfl, hS0⟩ hc hs hr ht)
theorem w_lcmp {x y : Int64} (hd : decode (mdB M) pc = .ok (.lcmp, 1)) (kk : WP d M z k n (pc + 1) ls (.int (lg_cmp x y) :: st) h P) : WP d M z k n pc ls (.long y :: .long x :: st) h P := by
  intro p l e R s m args below meth c D tc A H locs cells slots as ws L sv sb Q hC hI hX hL hS hc hs hr ht
  obtain ⟨_, _, rfl, e0, hS0⟩ := hS.c
  obtain ⟨_, _, rfl, e1, hS1⟩ := hS0.c
  cases e0
  cases e1
  exact W.lcmp hC.1 hC.2.1 hd (kk hC hI hX hL ⟨rfl, hS1⟩ hc hs hr ht)
theorem w_dcmp {x y : UInt64} {op : CmpOp} (hd : decode (mdB M) pc = .ok (.dcmp op, 1)) (kk : WP d M z k n (pc + 1) ls (.int (Op.cmpValue (FP.dcmp x y) op) :: st) h P) : WP d M z k n pc ls (.double y :: .double x :: st) h P := by
  intro p l e R s m args below meth c D tc A H locs cells slots as ws L sv sb Q hC hI hX hL hS hc hs hr ht
  obtain ⟨_, _, rfl, e0, hS0⟩ := hS.c
  obtain ⟨_, _, rfl, e1, hS1⟩ := hS0.c
  cases e0
  cases e1
  exact lv_dcmp hC.1 hC.2.1 hd (kk hC hI hX hL ⟨rfl, hS1⟩ hc hs hr ht)
theorem w_ddiv {x y : UInt64} (hd : decode (mdB M) pc = .ok (.ddiv, 1)) (hne : vf_n64 (FP.ddiv x y)) (kk : WP d M z k n (pc + 1) ls (.double (FP.ddiv x y) :: st) h P) : WP d M z k n pc ls (.double y :: .double x :: st) h P := by
  intro p l e R s m args below meth c D tc A H locs cells slots as ws L sv sb Q hC hI hX hL hS hc hs hr ht
  obtain ⟨_, _, rfl, e0, hS0⟩ := hS.c
  obtain ⟨_, _, rfl, e1, hS1⟩ := hS0.c
  cases e0
  cases e1
  exact lv_ddiv hC.1 hC.2.1 hd hne (kk hC hI hX hL ⟨rfl, hS1⟩ hc hs hr ht)
theorem okc {as : List Nat} {sb : Nat} {v w : Value} (h : VR as sb v w) (ho : okV v = true) (hu : v ≠ vU) (hw : wide v = false) : w.category = 1 := by
  have h1 := h.cat hu (fun q hq => by
    rw [hq] at ho hu
    have h6 : q ≤ 2 := by simpa [okV] using ho
    have h7 : q ≠ 2 := fun e => hu (by rw [e])
    omega)
  rw [hw] at h1
  exact h1
theorem w_dup {v : Value} (hd : decode (mdB M) pc = .ok (.dup, 1)) (hv : (okV v && !wide v && decide (v ≠ vU)) = true) (kk : WP d M z k n (pc + 1) ls (v :: v :: st) h P) : WP d M z k n pc ls (v :: st) h P := by
  intro p l e R s m args below meth c D tc A H locs cells slots as ws L sv sb Q hC hI hX hL hS hc hs hr ht
  obtain ⟨w, _, rfl, e0, hS0⟩ := hS.c
  simp only [Bool.and_eq_true, Bool.not_eq_true', decide_eq_true_eq] at hv
  exact lv_dup hC.1 hC.2.1 hd (okc e0 hv.1.1 hv.2 hv.1.2) (kk hC hI hX hL ⟨e0, e0, hS0⟩ hc hs hr ht)
theorem w_pop {v : Value} (hd : decode (mdB M) pc = .ok (.pop, 1)) (hv : (okV v && !wide v && decide (v ≠ vU)) = true) (kk : WP d M z k n (pc + 1) ls st h P) : WP d M z k n pc ls (v :: st) h P := by
  intro p l e R s m args below meth c D tc A H locs cells slots as ws L sv sb Q hC hI hX hL hS hc hs hr ht
  obtain ⟨w, _, rfl, e0, hS0⟩ := hS.c
  simp only [Bool.and_eq_true, Bool.not_eq_true', decide_eq_true_eq] at hv
  exact lv_pop hC.1 hC.2.1 hd (okc e0 hv.1.1 hv.2 hv.1.2) (kk hC hI hX hL hS0 hc hs hr ht)
theorem w_dup2 {v u : Value} (hd : decode (mdB M) pc = .ok (.dup2, 1)) (hv : (okV v && !wide v && decide (v ≠ vU)) = true) (hu : (okV u && !wide u && decide (u ≠ vU)) = true) (kk : WP d M z k n (pc + 1) ls (v :: u :: v :: u :: st) h P) : WP d M z k n pc ls (v :: u :: st) h P := by
  intro p l e R s m args below meth c D tc A H locs cells slots as ws L sv sb Q hC hI hX hL hS hc hs hr ht
  obtain ⟨w, _, rfl, e0, hS0⟩ := hS.c
  obtain ⟨w2, _, rfl, e1, hS1⟩ := hS0.c
  simp only [Bool.and_eq_true, Bool.not_eq_true', decide_eq_true_eq] at hv hu
  exact lv_dup2_11 hC.1 hC.2.1 hd (okc e0 hv.1.1 hv.2 hv.1.2) (okc e1 hu.1.1 hu.2 hu.1.2) (kk hC hI hX hL ⟨e0, e1, e0, e1, hS1⟩ hc hs hr ht)
theorem w_if_eq {x : Int32} {off : Int} {tgt : Nat} (hd : decode (mdB M) pc = .ok (.ifCond .eq off, 3)) (ht0 : (pc : Int) + off = (tgt : Int)) (kt : x = 0 → WP d M z k n tgt ls st h P) (kf : ¬ (x = 0) → WP d M z k n (pc + 3) ls st h P) : WP d M z k n pc ls (.int x :: st) h P := by
  intro p l e R s m args below meth c D tc A H locs cells slots as ws L sv sb Q hC hI hX hL hS hc hs hr ht
  obtain ⟨_, _, rfl, e0, hS0⟩ := hS.c
  cases e0
  exact lv_if_eq hC.1 hC.2.1 hd ht0 (fun q => kt q hC hI hX hL hS0 hc hs hr ht) (fun q => kf q hC hI hX hL hS0 hc hs hr ht)
theorem w_icmp_eq {x y : Int32} {off : Int} {tgt : Nat} (hd : decode (mdB M) pc = .ok (.if_icmp .eq off, 3)) (ht0 : (pc : Int) + off = (tgt : Int)) (kt : x = y → WP d M z k n tgt ls st h P) (kf : ¬ (x = y) → WP d M z k n (pc + 3) ls st h P) : WP d M z k n pc ls (.int y :: .int x :: st) h P := by
  intro p l e R s m args below meth c D tc A H locs cells slots as ws L sv sb Q hC hI hX hL hS hc hs hr ht
  obtain ⟨_, _, rfl, e0, hS0⟩ := hS.c
  obtain ⟨_, _, rfl, e1, hS1⟩ := hS0.c
  cases e0
  cases e1
  exact lv_icmp_eq hC.1 hC.2.1 hd ht0 (fun q => kt q hC hI hX hL hS1 hc hs hr ht) (fun q => kf q hC hI hX hL hS1 hc hs hr ht)
theorem w_if_ne {x : Int32} {off : Int} {tgt : Nat} (hd : decode (mdB M) pc = .ok (.ifCond .ne off, 3)) (ht0 : (pc : Int) + off = (tgt : Int)) (kt : ¬ x = 0 → WP d M z k n tgt ls st h P) (kf : x = 0 → WP d M z k n (pc + 3) ls st h P) : WP d M z k n pc ls (.int x :: st) h P := by
  intro p l e R s m args below meth c D tc A H locs cells slots as ws L sv sb Q hC hI hX hL hS hc hs hr ht
  obtain ⟨_, _, rfl, e0, hS0⟩ := hS.c
  cases e0
  exact lv_if_ne hC.1 hC.2.1 hd ht0 (fun q => kt q hC hI hX hL hS0 hc hs hr ht) (fun q => kf q hC hI hX hL hS0 hc hs hr ht)
theorem w_icmp_ne {x y : Int32} {off : Int} {tgt : Nat} (hd : decode (mdB M) pc = .ok (.if_icmp .ne off, 3)) (ht0 : (pc : Int) + off = (tgt : Int)) (kt : ¬ x = y → WP d M z k n tgt ls st h P) (kf : x = y → WP d M z k n (pc + 3) ls st h P) : WP d M z k n pc ls (.int y :: .int x :: st) h P := by
  intro p l e R s m args below meth c D tc A H locs cells slots as ws L sv sb Q hC hI hX hL hS hc hs hr ht
  obtain ⟨_, _, rfl, e0, hS0⟩ := hS.c
  obtain ⟨_, _, rfl, e1, hS1⟩ := hS0.c
  cases e0
  cases e1
  exact lv_icmp_ne hC.1 hC.2.1 hd ht0 (fun q => kt q hC hI hX hL hS1 hc hs hr ht) (fun q => kf q hC hI hX hL hS1 hc hs hr ht)
theorem w_if_lt {x : Int32} {off : Int} {tgt : Nat} (hd : decode (mdB M) pc = .ok (.ifCond .lt off, 3)) (ht0 : (pc : Int) + off = (tgt : Int)) (kt : x < 0 → WP d M z k n tgt ls st h P) (kf : ¬ (x < 0) → WP d M z k n (pc + 3) ls st h P) : WP d M z k n pc ls (.int x :: st) h P := by
  intro p l e R s m args below meth c D tc A H locs cells slots as ws L sv sb Q hC hI hX hL hS hc hs hr ht
  obtain ⟨_, _, rfl, e0, hS0⟩ := hS.c
  cases e0
  exact lv_if_lt hC.1 hC.2.1 hd ht0 (fun q => kt q hC hI hX hL hS0 hc hs hr ht) (fun q => kf q hC hI hX hL hS0 hc hs hr ht)
theorem w_icmp_lt {x y : Int32} {off : Int} {tgt : Nat} (hd : decode (mdB M) pc = .ok (.if_icmp .lt off, 3)) (ht0 : (pc : Int) + off = (tgt : Int)) (kt : x < y → WP d M z k n tgt ls st h P) (kf : ¬ (x < y) → WP d M z k n (pc + 3) ls st h P) : WP d M z k n pc ls (.int y :: .int x :: st) h P := by
  intro p l e R s m args below meth c D tc A H locs cells slots as ws L sv sb Q hC hI hX hL hS hc hs hr ht
  obtain ⟨_, _, rfl, e0, hS0⟩ := hS.c
  obtain ⟨_, _, rfl, e1, hS1⟩ := hS0.c
  cases e0
  cases e1
  exact lv_icmp_lt hC.1 hC.2.1 hd ht0 (fun q => kt q hC hI hX hL hS1 hc hs hr ht) (fun q => kf q hC hI hX hL hS1 hc hs hr ht)
theorem w_if_ge {x : Int32} {off : Int} {tgt : Nat} (hd : decode (mdB M) pc = .ok (.ifCond .ge off, 3)) (ht0 : (pc : Int) + off = (tgt : Int)) (kt : 0 ≤ x → WP d M z k n tgt ls st h P) (kf : ¬ (0 ≤ x) → WP d M z k n (pc + 3) ls st h P) : WP d M z k n pc ls (.int x :: st) h P := by
  intro p l e R s m args below meth c D tc A H locs cells slots as ws L sv sb Q hC hI hX hL hS hc hs hr ht
  obtain ⟨_, _, rfl, e0, hS0⟩ := hS.c
  cases e0
  exact lv_if_ge hC.1 hC.2.1 hd ht0 (fun q => kt q hC hI hX hL hS0 hc hs hr ht) (fun q => kf q hC hI hX hL hS0 hc hs hr ht)
theorem w_icmp_ge {x y : Int32} {off : Int} {tgt : Nat} (hd : decode (mdB M) pc = .ok (.if_icmp .ge off, 3)) (ht0 : (pc : Int) + off = (tgt : Int)) (kt : y ≤ x → WP d M z k n tgt ls st h P) (kf : ¬ (y ≤ x) → WP d M z k n (pc + 3) ls st h P) : WP d M z k n pc ls (.int y :: .int x :: st) h P := by
  intro p l e R s m args below meth c D tc A H locs cells slots as ws L sv sb Q hC hI hX hL hS hc hs hr ht
  obtain ⟨_, _, rfl, e0, hS0⟩ := hS.c
  obtain ⟨_, _, rfl, e1, hS1⟩ := hS0.c
  cases e0
  cases e1
  exact lv_icmp_ge hC.1 hC.2.1 hd ht0 (fun q => kt q hC hI hX hL hS1 hc hs hr ht) (fun q => kf q hC hI hX hL hS1 hc hs hr ht)
theorem w_if_gt {x : Int32} {off : Int} {tgt : Nat} (hd : decode (mdB M) pc = .ok (.ifCond .gt off, 3)) (ht0 : (pc : Int) + off = (tgt : Int)) (kt : 0 < x → WP d M z k n tgt ls st h P) (kf : ¬ (0 < x) → WP d M z k n (pc + 3) ls st h P) : WP d M z k n pc ls (.int x :: st) h P := by
  intro p l e R s m args below meth c D tc A H locs cells slots as ws L sv sb Q hC hI hX hL hS hc hs hr ht
  obtain ⟨_, _, rfl, e0, hS0⟩ := hS.c
  cases e0
  exact lv_if_gt hC.1 hC.2.1 hd ht0 (fun q => kt q hC hI hX hL hS0 hc hs hr ht) (fun q => kf q hC hI hX hL hS0 hc hs hr ht)
theorem w_icmp_gt {x y : Int32} {off : Int} {tgt : Nat} (hd : decode (mdB M) pc = .ok (.if_icmp .gt off, 3)) (ht0 : (pc : Int) + off = (tgt : Int)) (kt : y < x → WP d M z k n tgt ls st h P) (kf : ¬ (y < x) → WP d M z k n (pc + 3) ls st h P) : WP d M z k n pc ls (.int y :: .int x :: st) h P := by
  intro p l e R s m args below meth c D tc A H locs cells slots as ws L sv sb Q hC hI hX hL hS hc hs hr ht
  obtain ⟨_, _, rfl, e0, hS0⟩ := hS.c
  obtain ⟨_, _, rfl, e1, hS1⟩ := hS0.c
  cases e0
  cases e1
  exact lv_icmp_gt hC.1 hC.2.1 hd ht0 (fun q => kt q hC hI hX hL hS1 hc hs hr ht) (fun q => kf q hC hI hX hL hS1 hc hs hr ht)
theorem w_if_le {x : Int32} {off : Int} {tgt : Nat} (hd : decode (mdB M) pc = .ok (.ifCond .le off, 3)) (ht0 : (pc : Int) + off = (tgt : Int)) (kt : x ≤ 0 → WP d M z k n tgt ls st h P) (kf : ¬ (x ≤ 0) → WP d M z k n (pc + 3) ls st h P) : WP d M z k n pc ls (.int x :: st) h P := by
  intro p l e R s m args below meth c D tc A H locs cells slots as ws L sv sb Q hC hI hX hL hS hc hs hr ht
  obtain ⟨_, _, rfl, e0, hS0⟩ := hS.c
  cases e0
  exact lv_if_le hC.1 hC.2.1 hd ht0 (fun q => kt q hC hI hX hL hS0 hc hs hr ht) (fun q => kf q hC hI hX hL hS0 hc hs hr ht)
theorem w_icmp_le {x y : Int32} {off : Int} {tgt : Nat} (hd : decode (mdB M) pc = .ok (.if_icmp .le off, 3)) (ht0 : (pc : Int) + off = (tgt : Int)) (kt : x ≤ y → WP d M z k n tgt ls st h P) (kf : ¬ (x ≤ y) → WP d M z k n (pc + 3) ls st h P) : WP d M z k n pc ls (.int y :: .int x :: st) h P := by
  intro p l e R s m args below meth c D tc A H locs cells slots as ws L sv sb Q hC hI hX hL hS hc hs hr ht
  obtain ⟨_, _, rfl, e0, hS0⟩ := hS.c
  obtain ⟨_, _, rfl, e1, hS1⟩ := hS0.c
  cases e0
  cases e1
  exact lv_icmp_le hC.1 hC.2.1 hd ht0 (fun q => kt q hC hI hX hL hS1 hc hs hr ht) (fun q => kf q hC hI hX hL hS1 hc hs hr ht)
theorem w_goto {off : Int} {tgt : Nat} (hd : decode (mdB M) pc = .ok (.goto off, 3)) (ht0 : (pc : Int) + off = (tgt : Int)) (kk : WP d M z k n tgt ls st h P) : WP d M z k n pc ls st h P := by
  intro p l e R s m args below meth c D tc A H locs cells slots as ws L sv sb Q hC hI hX hL hS hc hs hr ht
  exact lv_goto hC.1 hC.2.1 hd ht0 (kk hC hI hX hL hS hc hs hr ht)
theorem w_tableOut {dflt lo hi : Int} {offs : Array Int} {len : Nat} {x : Int32} {tgt : Nat} (hd : decode (mdB M) pc = .ok (.tableswitch dflt lo hi offs, len)) (h0 : x.toInt < lo ∨ hi < x.toInt) (ht0 : (pc : Int) + dflt = (tgt : Int)) (kk : WP d M z k n tgt ls st h P) : WP d M z k n pc ls (.int x :: st) h P := by
  intro p l e R s m args below meth c D tc A H locs cells slots as ws L sv sb Q hC hI hX hL hS hc hs hr ht
  obtain ⟨_, _, rfl, e0, hS0⟩ := hS.c
  cases e0
  exact lv_tableOut hC.1 hC.2.1 hd h0 ht0 (kk hC hI hX hL hS0 hc hs hr ht)
theorem w_tableIn {dflt lo hi : Int} {offs : Array Int} {len : Nat} {x : Int32} {off : Int} {tgt : Nat} (hd : decode (mdB M) pc = .ok (.tableswitch dflt lo hi offs, len)) (h1 : ¬ x.toInt < lo) (h2 : ¬ hi < x.toInt) (ho : offs[(x.toInt - lo).toNat]? = some off) (ht0 : (pc : Int) + off = (tgt : Int)) (kk : WP d M z k n tgt ls st h P) : WP d M z k n pc ls (.int x :: st) h P := by
  intro p l e R s m args below meth c D tc A H locs cells slots as ws L sv sb Q hC hI hX hL hS hc hs hr ht
  obtain ⟨_, _, rfl, e0, hS0⟩ := hS.c
  cases e0
  exact lv_tableIn hC.1 hC.2.1 hd h1 h2 ho ht0 (kk hC hI hX hL hS0 hc hs hr ht)
end ROWS
end
section
/-! heap instructions -/
theorem cls5_in : ∀ (ci : Nat) (q : vw_C), cls5[ci]? = some q → ∀ w ∈ u_ws q.1 q.2.1 q.2.2, w ∈ wsAll := by
  have h0 : ∀ w ∈ u_ws RX0 TX0 3, w ∈ wsAll := by decide +kernel
  have h1 : ∀ w ∈ u_ws RX1 TX1 17, w ∈ wsAll := by decide +kernel
  have h2 : ∀ w ∈ u_ws RX2 TX2 2, w ∈ wsAll := by decide +kernel
  have h3 : ∀ w ∈ u_ws RX3 TX3 18, w ∈ wsAll := by decide +kernel
  have h4 : ∀ w ∈ u_ws RX4 TX4 9, w ∈ wsAll := by decide +kernel
  intro ci q hq
  match ci, hq with
  | 0, hq => cases hq; exact h0
  | 1, hq => cases hq; exact h1
  | 2, hq => cases hq; exact h2
  | 3, hq => cases hq; exact h3
  | 4, hq => cases hq; exact h4
  | k + 5, hq => simp at hq
theorem cls5_ty : ∀ (ci : Nat) (q : vw_C), cls5[ci]? = some q → ∃ ty : Nat → FieldType, ∀ k, k < q.2.2 → parseFieldDescriptor (q.2.1 k).2.2.1 = some (ty k) := by
  intro ci q hq
  match ci, hq with
  | 0, hq => cases hq; exact ⟨_, tyX0_ok⟩
  | 1, hq => cases hq; exact ⟨_, tyX1_ok⟩
  | 2, hq => cases hq; exact ⟨_, tyX2_ok⟩
  | 3, hq => cases hq; exact ⟨_, tyX3_ok⟩
  | 4, hq => cases hq; exact ⟨_, tyX4_ok⟩
  | k + 5, hq => simp at hq
theorem cls5_nm : ∀ (ci : Nat) (q : vw_C), cls5[ci]? = some q → ∀ a, a < q.2.2 → ∀ b, b < q.2.2 → a ≠ b → (q.2.1 a).2.1 ≠ (q.2.1 b).2.1 := by
  intro ci q hq
  match ci, hq with
  | 0, hq => cases hq; exact nmX0
  | 1, hq => cases hq; exact nmX1
  | 2, hq => cases hq; exact nmX2
  | 3, hq => cases hq; exact nmX3
  | 4, hq => cases hq; exact nmX4
  | k + 5, hq => simp at hq
/-- the pool entry i of class own names field j of class number ci -/
def FG (own : String) (i ci j : Nat) : Prop := ∃ q : vw_C, cls5[ci]? = some q ∧ j < q.2.2 ∧ (Cond.fieldLink own i (q.2.1 j).1 (q.2.1 j).2.1 (q.2.1 j).2.2.1 ∈ wsAll ∨ ∃ host, Cond.fieldLinkNest own i (q.2.1 j).1 (q.2.1 j).2.1 (q.2.1 j).2.2.1 host ∈ nestW)
/-- .. that isn't final, with type ty -/
def FPu (own : String) (i ci j : Nat) (fin : Bool) (ty : FieldType) : Prop := ∃ q : vw_C, cls5[ci]? = some q ∧ j < q.2.2 ∧ (Cond.fieldLink own i (q.2.1 j).1 (q.2.1 j).2.1 (q.2.1 j).2.2.1 ∈ wsAll ∨ (fin = false ∧ ∃ host, Cond.fieldLinkNest own i (q.2.1 j).1 (q.2.1 j).2.1 (q.2.1 j).2.2.1 host ∈ nestW)) ∧ (q.2.1 j).2.2.2 = fin ∧ (fin = true → (q.2.1 j).1 = own) ∧ parseFieldDescriptor (q.2.1 j).2.2.1 = some ty
def NV (ty : FieldType) (v : Value) : Prop := ∀ (as : List Nat) (w : Value), VF as v w → narrow ty w = w ∧ fits ty w = true
theorem nv_i {x : Int32} : NV .int (.int x) := fun as w e => by cases e; exact ⟨rfl, rfl⟩
theorem nv_z {x : Int32} (h : x = 0 ∨ x = 1) : NV .boolean (.int x) := fun as w e => by
  cases e
  rcases h with rfl | rfl <;> exact ⟨rfl, rfl⟩
theorem nv_o {C : String} {i : Nat} : NV (.object C) (.ref i) := fun as w e => by
  obtain ⟨a, -, rfl⟩ := e
  exact ⟨rfl, rfl⟩
theorem nv_a {t : FieldType} {i : Nat} : NV (.array t) (.ref i) := fun as w e => by
  obtain ⟨a, -, rfl⟩ := e
  exact ⟨rfl, rfl⟩
theorem VRr {as : List Nat} {sb i : Nat} {w : Value} (h : VR as sb (.ref i) w) : ∃ a, as[i]? = some a ∧ w = .ref a := h
theorem VRF {as : List Nat} {sb : Nat} {v w : Value} (h : VR as sb v w) (hv : ∀ q, v ≠ .retAddr q) : VF as v w := by
  cases v <;> first | exact h | exact absurd rfl (hv _)
theorem tys0 {tc : TC} : (tys3 tc)[0]? = some (tc.1, .int) := rfl
theorem tys1 {tc : TC} : (tys3 tc)[1]? = some (tc.2.1, .long) := rfl
theorem tys2 {tc : TC} : (tys3 tc)[2]? = some (tc.2.2, .array .int) := rfl
/-- what a cell is in the world -/
theorem HR.obj {as : List Nat} {tc : TC} {h : AH} {ws : va_W} {i a ci : Nat} {fs : List Value} (hr : HR as tc h ws) (ha : as[i]? = some a) (hh : h[i]? = some (.inr (ci, fs))) : ∃ vs, ws[i]? = some (a, .inr (ci, vs)) ∧ vs.length = fs.length ∧ ∀ (k : Nat) (v : Value), fs[k]? = some v → ∃ w, vs[k]? = some w ∧ VF as v w := by
  obtain ⟨a', e, h1, h2, vs, rfl, h3, h4⟩ := hr.2.2 i _ hh
  cases h1.symm.trans ha
  exact ⟨vs, h2, h3, h4⟩
theorem HR.iar {as : List Nat} {tc : TC} {h : AH} {ws : va_W} {i a n : Nat} {f : Nat → Int32} (hr : HR as tc h ws) (ha : as[i]? = some a) (hh : h[i]? = some (.inl (n, .inl f))) : ws[i]? = some (a, .inl (tc.1, n, .inl f)) := by
  obtain ⟨a', e, h1, h2, h3⟩ := hr.2.2 i _ hh
  cases h1.symm.trans ha
  cases h3
  exact h2
theorem HR.lar {as : List Nat} {tc : TC} {h : AH} {ws : va_W} {i a n : Nat} {f : Nat → Int64} (hr : HR as tc h ws) (ha : as[i]? = some a) (hh : h[i]? = some (.inl (n, .inr (.inl f)))) : ws[i]? = some (a, .inl (tc.2.1, n, .inr (.inl f))) := by
  obtain ⟨a', e, h1, h2, h3⟩ := hr.2.2 i _ hh
  cases h1.symm.trans ha
  cases h3
  exact h2
theorem HR.gar {as : List Nat} {tc : TC} {h : AH} {ws : va_W} {i a n : Nat} {f : Nat → Option Nat} (hr : HR as tc h ws) (ha : as[i]? = some a) (hh : h[i]? = some (.inl (n, .inr (.inr (.inr (.inr f)))))) : ∃ g, ws[i]? = some (a, .inl (tc.2.2, n, .inr (.inr (.inr (.inr g))))) ∧ ∀ j, j < n → RF as (f j) (g j) := by
  obtain ⟨a', e, h1, h2, g, rfl, h3⟩ := hr.2.2 i _ hh
  cases h1.symm.trans ha
  exact ⟨g, h2, h3⟩
section HEAP
variable {d : Nat} {M : MD} {z : Option (Nat × (Nat → Int32))} {k n pc : Nat} {ls st : List Value} {h : AH} {P : AO → AH → Prop}
theorem w_get {i ci j a : Nat} {fs : List Value} {v : Value} (hd : decode (mdB M) pc = .ok (.getfield i, 3)) (hf : FG (mdY M).cls i ci j) (hh : h[a]? = some (.inr (ci, fs))) (hv : fs[j]? = some v) (kk : WP d M z k n (pc + 3) ls (v :: st) h P) : WP d M z k n pc ls (.ref a :: st) h P := by
  intro p l e R s m args below meth c D tc A H locs cells slots as ws L sv sb Q hC hI hX hL hS hc hs hr ht
  obtain ⟨_, _, rfl, ⟨a', ha, rfl⟩, hS0⟩ := hS.c
  obtain ⟨vs, h1, h2, h3⟩ := hI.2.2.2.1.obj ha hh
  obtain ⟨w, h4, h5⟩ := h3 j v hv
  obtain ⟨q, hq, hj, hw⟩ := hf
  have K := kk hC hI hX hL (show SR as sb (v :: st) (w :: _) from ⟨h5.to, hS0⟩) hc hs hr ht
  rcases hw with hw | ⟨host, hw⟩
  · exact va_get hC.1 hC.2.1 hC.2.2.2.2.2.1 (cls5_in ci q hq) hC.2.2.2.2.1 hI.1 hI.2.2.2.2.1 a h1 hq j hj (hC.2.2.2.2.2.1 _ hw) (fun _ x => x) h4 hd K
  · exact va_getN hC.1 hC.2.1 hC.2.2.2.2.2.1 (cls5_in ci q hq) hC.2.2.2.2.1 hI.1 hI.2.2.2.2.1 a h1 hq j hj ((hI.2.1.2.2.2.2.2.1 _ hw).use (by rfl)) (fun _ x => x) h4 hd K
theorem w_put {i ci j a : Nat} {ty : FieldType} {fs : List Value} {v : Value} (hd : decode (mdB M) pc = .ok (.putfield i, 3)) (hf : FPu (mdY M).cls i ci j false ty) (hh : h[a]? = some (.inr (ci, fs))) (hl : j < fs.length) (hn : NV ty v) (hv : ∀ q, v ≠ .retAddr q) (kk : WP d M z k n (pc + 3) ls st (h.set a (.inr (ci, fs.set j v))) P) : WP d M z k n pc ls (v :: .ref a :: st) h P := by
  intro p l e R s m args below meth c D tc A H locs cells slots as ws L sv sb Q hC hI hX hL hS hc hs hr ht
  obtain ⟨w, _, rfl, e0, hS0⟩ := hS.c
  obtain ⟨_, _, rfl, ⟨a', ha, rfl⟩, hS1⟩ := hS0.c
  obtain ⟨vs, h1, h2, h3⟩ := hI.2.2.2.1.obj ha hh
  obtain ⟨q, hq, hj, hw, hfin, -, hty⟩ := hf
  obtain ⟨ty0, hty0⟩ := cls5_ty ci q hq
  have hF := VRF e0 hv
  obtain ⟨n1, n2⟩ := hn as w hF
  have K : ∀ (H1 : Heap) (locs1 : List Loc), va_P D cls5 (ws.set a (a', .inr (ci, vs.set j w))) H1 → va_D A (ws.set a (a', .inr (ci, vs.set j w))) → va_S A s.heap H1 locs1 → W p l e R s m args below meth c H1 locs1 cells slots Q (F0 m (pc + 3) L _) := fun H1 locs1 g1 g2 g3 =>
    kk hC ⟨hI.1, hI.2.1, hI.2.2.1, hI.2.2.2.1.set ha ⟨vs.set j w, rfl, by rw [List.length_set, List.length_set, h2], fun k v' hk => by
      by_cases e1 : k = j
      · subst e1
        rw [List.getElem?_set_self hl] at hk
        cases hk
        exact ⟨w, List.getElem?_set_self (by rw [h2]; exact hl), hF⟩
      · rw [List.getElem?_set_ne (Ne.symm e1)] at hk
        rw [List.getElem?_set_ne (Ne.symm e1)]
        exact h3 k v' hk⟩, g1, g2, g3⟩ hX hL hS1 hc hs hr ht
  rcases hw with hw | ⟨-, host, hw⟩
  · exact va_put hC.1 hC.2.1 hC.2.2.2.2.2.1 (cls5_in ci q hq) ty0 hty0 (cls5_nm ci q hq) hC.2.2.2.2.1 hI.1 hI.2.2.2.2.1 hI.2.2.2.2.2.1 hI.2.2.2.2.2.2 a h1 hq j hj (hC.2.2.2.2.2.1 _ hw) (fun _ x => x) hfin hty n1 n2 (by rw [h2]; exact hl) hd K
  · exact va_putN hC.1 hC.2.1 hC.2.2.2.2.2.1 (cls5_in ci q hq) ty0 hty0 (cls5_nm ci q hq) hC.2.2.2.2.1 hI.1 hI.2.2.2.2.1 hI.2.2.2.2.2.1 hI.2.2.2.2.2.2 a h1 hq j hj ((hI.2.1.2.2.2.2.2.1 _ hw).use (by rfl)) (fun _ x => x) hfin hty n1 n2 (by rw [h2]; exact hl) hd K
theorem w_putF {i ci j a : Nat} {ty : FieldType} {fs : List Value} {v : Value} (hd : decode (mdB M) pc = .ok (.putfield i, 3)) (hf : FPu (mdY M).cls i ci j true ty) (hin : (mdY M).name = "<init>") (hh : h[a]? = some (.inr (ci, fs))) (hl : j < fs.length) (hn : NV ty v) (hv : ∀ q, v ≠ .retAddr q) (kk : WP d M z k n (pc + 3) ls st (h.set a (.inr (ci, fs.set j v))) P) : WP d M z k n pc ls (v :: .ref a :: st) h P := by
  intro p l e R s m args below meth c D tc A H locs cells slots as ws L sv sb Q hC hI hX hL hS hc hs hr ht
  obtain ⟨w, _, rfl, e0, hS0⟩ := hS.c
  obtain ⟨_, _, rfl, ⟨a', ha, rfl⟩, hS1⟩ := hS0.c
  obtain ⟨vs, h1, h2, h3⟩ := hI.2.2.2.1.obj ha hh
  obtain ⟨q, hq, hj, hw, hfin, hown, hty⟩ := hf
  obtain ⟨ty0, hty0⟩ := cls5_ty ci q hq
  have hF := VRF e0 hv
  obtain ⟨n1, n2⟩ := hn as w hF
  have K : ∀ (H1 : Heap) (locs1 : List Loc), va_P D cls5 (ws.set a (a', .inr (ci, vs.set j w))) H1 → va_D A (ws.set a (a', .inr (ci, vs.set j w))) → va_S A s.heap H1 locs1 → W p l e R s m args below meth c H1 locs1 cells slots Q (F0 m (pc + 3) L _) := fun H1 locs1 g1 g2 g3 =>
    kk hC ⟨hI.1, hI.2.1, hI.2.2.1, hI.2.2.2.1.set ha ⟨vs.set j w, rfl, by rw [List.length_set, List.length_set, h2], fun k v' hk => by
      by_cases e1 : k = j
      · subst e1
        rw [List.getElem?_set_self hl] at hk
        cases hk
        exact ⟨w, List.getElem?_set_self (by rw [h2]; exact hl), hF⟩
      · rw [List.getElem?_set_ne (Ne.symm e1)] at hk
        rw [List.getElem?_set_ne (Ne.symm e1)]
        exact h3 k v' hk⟩, g1, g2, g3⟩ hX hL hS1 hc hs hr ht
  rcases hw with hw | ⟨hff, -⟩
  · exact va_putF hC.1 hC.2.1 hC.2.2.2.2.2.1 (cls5_in ci q hq) ty0 hty0 (cls5_nm ci q hq) hC.2.2.2.2.1 hI.1 hI.2.2.2.2.1 hI.2.2.2.2.2.1 hI.2.2.2.2.2.2 a h1 hq j hj (hC.2.2.2.2.2.1 _ hw) (fun _ x => x) hfin (by rw [hC.2.2.2.2.2.2.2.1]; exact hin) (hown rfl) hty n1 n2 (by rw [h2]; exact hl) hd K
  · cases hff
theorem w_iald {a nn : Nat} {f : Nat → Int32} {i : Int32} (hd : decode (mdB M) pc = .ok (.iaload, 1)) (hh : h[a]? = some (.inl (nn, .inl f))) (hin : vp_in i nn) (kk : WP d M z k n (pc + 1) ls (.int (f i.toNatClampNeg) :: st) h P) : WP d M z k n pc ls (.int i :: .ref a :: st) h P := by
  intro p l e R s m args below meth c D tc A H locs cells slots as ws L sv sb Q hC hI hX hL hS hc hs hr ht
  obtain ⟨_, _, rfl, e0, hS0⟩ := hS.c
  obtain ⟨_, _, rfl, ⟨a', ha, rfl⟩, hS1⟩ := hS0.c
  cases e0
  exact va_iald hC.1 hC.2.1 hI.1 hI.2.2.2.2.1 a 0 (hI.2.2.2.1.iar ha hh) tys0 hin hd (kk hC hI hX hL ⟨rfl, hS1⟩ hc hs hr ht)
theorem w_iast {a nn : Nat} {f : Nat → Int32} {i x : Int32} (hd : decode (mdB M) pc = .ok (.iastore, 1)) (hh : h[a]? = some (.inl (nn, .inl f))) (hin : vp_in i nn) (kk : WP d M z k n (pc + 1) ls st (h.set a (.inl (nn, .inl (upd f i.toNatClampNeg x)))) P) : WP d M z k n pc ls (.int x :: .int i :: .ref a :: st) h P := by
  intro p l e R s m args below meth c D tc A H locs cells slots as ws L sv sb Q hC hI hX hL hS hc hs hr ht
  obtain ⟨_, _, rfl, e0, hS0⟩ := hS.c
  obtain ⟨_, _, rfl, e1, hS1⟩ := hS0.c
  obtain ⟨_, _, rfl, ⟨a', ha, rfl⟩, hS2⟩ := hS1.c
  cases e0
  cases e1
  exact va_iast hC.1 hC.2.1 hI.1 hI.2.2.2.2.1 hI.2.2.2.2.2.1 hI.2.2.2.2.2.2 a 0 (hI.2.2.2.1.iar ha hh) tys0 hin hd (fun H1 locs1 g1 g2 g3 => kk hC ⟨hI.1, hI.2.1, hI.2.2.1, hI.2.2.2.1.set ha rfl, g1, g2, g3⟩ hX hL hS2 hc hs hr ht)
theorem w_lald {a nn : Nat} {f : Nat → Int64} {i : Int32} (hd : decode (mdB M) pc = .ok (.laload, 1)) (hh : h[a]? = some (.inl (nn, .inr (.inl f)))) (hin : vp_in i nn) (kk : WP d M z k n (pc + 1) ls (.long (f i.toNatClampNeg) :: st) h P) : WP d M z k n pc ls (.int i :: .ref a :: st) h P := by
  intro p l e R s m args below meth c D tc A H locs cells slots as ws L sv sb Q hC hI hX hL hS hc hs hr ht
  obtain ⟨_, _, rfl, e0, hS0⟩ := hS.c
  obtain ⟨_, _, rfl, ⟨a', ha, rfl⟩, hS1⟩ := hS0.c
  cases e0
  exact va_lald hC.1 hC.2.1 hI.1 hI.2.2.2.2.1 a 1 (hI.2.2.2.1.lar ha hh) tys1 hin hd (kk hC hI hX hL ⟨rfl, hS1⟩ hc hs hr ht)
theorem w_last {a nn : Nat} {f : Nat → Int64} {i : Int32} {x : Int64} (hd : decode (mdB M) pc = .ok (.lastore, 1)) (hh : h[a]? = some (.inl (nn, .inr (.inl f)))) (hin : vp_in i nn) (kk : WP d M z k n (pc + 1) ls st (h.set a (.inl (nn, .inr (.inl (vp_updL f i.toNatClampNeg x))))) P) : WP d M z k n pc ls (.long x :: .int i :: .ref a :: st) h P := by
  intro p l e R s m args below meth c D tc A H locs cells slots as ws L sv sb Q hC hI hX hL hS hc hs hr ht
  obtain ⟨_, _, rfl, e0, hS0⟩ := hS.c
  obtain ⟨_, _, rfl, e1, hS1⟩ := hS0.c
  obtain ⟨_, _, rfl, ⟨a', ha, rfl⟩, hS2⟩ := hS1.c
  cases e0
  cases e1
  exact va_last hC.1 hC.2.1 hI.1 hI.2.2.2.2.1 hI.2.2.2.2.2.1 hI.2.2.2.2.2.2 a 1 (hI.2.2.2.1.lar ha hh) tys1 hin hd (fun H1 locs1 g1 g2 g3 => kk hC ⟨hI.1, hI.2.1, hI.2.2.1, hI.2.2.2.1.set ha rfl, g1, g2, g3⟩ hX hL hS2 hc hs hr ht)
theorem w_aald {a nn j : Nat} {f : Nat → Option Nat} {i : Int32} (hd : decode (mdB M) pc = .ok (.aaload, 1)) (hh : h[a]? = some (.inl (nn, .inr (.inr (.inr (.inr f)))))) (hin : vp_in i nn) (hf : f i.toNatClampNeg = some j) (kk : WP d M z k n (pc + 1) ls (.ref j :: st) h P) : WP d M z k n pc ls (.int i :: .ref a :: st) h P := by
  intro p l e R s m args below meth c D tc A H locs cells slots as ws L sv sb Q hC hI hX hL hS hc hs hr ht
  obtain ⟨_, _, rfl, e0, hS0⟩ := hS.c
  obtain ⟨_, _, rfl, ⟨a', ha, rfl⟩, hS1⟩ := hS0.c
  cases e0
  obtain ⟨g, h1, h2⟩ := hI.2.2.2.1.gar ha hh
  have hlt : i.toNatClampNeg < nn := Nat.not_le.mp fun q => hin (Or.inr q)
  obtain ⟨b, h3, h4⟩ : ∃ b, as[j]? = some b ∧ g i.toNatClampNeg = some b := by
    have := h2 _ hlt
    rw [hf] at this
    exact this
  refine W.aald (v := va_rf (g i.toNatClampNeg)) (ty := .array .int) hC.1 hC.2.1 (hI.2.2.2.2.1 a _ h1) ((hI.1.2 2 _ tys2).1 nn (fun j => va_rf (g j))) rfl (fun q => by cases q) (by show ¬ (i < 0 ∨ (arrV _ _ _).slots.size ≤ _); rw [arrV_size]; exact hin) (by show (arrV _ _ _).slots[_]? = _; rw [arrV_read _ _ hlt]) rfl rfl hd ?_
  rw [h4]
  exact kk hC hI hX hL ⟨⟨b, h3, rfl⟩, hS1⟩ hc hs hr ht
theorem w_alen {a : Nat} {x : vp_A} {v : Int32} (hd : decode (mdB M) pc = .ok (.arraylength, 1)) (hh : h[a]? = some (.inl x)) (hv : Int32.ofNat x.1 = v) (kk : WP d M z k n (pc + 1) ls (.int v :: st) h P) : WP d M z k n pc ls (.ref a :: st) h P := by
  intro p l e R s m args below meth c D tc A H locs cells slots as ws L sv sb Q hC hI hX hL hS hc hs hr ht
  obtain ⟨_, _, rfl, ⟨a', ha, rfl⟩, hS0⟩ := hS.c
  have K := kk hC hI hX hL (show SR as sb (.int v :: st) (.int v :: _) from ⟨rfl, hS0⟩) hc hs hr ht
  obtain ⟨nn, f | f | f | f | f⟩ := x
  · exact va_alen hC.1 hC.2.1 hI.1 hI.2.2.2.2.1 a 0 (hI.2.2.2.1.iar ha hh) tys0 hv hd K
  · exact va_alen hC.1 hC.2.1 hI.1 hI.2.2.2.2.1 a 1 (hI.2.2.2.1.lar ha hh) tys1 hv hd K
  · obtain ⟨_, _, _, _, h3⟩ := hI.2.2.2.1.2.2 a _ hh
    exact h3.elim
  · obtain ⟨_, _, _, _, h3⟩ := hI.2.2.2.1.2.2 a _ hh
    exact h3.elim
  · obtain ⟨g, h1, -⟩ := hI.2.2.2.1.gar ha hh
    exact va_alen hC.1 hC.2.1 hI.1 hI.2.2.2.2.1 a 2 h1 tys2 hv hd K
theorem w_sld {LL : Nat} {xs : Nat → Int32} {i : Int32} (hz : z = some (LL, xs)) (hd : decode (mdB M) pc = .ok (.iaload, 1)) (hin : vp_in i LL) (kk : WP d M z k n (pc + 1) ls (.int (xs i.toNatClampNeg) :: st) h P) : WP d M z k n pc ls (.int i :: vScr :: st) h P := by
  intro p l e R s m args below meth c D tc A H locs cells slots as ws L sv sb Q hC hI hX hL hS hc hs hr ht
  obtain ⟨_, _, rfl, e0, hS0⟩ := hS.c
  obtain ⟨_, _, rfl, e1, hS1⟩ := hS0.c
  cases e0
  have e2 := e1.2 rfl
  subst e2
  obtain ⟨x1, x2, x3⟩ := hX LL xs hz
  exact va_sld hC.1 hC.2.1 x1 x2 x3 hI.2.2.2.2.2.2 hin hd (kk hC hI hX hL ⟨rfl, hS1⟩ hc hs hr ht)
theorem w_slen {LL : Nat} {xs : Nat → Int32} (hz : z = some (LL, xs)) (hd : decode (mdB M) pc = .ok (.arraylength, 1)) (kk : WP d M z k n (pc + 1) ls (.int (Int32.ofNat LL) :: st) h P) : WP d M z k n pc ls (vScr :: st) h P := by
  intro p l e R s m args below meth c D tc A H locs cells slots as ws L sv sb Q hC hI hX hL hS hc hs hr ht
  obtain ⟨_, _, rfl, e1, hS1⟩ := hS.c
  have e2 := e1.2 rfl
  subst e2
  obtain ⟨x1, x2, x3⟩ := hX LL xs hz
  exact va_slen hC.1 hC.2.1 x1 x2 x3 hI.2.2.2.2.2.2 hd (kk hC hI hX hL ⟨rfl, hS1⟩ hc hs hr ht)
/-- an object's first values -/
def dv : FieldType → Value
  | .object _ => .null
  | .array _ => .null
  | .int => .int 0
  | .boolean => .int 0
  | _ => .float 0
def NewOk (own : String) (i ci : Nat) (fs : List Value) : Prop := ∃ q : vw_C, cls5[ci]? = some q ∧ Cond.classLink own i q.1 ∈ wsAll ∧ Cond.instantiable q.1 q.2.2 ∈ wsAll ∧ Cond.initialized q.1 ∈ wsAll ∧ fs.length = q.2.2 ∧ (∀ j, j < q.2.2 → (parseFieldDescriptor (q.2.1 j).2.2.1).map defaultValue = fs[j]?) ∧ (∀ v ∈ fs, v = .null ∨ v = .int 0)
theorem w_new {i ci N : Nat} {fs : List Value} (hd : decode (mdB M) pc = .ok (.new i, 3)) (hn : NewOk (mdY M).cls i ci fs) (hN : fs.length = N) (kk : WP d M z k n (pc + 3) ls (.ref h.length :: st) (h ++ [.inr (ci, fs)]) P) : WP d M z (k + 1) (n + N) pc ls st h P := by
  subst hN
  intro p l e R s m args below meth c D tc A H locs cells slots as ws L sv sb Q hC hI hX hL hS hc hs hr ht
  obtain ⟨q, hq, w1, w2, w3, h1, h2, h3⟩ := hn
  obtain ⟨ty0, hty0⟩ := cls5_ty ci q hq
  refine va_new hC.1 hC.2.1 hC.2.2.2.2.2.1 (cls5_in ci q hq) ty0 hty0 hC.2.2.2.2.1 (hC.2.2.2.2.2.1 _ w1) (hC.2.2.2.2.2.1 _ w2) (hC.2.2.2.2.2.1 _ w3) hI.1 hI.2.2.2.2.1 hI.2.2.2.2.2.1 hI.2.2.2.2.2.2 hI.2.2.1 hq (fs := fs) (fun j hj => ?_) (by omega) (by omega) hd (fun q9 H1 g1 g2 g3 => ?_)
  · have := h2 j hj
    rw [hty0 j hj] at this
    simp only [Option.map_some] at this
    unfold vp_V
    rw [List.getD_eq_getElem?_getD, ← this]
    rfl
  · have hg : Gr as (as ++ [q9]) := Gr.app _ _
    have hHR : HR (as ++ [q9]) tc (h ++ [.inr (ci, fs)]) (ws ++ [(q9, .inr (ci, fs))]) := hI.2.2.2.1.push ⟨fs, rfl, rfl, fun k v hk => ⟨v, hk, by
      rcases h3 v (List.mem_of_getElem? hk) with rfl | rfl <;> rfl⟩⟩
    refine kk (as := as ++ [q9]) hC ⟨hI.1, hI.2.1, hI.2.2.1, hHR, g1, g2, g3⟩ hX (hL.gr hg) ⟨⟨q9, ?_, rfl⟩, hS.gr hg⟩ (by omega) (by omega) (hr.gr hg) (ht.gr hg)
    rw [← hI.2.2.2.1.1, List.getElem?_append_right (Nat.le_refl _), Nat.sub_self]
    rfl
theorem w_newi {x : Int32} {N : Nat} (hd : decode (mdB M) pc = .ok (.newarray .int, 2)) (hx : x = nI N) (hN : N ≤ 1000) (kk : WP d M z k n (pc + 2) ls (.ref h.length :: st) (h ++ [.inl (N, .inl (fun _ => 0))]) P) : WP d M z (k + 1) (n + N) pc ls (.int x :: st) h P := by
  subst hx
  intro p l e R s m args below meth c D tc A H locs cells slots as ws L sv sb Q hC hI hX hL hS hc hs hr ht
  obtain ⟨_, _, rfl, e0, hS0⟩ := hS.c
  cases e0
  have hw : Cond.arrayClass .int ∈ wsAll := by decide +kernel
  have hN2 : N < 2 ^ 31 := by omega
  refine va_newa (atype := .int) (ty := .int) (a0 := (N, .inl (fun _ => 0))) hC.1 hC.2.1 (hC.2.2.2.2.2.1 _ hw) rfl hI.1 hI.2.2.2.2.1 hI.2.2.2.2.2.1 hI.2.2.2.2.2.2 hI.2.2.1 (fun _ => rfl) (nI_pos hN2) (nI_clamp hN2) (by have : componentBytes .int = 4 := rfl; rw [this]; omega) (by omega) (by omega) hd (fun q9 cA H1 gK g1 g2 g3 => ?_)
  have hcA : cA = tc.1 := by
    have e1 := (gK.2 3 (cA, .int) rfl).2
    have e2 := (hI.1.2 0 _ tys0).2
    exact Option.some.inj (e1.symm.trans e2)
  subst hcA
  have hg : Gr as (as ++ [q9]) := Gr.app _ _
  refine kk (as := as ++ [q9]) hC ⟨hI.1, hI.2.1, hI.2.2.1, hI.2.2.2.1.push rfl, g1, g2, g3⟩ hX (hL.gr hg) ⟨⟨q9, ?_, rfl⟩, hS0.gr hg⟩ (by omega) (by omega) (hr.gr hg) (ht.gr hg)
  rw [← hI.2.2.2.1.1, List.getElem?_append_right (Nat.le_refl _), Nat.sub_self]
  rfl
theorem w_newl {x : Int32} {N : Nat} (hd : decode (mdB M) pc = .ok (.newarray .long, 2)) (hx : x = nI N) (hN : N ≤ 1000) (kk : WP d M z k n (pc + 2) ls (.ref h.length :: st) (h ++ [.inl (N, .inr (.inl (fun _ => 0)))]) P) : WP d M z (k + 1) (n + N) pc ls (.int x :: st) h P := by
  subst hx
  intro p l e R s m args below meth c D tc A H locs cells slots as ws L sv sb Q hC hI hX hL hS hc hs hr ht
  obtain ⟨_, _, rfl, e0, hS0⟩ := hS.c
  cases e0
  have hw : Cond.arrayClass .long ∈ wsAll := by decide +kernel
  have hN2 : N < 2 ^ 31 := by omega
  refine va_newa (atype := .long) (ty := .long) (a0 := (N, .inr (.inl (fun _ => 0)))) hC.1 hC.2.1 (hC.2.2.2.2.2.1 _ hw) rfl hI.1 hI.2.2.2.2.1 hI.2.2.2.2.2.1 hI.2.2.2.2.2.2 hI.2.2.1 (fun _ => rfl) (nI_pos hN2) (nI_clamp hN2) (by have : componentBytes .long = 8 := rfl; rw [this]; omega) (by omega) (by omega) hd (fun q9 cA H1 gK g1 g2 g3 => ?_)
  have hcA : cA = tc.2.1 := by
    have e1 := (gK.2 3 (cA, .long) rfl).2
    have e2 := (hI.1.2 1 _ tys1).2
    exact Option.some.inj (e1.symm.trans e2)
  subst hcA
  have hg : Gr as (as ++ [q9]) := Gr.app _ _
  refine kk (as := as ++ [q9]) hC ⟨hI.1, hI.2.1, hI.2.2.1, hI.2.2.2.1.push rfl, g1, g2, g3⟩ hX (hL.gr hg) ⟨⟨q9, ?_, rfl⟩, hS0.gr hg⟩ (by omega) (by omega) (hr.gr hg) (ht.gr hg)
  rw [← hI.2.2.2.1.1, List.getElem?_append_right (Nat.le_refl _), Nat.sub_self]
  rfl
theorem w_objInit {i a : Nat} (hd : decode (mdB M) pc = .ok (.invokespecial i, 3)) (hw : Cond.methodLink (mdY M).cls i Lib.objectInit ∈ wsAll) (hd1 : 1 ≤ d) (hst : (st.map wide) = []) (kk : WP d M z k n (pc + 3) ls st h P) : WP d M z k n pc ls (.ref a :: st) h P := by
  intro p l e R s m args below meth c D tc A H locs cells slots as ws L sv sb Q hC hI hX hL hS hc hs hr ht
  obtain ⟨_, _, rfl, ⟨a', ha, rfl⟩, hS0⟩ := hS.c
  have e1 : st = [] := List.map_eq_nil_iff.mp hst
  subst e1
  have e2 := hS0.n
  subst e2
  have hw2 : Cond.instanceMethod Lib.objectInit ∈ wsAll := by decide +kernel
  have hw3 : Cond.code Lib.objectInit ⟨#[0xb1]⟩ 1 none ∈ wsAll := by decide +kernel
  have hf := hC.2.2.2.2.2.2.2.2.2.2.1
  have hl := hC.2.2.2.2.2.2.2.2.2.2.2
  exact W.objInit hC.1 hC.2.1 hC.2.2.2.2.1 (hC.2.2.2.2.2.1 _ hw) (hC.2.2.2.2.2.1 _ hw2) (hC.2.2.2.2.2.1 _ hw3) rfl (hL.2.1.trans hC.2.2.1.symm) rfl hd (by omega) (by show 2 * 0 + 0 + 12 ≤ _; omega) (kk hC hI hX hL (by trivial) hc hs hr ht)
end HEAP
end
section
/-! calls -/
/-- the arguments' values -/
def AR (as : List Nat) : List Value → List Value → Prop
  | [], [] => True
  | v :: vs, w :: ws => VF as v w ∧ AR as vs ws
  | _, _ => False
theorem AR.len {as : List Nat} : ∀ {a b : List Value}, AR as a b → a.length = b.length
  | [], [], _ => rfl
  | _ :: _, _ :: _, h => by rw [List.length_cons, List.length_cons, AR.len h.2]
  | [], _ :: _, h => h.elim
  | _ :: _, [], h => h.elim
/-- no mark among them -/
def noX (l : List Value) : Bool := l.all fun v => match v with
  | .retAddr _ => false
  | _ => true
theorem AR.of {as : List Nat} {sb : Nat} : ∀ {a b : List Value}, SR as sb a b → noX a = true → AR as a b
  | [], [], _, _ => trivial
  | v :: vs, w :: ws, h, hn => by
    have h1 : noX vs = true := by
      unfold noX at hn ⊢
      simp only [List.all_cons, Bool.and_eq_true] at hn
      exact hn.2
    refine ⟨VRF h.1 (fun q hq => ?_), AR.of h.2 h1⟩
    subst hq
    simp [noX] at hn
  | [], _ :: _, h, _ => h.elim
  | _ :: _, [], h, _ => h.elim
theorem SR.rev {as : List Nat} {sb : Nat} : ∀ {a b : List Value} {x y : List Value}, SR as sb a b → SR as sb x y → SR as sb (a.reverse ++ x) (b.reverse ++ y)
  | [], [], _, _, _, h => h
  | v :: vs, w :: ws, x, y, h, hx => by
    rw [List.reverse_cons, List.reverse_cons, List.append_assoc, List.append_assoc]
    exact SR.rev h.2 ⟨h.1, hx⟩
  | [], _ :: _, _, _, h, _ => h.elim
  | _ :: _, [], _, _, h, _ => h.elim
theorem SR.app {as : List Nat} {sb : Nat} : ∀ {a x y : List Value}, SR as sb (a ++ x) y → ∃ b y', y = b ++ y' ∧ SR as sb a b ∧ SR as sb x y'
  | [], x, y, h => ⟨[], y, rfl, trivial, h⟩
  | v :: vs, x, [], h => h.elim
  | v :: vs, x, w :: ws, h => by
    obtain ⟨b, y', e, h1, h2⟩ := SR.app (a := vs) h.2
    exact ⟨w :: b, y', by rw [e]; rfl, ⟨h.1, h1⟩, h2⟩
theorem SR.len {as : List Nat} {sb : Nat} : ∀ {a b : List Value}, SR as sb a b → a.length = b.length
  | [], [], _ => rfl
  | _ :: _, _ :: _, h => by rw [List.length_cons, List.length_cons, SR.len h.2]
  | [], _ :: _, h => h.elim
  | _ :: _, [], h => h.elim
theorem SR.unrev {as : List Nat} {sb : Nat} {a x y : List Value} (h : SR as sb (a.reverse ++ x) y) : ∃ b y', y = b.reverse ++ y' ∧ SR as sb a b ∧ SR as sb x y' := by
  obtain ⟨b, y', e, h1, h2⟩ := SR.app h
  refine ⟨b.reverse, y', by rw [e, List.reverse_reverse], ?_, h2⟩
  have h3 := SR.rev h1 (show SR as sb [] [] from trivial)
  rw [List.reverse_reverse, List.append_nil, List.append_nil] at h3
  exact h3
/-- how wide a stack is, as the abstract values tell it -/
def catsum (l : List Value) : Nat := (l.map fun v => if wide v then 2 else 1).sum
def okK (l : List Value) : Bool := l.all fun v => match v with
  | .retAddr k => decide (k ≤ 1)
  | _ => true
theorem SR.cats {as : List Nat} {sb : Nat} : ∀ {a b : List Value}, SR as sb a b → okK a = true → (b.map fun v => v.category).sum = catsum a
  | [], [], _, _ => rfl
  | v :: vs, w :: ws, h, hn => by
    have h1 : okK vs = true := by
      unfold okK at hn ⊢
      simp only [List.all_cons, Bool.and_eq_true] at hn
      exact hn.2
    have h2 := SR.cats h.2 h1
    have h3 : w.category = if wide v then 2 else 1 := h.1.cat (fun q => by
      subst q
      simp [okK] at hn) (fun k q => by
      subst q
      simp [okK] at hn
      omega)
    unfold catsum at h2 ⊢
    rw [List.map_cons, List.sum_cons, List.map_cons, List.sum_cons, h2, h3]
  | [], _ :: _, h, _ => h.elim
  | _ :: _, [], h, _ => h.elim
def wsM (M : MD) : List Cond := wordOf M :: wsAll
/-- the start of a call -/
def CPre (D : va_G) (tc : TC) (ws : va_W) (sz : Nat) (vs : List Value) : Array Value → State → Prop :=
  va_Pc vs (fun U => U.heap.size = sz ∧ va_P D cls5 ws U.heap ∧ va_K D cls5 (tys3 tc) U ∧ va_D (fun _ => True) ws ∧ EX (va_A ws sz) U U.heap)
def CQ (P : AO → AH → Prop) (D : va_G) (tc : TC) (as : List Nat) (ws : va_W) (sz : Nat) : Array Value → State → Outcome → State → Prop := fun _ st o t =>
  (∃ (av vv : Option Value) (h : AH) (as' : List Nat) (ws' : va_W), o = .returned vv ∧ P (.inl av) h ∧ Gr as as' ∧ OV as' av vv ∧ HR as' tc h ws' ∧ va_P D cls5 ws' t.heap ∧ va_K D cls5 (tys3 tc) t ∧ va_D (va_A ws sz) ws') ∧ va_F (va_A ws sz) st t
def CX (P : AO → AH → Prop) (D : va_G) (tc : TC) (as : List Nat) (ws : va_W) (sz : Nat) : String → State → State → Prop := fun E st t =>
  (∃ (h : AH) (as' : List Nat) (ws' : va_W), P (.inr E) h ∧ Gr as as' ∧ HR as' tc h ws' ∧ va_P D cls5 ws' t.heap ∧ va_K D cls5 (tys3 tc) t ∧ va_D (va_A ws sz) ws') ∧ va_F (va_A ws sz) st t
/-- a method's contract -/
def Ct (d : Nat) (M : MD) (k n : Nat) (As : List Value) (h : AH) (P : AO → AH → Prop) : Prop :=
  ∀ (l : Launch) (D : va_G) (tc : TC) (as : List Nat) (ws : va_W) (vs : List Value) (sz : Nat), l.stackTraces = false → HR as tc h ws → AR as As vs →
    vx_Met l (mdY M) (wsM M) { frames := d, cells := k, slots := n, locals := 35 * d } (CPre D tc ws sz vs) (CQ P D tc as ws sz) (CX P D tc as ws sz) k n (va_A ws sz)
theorem CPre.blind {D : va_G} {tc : TC} {ws : va_W} {sz : Nat} {vs : List Value} : FrameBlind (CPre D tc ws sz vs) := by
  intro a U g mk hp
  obtain ⟨h1, h2, h3, h4, h5, h6⟩ := hp
  exact ⟨h1, h2, h3, va_K.moved (u := U) (U := U.calling g mk a) (Vm.Alike.refl U.vm) h4, h5, EX.go (s := U) (A := va_A ws sz) h6 (State.WarmedH.refl U) (fun q _ _ => rfl) (fun _ x => x)⟩
/-- the entry's locals -/
def entL (nL : Nat) (As : List Value) : List Value := (As.flatMap fun v => if wide v then [v, vU] else [v]) ++ List.replicate (nL - (As.flatMap fun v => if wide v then [v, vU] else [v]).length) vU
theorem VF.wide {as : List Nat} {v w : Value} (h : VF as v w) : w.category = if wide v then 2 else 1 := by
  cases v with
  | ref i => obtain ⟨a, -, rfl⟩ := h; rfl
  | retAddr k => exact h.elim
  | int _ => cases h; rfl
  | long _ => cases h; rfl
  | float _ => cases h; rfl
  | double _ => cases h; rfl
  | null => cases h; rfl
theorem ent_at {as : List Nat} : ∀ {As vs : List Value}, AR as As vs → ∀ (b i : Nat) (v : Value), (As.flatMap fun v => if wide v then [v, vU] else [v])[i]? = some v → v ≠ vU → ∃ w, (b + i, w) ∈ lv_args b vs ∧ VF as v w
  | [], [], _, b, i, v, h, _ => by simp at h
  | a :: As, c :: vs, hr, b, i, v, h, hv => by
    have hc := hr.1.wide
    rw [List.flatMap_cons] at h
    unfold lv_args
    cases hw : wide a with
    | true =>
      rw [hw] at h hc
      have hc2 : c.category = 2 := by simpa using hc
      rw [if_pos hc2]
      simp only [if_true, List.cons_append, List.nil_append] at h
      match i, h with
      | 0, h => cases h; exact ⟨c, List.mem_cons_self, hr.1⟩
      | 1, h => cases h; exact absurd rfl hv
      | j + 2, h =>
        obtain ⟨w, h1, h2⟩ := ent_at hr.2 (b + 2) j v h hv
        exact ⟨w, List.mem_cons_of_mem _ (by rw [show b + (j + 2) = b + 2 + j by omega]; exact h1), h2⟩
    | false =>
      rw [hw] at h hc
      have hc1 : ¬ c.category = 2 := by rw [hc]; decide
      rw [if_neg hc1]
      simp only [Bool.false_eq_true, if_false, List.cons_append, List.nil_append] at h
      match i, h with
      | 0, h => cases h; exact ⟨c, List.mem_cons_self, hr.1⟩
      | j + 1, h =>
        obtain ⟨w, h1, h2⟩ := ent_at hr.2 (b + 1) j v h hv
        exact ⟨w, List.mem_cons_of_mem _ (by rw [show b + (j + 1) = b + 1 + j by omega]; exact h1), h2⟩
  | [], _ :: _, h, _, _, _, _, _ => h.elim
  | _ :: _, [], h, _, _, _, _, _ => h.elim
theorem ent_len {as : List Nat} : ∀ {As vs : List Value}, AR as As vs → (lg_sl vs).length = (As.flatMap fun v => if wide v then [v, vU] else [v]).length
  | [], [], _ => rfl
  | a :: As, c :: vs, hr => by
    have hc := hr.1.wide
    have h2 := ent_len hr.2
    unfold lg_sl at h2 ⊢
    rw [List.flatMap_cons, List.flatMap_cons, List.length_append, List.length_append, h2, hc]
    cases hw : wide a <;> simp
  | [], _ :: _, h => h.elim
  | _ :: _, [], h => h.elim
theorem ent_LR {as : List Nat} {sb nL : Nat} {As vs : List Value} (hr : AR as As vs) (hn : (As.flatMap fun v => if wide v then [v, vU] else [v]).length ≤ nL) : LR as sb nL (entL nL As) ((lg_sl vs ++ List.replicate (nL - (lg_sl vs).length) Slot.unset).toArray) := by
  have hlen := ent_len hr
  have hE := lv_entry vs (n := nL) (by rw [hlen]; exact hn)
  refine ⟨by unfold entL; rw [List.length_append, List.length_replicate]; omega, hE.1, hE.2.1, fun i v hi hv => ?_⟩
  unfold entL at hi
  by_cases hl : i < (As.flatMap fun v => if wide v then [v, vU] else [v]).length
  · rw [List.getElem?_append_left hl] at hi
    obtain ⟨w, h1, h2⟩ := ent_at hr 0 i v hi hv
    rw [Nat.zero_add] at h1
    exact ⟨w, hE.2.2 (i, w) h1, h2.to⟩
  · rw [List.getElem?_append_right (by omega), List.getElem?_replicate] at hi
    split at hi
    · cases hi
      exact absurd rfl hv
    · cases hi
theorem wsM_hts {M : MD} {args : Array Value} {s : State} (h : ∀ w ∈ wsM M, w.before args s = true) : ∀ w ∈ wsAll, w.before args s = true := fun w hw => h w (List.mem_cons_of_mem _ hw)
/-- what a method's body owes, by what its contract says -/
theorem Ct.body {d k n : Nat} {M : MD} {As : List Value} {h : AH} {P : AO → AH → Prop} (hn : (As.flatMap fun v => if wide v then [v, vU] else [v]).length ≤ mdL M) (hw : WP d M none k n 0 (entL (mdL M) As) [] h P)
    {l : Launch} {D : va_G} {tc : TC} {as : List Nat} {ws : va_W} {vs : List Value} {sz : Nat} (hl : l.stackTraces = false) (hr : HR as tc h ws) (ha : AR as As vs)
    {p : Program} {e : Env} {s : State} {m : MethodId} {args : Array Value} {below : List Frame} {meth : Method} {c : Code} (hx : p.tables.exec = Jvm.exec) (hb : c.code = mdB M) (hml : c.maxLocals = mdL M) (hrt : meth.sig.returnType = mdR M) (hts : ∀ w ∈ wsM M, w.before args s = true) (hown : s.vm.findClass (mdY M).cls = some m.cls) (hlk : meth.locks = false) (hnm : meth.name = (mdY M).name) (het : c.exceptionTable.toList = tableOf (mdH M)) (hv : CPre D tc ws sz vs args s) :
    W p l e (headSpec (wsM M) { frames := d, cells := k, slots := n, locals := 35 * d }).room s m args below meth c s.heap [] 0 0 (vx_MQ below (CQ P D tc as ws sz) (CX P D tc as ws sz) args s k n (va_A ws sz)) (entryFrame m args (mdL M)) := by
  obtain ⟨rfl, rfl, hP, hK, hD, hE⟩ := hv
  rw [lg_entry_eq]
  have hC : Cx d M p l (headSpec (wsM M) { frames := d, cells := k, slots := n, locals := 35 * d }).room s m vs.toArray meth c := ⟨hx, hb, hml, hrt, hown, wsM_hts hts, hlk, hnm, hl, het, Nat.le_refl _, Nat.le_refl _⟩
  have hI : Ix D tc (va_A ws s.heap.size) s as h ws s.heap [] := ⟨hK, hE, fun q hq => Or.inr hq, hr, hP, hD.self, va_S.rf⟩
  have hZ : Sx none 0 (va_A ws s.heap.size) s := fun L xs q => by cases q
  have hck : 0 + k ≤ (headSpec (wsM M) { frames := d, cells := k, slots := n, locals := 35 * d }).room.cells := by show 0 + k ≤ k; omega
  have hsn : 0 + n ≤ (headSpec (wsM M) { frames := d, cells := k, slots := n, locals := 35 * d }).room.slots := by show 0 + n ≤ n; omega
  refine hw hC hI hZ (ent_LR ha hn) trivial hck hsn ?_ ?_
  · intro H locs cells slots as' h' ws' pc L av vv hp hg hI' hc hs hov hret
    have hc' : cells ≤ k := hc
    have hs' : slots ≤ n := hs
    refine W.widen hc' hs' (vx_ret ?_)
    have hq : ∀ t : State, t.heap = H → s.WarmedH t.vm → CQ P D tc as ws s.heap.size vs.toArray s (.returned vv) t := fun t ht hW =>
      ⟨⟨av, vv, h', as', ws', rfl, hp, hg, hov, hI'.2.2.2.1, by rw [ht]; exact hI'.2.2.2.2.1, va_K.moved hW.alike hI'.1, hI'.2.2.2.2.2.1⟩, hI'.2.2.2.2.2.2.F ht⟩
    have hf : ∀ q ∈ locs, va_A ws s.heap.size q.base := hI'.2.2.2.2.2.2.2.2
    cases av with
    | none =>
      have e1 : vv = none := hov
      subst e1
      obtain ⟨r1, r2⟩ := hret
      exact W.vret hx hb (hrt.trans r2) hq hf r1 hlk
    | some v =>
      obtain ⟨x, rfl, hx2⟩ := hov
      cases v with
      | int y =>
        cases hx2
        obtain ⟨r1, ty, r2, r3⟩ := hret
        exact W.zret hx hb (hrt.trans r2) r3 hq hf r1 hlk
      | long y =>
        cases hx2
        exact W.lret hx hb (hrt.trans hret.2) hq hf hret.1 hlk
      | double y =>
        cases hx2
        exact W.dret hx hb (hrt.trans hret.2) hq hf hret.1 hlk
      | ref y =>
        obtain ⟨a, -, rfl⟩ := hx2
        obtain ⟨r1, rt, r2, r3⟩ := hret
        exact W.aret hx hb (hrt.trans r2) r3 (Or.inr ⟨a, rfl⟩) hq hf r1 hlk
      | float y => exact hret.elim
      | null => exact hret.elim
      | retAddr y => exact hret.elim
  · intro H locs cells slots as' h' ws' pc L rest E ce q hp hg hI' hc hs hce hcv hcl hcov
    have hc' : cells ≤ k := hc
    have hs' : slots ≤ n := hs
    refine vx_out (fun x hx9 => hcov x (by rw [← het]; exact hx9)) hlk hce hcv hcl (fun t ht hA => ?_) hI'.2.2.2.2.2.2.2.2 hc' hs'
    exact ⟨⟨h', as', ws', hp, hg, hI'.2.2.2.1, by rw [ht]; exact hI'.2.2.2.2.1, va_K.moved hA hI'.1, hI'.2.2.2.2.2.1⟩, hI'.2.2.2.2.2.2.F ht⟩
theorem Ct.of {d k n : Nat} {M : MD} {As : List Value} {h : AH} {P : AO → AH → Prop} (hpl : plainName (mdY M).cls = true) (hh : mdH M = []) (hn : (As.flatMap fun v => if wide v then [v, vU] else [v]).length ≤ mdL M) (hw : WP d M none k n 0 (entL (mdL M) As) [] h P) : Ct d M k n As h P := by
  intro l D tc as ws vs sz hl hr ha
  have hwo : wsM M = Cond.code (mdY M) (mdB M) (mdL M) (mdR M) :: wsAll := by unfold wsM wordOf; rw [hh]
  refine vx_ofW (cc := mdB M) (maxL := mdL M) (ret := mdR M) hpl hwo ?_
  intro p e s m args below meth c s₁ B hml het hv
  exact Ct.body hn hw hl hr ha B.exec B.bytes hml B.returns (atoms_spec (ws := wsM M) B.pre) (findClass_of_methodNamed B.named) B.notSynchronized (name_of_methodNamed B.named B.method).1 (by
    rw [hh]
    cases hx : c.exceptionTable.toList with
    | nil => rfl
    | cons y ys => exact (het y (by rw [hx]; exact List.mem_cons_self)).elim) hv
theorem vx_ofWF {l : Launch} {y : MethodName} {ws ws' : List Cond} {rm : Room} {Pc : Array Value → State → Prop} {Qc : Array Value → State → Outcome → State → Prop} {XC : String → State → State → Prop} {mc ms : Nat} {free : Addr → Prop} {cc : ByteArray} {maxL : Nat} {ret : Option FieldType}
    (hy : plainFor y = true) (hw : ws = Cond.code y cc maxL ret :: ws')
    (body : ∀ p e s m args below meth c s₁, BodyLoose p l y (headSpec ws rm) cc maxL ret e s m args below meth c s₁ → c.maxLocals = maxL → (∀ x ∈ c.exceptionTable.toList, False) → Pc args s →
      W p l e (headSpec ws rm).room s m args below meth c s.heap [] 0 0 (vx_MQ below Qc XC args s mc ms free) (entryFrame m args maxL)) : vx_Met l y ws rm Pc Qc XC mc ms free := by
  refine MetFree.of_bodySF (code := cc) (maxLocals := maxL) (ret := ret) hy ?_ ?_
  · intro args s m h hn
    obtain ⟨meth, c, h1, h2, h3, h4, h5, h6, -, -⟩ := Cond.code_spec hn (atoms_spec (ws := ws) h _ (by rw [hw]; exact List.mem_cons_self))
    exact ⟨meth, c, h1, h2, h3, h4, h5, h6⟩
  · intro p e s m args below meth c s₁ B hml hP _
    have hh0 : s₁.heap = s.heap := by rw [B.state]; rfl
    have ht : ∀ x ∈ c.exceptionTable.toList, False := by
      obtain ⟨meth9, c9, h1, h2, -, -, -, -, h7, -⟩ := Cond.code_spec B.named (atoms_spec (ws := ws) B.pre _ (by rw [hw]; exact List.mem_cons_self))
      cases Option.some.inj (h1.symm.trans B.method)
      cases Option.some.inj (h2.symm.trans (Stand.of_body B).code)
      intro x hx
      rw [Array.isEmpty_iff.mp h7] at hx
      cases hx
    obtain ⟨t, a1, o, b1, b2, b3⟩ := body p e s m args below meth c s₁ B hml ht hP s₁ hh0 (Stand.of_body B)
    exact ⟨t, o, a1, b1, b2, b3⟩
theorem Ct.ofF {d k n : Nat} {M : MD} {As : List Value} {h : AH} {P : AO → AH → Prop} (hpl : plainFor (mdY M) = true) (hh : mdH M = []) (hn : (As.flatMap fun v => if wide v then [v, vU] else [v]).length ≤ mdL M) (hw : WP d M none k n 0 (entL (mdL M) As) [] h P) : Ct d M k n As h P := by
  intro l D tc as ws vs sz hl hr ha
  have hwo : wsM M = Cond.code (mdY M) (mdB M) (mdL M) (mdR M) :: wsAll := by unfold wsM wordOf; rw [hh]
  refine vx_ofWF (cc := mdB M) (maxL := mdL M) (ret := mdR M) hpl hwo ?_
  intro p e s m args below meth c s₁ B hml het hv
  exact Ct.body hn hw hl hr ha B.exec B.bytes hml B.returns (atoms_spec (ws := wsM M) B.pre) (findClass_of_methodNamed B.named) B.notSynchronized (name_of_methodNamed B.named B.method).1 (by
    rw [hh]
    cases hx : c.exceptionTable.toList with
    | nil => rfl
    | cons y ys => exact (het y (by rw [hx]; exact List.mem_cons_self)).elim) hv
theorem Ct.ofH {d k n : Nat} {M : MD} {As : List Value} {h : AH} {P : AO → AH → Prop} {q0 : Nat × Nat × Nat × Nat} {hs : List (Nat × Nat × Nat × Nat)} (hpl : plainName (mdY M).cls = true) (hh : mdH M = q0 :: hs) (hn : (As.flatMap fun v => if wide v then [v, vU] else [v]).length ≤ mdL M) (hw : WP d M none k n 0 (entL (mdL M) As) [] h P) : Ct d M k n As h P := by
  intro l D tc as ws vs sz hl hr ha
  have hwo : wsM M = Cond.codeWith (mdY M) (mdB M) (mdL M) (mdR M) (mdH M) :: wsAll := by unfold wsM wordOf; rw [hh]
  refine vx_ofWH (cc := mdB M) (maxL := mdL M) (ret := mdR M) (hh := mdH M) hpl hwo ?_
  intro p e s m args below meth c s₁ B hml hv
  have hts := atoms_spec (ws := wsM M) B.pre
  exact Ct.body hn hw hl hr ha B.exec B.bytes hml B.returns hts (findClass_of_methodNamed B.named) B.notSynchronized (name_of_methodNamed B.named B.method).1 (vx_table (x := mdY M) B (hts _ (by rw [hwo]; exact List.mem_cons_self))) hv
end
section
/-! the call rules -/
theorem Met_of_vx {l : Launch} {y : MethodName} {ws : List Cond} {rm : Room} {Pc : Array Value → State → Prop} {Qc : Array Value → State → Outcome → State → Prop} {XC : String → State → State → Prop} {mc ms : Nat} {free : Addr → Prop}
    (h : vx_Met l y ws rm Pc Qc XC mc ms free) (hx : ∀ E st t, ¬ XC E st t) : Met l y ws rm Pc Qc mc ms free := by
  intro p e ha hc hk s m args below hf hap hP hK
  obtain ⟨n, o, h1, h2, h3, h4⟩ := h p e ha hc hk s m args below hf hap hP hK
  rcases h4 with h4 | ⟨q, -, E, ce, L, hXC, -⟩
  · exact ⟨n, o, h1, h2, h3, h4⟩
  · exact absurd hXC (hx _ _ _)
theorem vx_of_va {p : Program} {l : Launch} {e : Env} {R : Room} {s : State} {m : MethodId} {args : Array Value} {below : List Frame} {meth : Method} {c : Code} {H : Heap} {locs : List Loc} {cells slots mc ms : Nat} {g : JFrame} {rest : List Value} {Qa : State → Outcome → State → Prop} {XC : String → State → State → Prop} {free : Addr → Prop}
    (h : va_Run p l e R s m args below meth c H locs cells slots mc ms g rest Qa free) : vx_Run p l e R s m args below meth c H locs cells slots mc ms g rest Qa XC free := fun T hT X => Or.inl (h T hT X)
theorem Ix.free {D : va_G} {tc : TC} {A : Nat → Prop} {s : State} {as : List Nat} {h : AH} {ws : va_W} {H : Heap} {locs : List Loc} (hI : Ix D tc A s as h ws H locs) : ∀ q, va_A ws H.size q → A q := by
  intro q hq
  rcases hq with ⟨k, e, hk⟩ | hq
  · exact hI.2.2.2.2.2.1.2 k (q, e) hk
  · exact hI.2.2.1 q (Nat.le_trans hI.2.2.2.2.2.2.1 hq)
/-- what is known of a method that is called -/
def MOk (M : MD) (np : Nat) : Prop := wordOf M ∈ wsAll ∧ Cond.initialized (mdY M).cls ∈ wsAll ∧ (mdY M).cls ≠ "java/lang/invoke/MethodHandle" ∧ (mdY M).cls ≠ "java/lang/invoke/VarHandle" ∧ (parseMethodDescriptor (mdY M).desc).map (fun d => d.parameters.length) = some np ∧ mdL M ≤ 16
section RUN
variable {d : Nat} {M M' : MD} {z : Option (Nat × (Nat → Int32))} {k n pc : Nat} {ls st : List Value} {h : AH} {P : AO → AH → Prop} {P' : AO → AH → Prop}
theorem call_end {p : Program} {l : Launch} {e : Env} {R : Room} {s : State} {m : MethodId} {args : Array Value} {below : List Frame} {meth : Method} {c : Code} {D : va_G} {tc : TC} {A : Nat → Prop} {H : Heap} {locs : List Loc} {cells slots : Nat} {as : List Nat} {ws : va_W} {L : Array Slot} {sv rest : List Value} {sb : Nat} {Q : State → Prop} {k1 n1 k2 n2 : Nat} {a : Array Value}
    (hC : Cx d M p l R s m args meth c) (hI : Ix D tc A s as h ws H locs) (hX : Sx z sb A s) (hL : LR as sb (mdL M) ls L) (hS : SR as sb st rest) (hc : cells + (k1 + k2) ≤ R.cells) (hs : slots + (n1 + n2) ≤ R.slots) (hr : Kr M P D tc A p l e R s m args below meth c as Q) (ht : Kt M P D tc A p l e R s m args below meth c as Q)
    (hrun : vx_Run p l e R s m args below meth c H locs cells slots k1 n1 (F0 m pc L sv) rest (CQ P' D tc as ws H.size a) (CX P' D tc as ws H.size) (va_A ws H.size))
    (kk : ∀ av h', P' (.inl av) h' → WP d M z k2 n2 (pc + 3) ls (av.toList ++ st) h' P) (kx : ∀ E h', P' (.inr E) h' → WX d M z k2 n2 pc ls E h' P) : W p l e R s m args below meth c H locs cells slots Q (F0 m pc L sv) := by
  have hA := hI.free
  intro T hT X
  rcases hrun T hT X with ⟨v, st₀, t, T', L', h0, X', hL', e1, e2, ⟨⟨av, vv, h', as', ws', hv, hp, hg, hov, hHR, hP', hK', hD'⟩, hF⟩, st'⟩ | ⟨q, st₀, t, T', L', E, ce, h0, X', hL', e1, e2, ⟨⟨h', as', ws', hp, hg, hHR, hP', hK', hD'⟩, hF⟩, hce, hcv, hcl, st'⟩
  · have hv' : v = vv := by injection hv
    subst hv'
    obtain ⟨k1', k2', k3'⟩ := vx_keep h0 e1 hI.2.2.2.2.2.2 (fun q _ hq => hA q hq) (fun q hq => hA q hq) hL' hF
    have hvm : s.vm.Alike t.vm := by rw [← e2]; exact X'.warmed.alike
    have hI' : Ix D tc A s as' h' ws' T'.heap (locs ++ L') := ⟨va_K.moved hvm.symm hK', hI.2.1, hI.2.2.1, hHR, by rw [e1]; exact hP', hD'.weaken (fun _ q _ hq => hA q.1 hq), k3'⟩
    have hS' : SR as' sb (av.toList ++ st) (v.toList ++ rest) := by
      cases av with
      | none =>
        have : v = none := hov
        subst this
        exact hS.gr hg
      | some x =>
        obtain ⟨y, rfl, hy⟩ := hov
        exact ⟨hy.to, hS.gr hg⟩
    obtain ⟨t2, a1, b1⟩ := kk av h' hp hC hI' hX (hL.gr hg) hS' (by omega) (by omega) (hr.gr hg) (ht.gr hg) T' rfl X'
    exact ⟨t2, st' t2 a1, b1⟩
  · obtain ⟨k1', k2', k3'⟩ := vx_keep h0 e1 hI.2.2.2.2.2.2 (fun q _ hq => hA q hq) (fun q hq => hA q hq) hL' hF
    have hvm : s.vm.Alike t.vm := by rw [← e2]; exact X'.warmed.alike
    have hI' : Ix D tc A s as' h' ws' T'.heap (locs ++ L') := ⟨va_K.moved hvm.symm hK', hI.2.1, hI.2.2.1, hHR, by rw [e1]; exact hP', hD'.weaken (fun _ q _ hq => hA q.1 hq), k3'⟩
    obtain ⟨t2, a1, b1⟩ := kx E h' hp hC hI' hX (hL.gr hg) (by omega) (by omega) (hr.gr hg) (ht.gr hg) (by rw [e1]; exact hce) hcv hcl T' rfl X'
    exact ⟨t2, st'.trans a1, b1⟩
theorem pays {args : Array Value} {s : State} (hm : wordOf M' ∈ wsAll) (hts : ∀ w ∈ wsAll, w.before args s = true) : ∀ w ∈ wsM M', ∀ (a' : Array Value) (U : State), s.WarmedH U.vm → w.before a' U = true := by
  intro w hw a' U hW
  have hw2 : w ∈ wsAll := by
    rcases List.mem_cons.mp hw with rfl | hw
    · exact hm
    · exact hw
  exact word_at hW (good_of_word (wsAll_good hw2)) (hts w hw2)
theorem cpre {D : va_G} {tc : TC} {A : Nat → Prop} {s : State} {as : List Nat} {ws : va_W} {H : Heap} {locs : List Loc} {vs : List Value} (hI : Ix D tc A s as h ws H locs) : ∀ U : State, U.heap = H → s.WarmedH U.vm → CPre D tc ws H.size vs vs.toArray U := by
  intro U hU hW
  refine ⟨rfl, by rw [hU], by rw [hU]; exact hI.2.2.2.2.1, va_K.moved hW.alike hI.1, hI.2.2.2.2.2.1.weaken (fun _ _ _ _ => trivial), ?_⟩
  rw [hU]
  exact EX.go hI.2.1 hW hI.2.2.2.2.2.2.2.1 hI.free
theorem plen {np : Nat} (hm : MOk M' np) : ∀ sig, parseMethodDescriptor (mdY M').desc = some sig → np = sig.parameters.length := by
  intro sig hsig
  have h2 := hm.2.2.2.2.1
  rw [hsig] at h2
  exact (Option.some.inj h2).symm
theorem w_callV {i a ci np k1 n1 k2 n2 : Nat} {As : List Value} {fs : List Value} (hd : decode (mdB M) pc = .ok (.invokevirtual i, 3)) (hm : MOk M' np) (hh0 : mdH M' = []) (hw1 : Cond.methodLink (mdY M).cls i (mdY M') ∈ wsAll) (hw2 : Cond.instanceMethod (mdY M') ∈ wsAll) (hw3 : Cond.selects (mdY M').cls (mdY M') (mdY M') ∈ wsAll) {q : vw_C} (hq : cls5[ci]? = some q) (hqc : q.1 = (mdY M').cls)
    (hh : h[a]? = some (.inr (ci, fs))) (hA : As.length = np) (hx : noX (.ref a :: As) = true) (ho : okK st = true) (hcs : catsum st ≤ 8) (hct : Ct d M' k1 n1 (.ref a :: As) h P')
    (kk : ∀ av h', P' (.inl av) h' → WP (d + 1) M z k2 n2 (pc + 3) ls (av.toList ++ st) h' P) (kx : ∀ E h', P' (.inr E) h' → WX (d + 1) M z k2 n2 pc ls E h' P) : WP (d + 1) M z (k1 + k2) (n1 + n2) pc ls (As.reverse ++ .ref a :: st) h P := by
  intro p l e R s m args below meth c D tc A H locs cells slots as ws L sv sb Q hC hI hX hL hS hc hs hr ht
  obtain ⟨vs, y, rfl, hS1, hS2⟩ := hS.unrev
  obtain ⟨_, rest, rfl, ⟨a', ha, rfl⟩, hS3⟩ := hS2.c
  have hAR : AR as (.ref a :: As) (.ref a' :: vs) := AR.of (sb := sb) ⟨⟨a', ha, rfl⟩, hS1⟩ hx
  have hM := hct l D tc as ws (.ref a' :: vs) H.size hC.2.2.2.2.2.2.2.2.1 hI.2.2.2.1 hAR
  obtain ⟨vs0, g1, -, -⟩ := hI.2.2.2.1.obj ha hh
  have hw0 : wordOf M' = Cond.code (mdY M') (mdB M') (mdL M') (mdR M') := by unfold wordOf; rw [hh0]
  have hwc : Cond.code (mdY M') (mdB M') (mdL M') (mdR M') ∈ wsM M' := by rw [← hw0]; exact List.mem_cons_self
  have hts := hC.2.2.2.2.2.1
  have hf := hC.2.2.2.2.2.2.2.2.2.2.1
  have hl := hC.2.2.2.2.2.2.2.2.2.2.2
  have hL16 := hm.2.2.2.2.2
  refine call_end hC hI hX hL hS3 hc hs hr ht (vx_runV (As := vs) (rest := rest) (C := (mdY M').cls) (index := i) (n := np) ⟨hC.1, hC.2.1, hC.2.2.1, hC.2.2.2.2.1, hts⟩ hM ⟨⟨rfl, rfl, hf, by show 8 + (mdL M' + 11) + 35 * d ≤ _; omega, pays hm.1 hts, hwc, ?_, hts _ hm.2.1, ⟨hm.2.2.1, hm.2.2.2.1⟩, plen hm, hts _ hw1⟩, hts _ hw2, hts _ hw3⟩ ⟨CPre.blind, ?_, cpre hI⟩ rfl (hS1.len.symm.trans hA) hL.2.1 rfl ?_ hd ⟨by omega, by omega⟩) kk kx
  · rw [← hw0]; exact hts _ hm.1
  · rw [← hqc]
    exact va_recv hI.1 hI.2.2.2.2.1 (q0 := a) hq g1
  · refine lv_room ?_
    rw [hS3.cats ho]
    exact hcs
theorem w_callVN {i a ci np k1 n1 k2 n2 : Nat} {host : String} {As : List Value} {fs : List Value} (hd : decode (mdB M) pc = .ok (.invokevirtual i, 3)) (hm : MOk M' np) (hh0 : mdH M' = []) (hw1 : Cond.methodLinkNest (mdY M).cls i (mdY M') host ∈ nestW) (hw2 : Cond.instanceMethod (mdY M') ∈ wsAll) (hw3 : Cond.selects (mdY M').cls (mdY M') (mdY M') ∈ wsAll) {q : vw_C} (hq : cls5[ci]? = some q) (hqc : q.1 = (mdY M').cls)
    (hh : h[a]? = some (.inr (ci, fs))) (hA : As.length = np) (hx : noX (.ref a :: As) = true) (ho : okK st = true) (hcs : catsum st ≤ 8) (hct : Ct d M' k1 n1 (.ref a :: As) h P')
    (kk : ∀ av h', P' (.inl av) h' → WP (d + 1) M z k2 n2 (pc + 3) ls (av.toList ++ st) h' P) (kx : ∀ E h', ¬ P' (.inr E) h') : WP (d + 1) M z (k1 + k2) (n1 + n2) pc ls (As.reverse ++ .ref a :: st) h P := by
  intro p l e R s m args below meth c D tc A H locs cells slots as ws L sv sb Q hC hI hX hL hS hc hs hr ht
  obtain ⟨vs, y, rfl, hS1, hS2⟩ := hS.unrev
  obtain ⟨_, rest, rfl, ⟨a', ha, rfl⟩, hS3⟩ := hS2.c
  have hAR : AR as (.ref a :: As) (.ref a' :: vs) := AR.of (sb := sb) ⟨⟨a', ha, rfl⟩, hS1⟩ hx
  have hM := Met_of_vx (hct l D tc as ws (.ref a' :: vs) H.size hC.2.2.2.2.2.2.2.2.1 hI.2.2.2.1 hAR) (fun E st t hX9 => by obtain ⟨⟨h9, _, _, h8, -⟩, -⟩ := hX9; exact kx E h9 h8)
  obtain ⟨vs0, g1, -, -⟩ := hI.2.2.2.1.obj ha hh
  have hw0 : wordOf M' = Cond.code (mdY M') (mdB M') (mdL M') (mdR M') := by unfold wordOf; rw [hh0]
  have hwc : Cond.code (mdY M') (mdB M') (mdL M') (mdR M') ∈ wsM M' := by rw [← hw0]; exact List.mem_cons_self
  have hts := hC.2.2.2.2.2.1
  have hf := hC.2.2.2.2.2.2.2.2.2.2.1
  have hl := hC.2.2.2.2.2.2.2.2.2.2.2
  have hL16 := hm.2.2.2.2.2
  refine call_end (P' := P') hC hI hX hL hS3 hc hs hr ht (vx_of_va (va_runVN (As := vs) (rest := rest) (C := (mdY M').cls) (index := i) (n := np) (host := host) ⟨hC.1, hC.2.1, hC.2.2.1, hC.2.2.2.2.1, hts⟩ hM ⟨⟨⟨rfl, rfl, hf, by show 8 + (mdL M' + 11) + 35 * d ≤ _; omega, pays hm.1 hts, hwc⟩, ?_, hts _ hm.2.1, ⟨hm.2.2.1, hm.2.2.2.1⟩, plen hm, (hI.2.1.2.2.2.2.2.1 _ hw1).use (by rfl)⟩, hts _ hw2, hts _ hw3⟩ ⟨CPre.blind, ?_, cpre hI⟩ rfl (hS1.len.symm.trans hA) hL.2.1 rfl ?_ hd ⟨by omega, by omega⟩)) kk (fun E h' hp => absurd hp (kx E h'))
  · rw [← hw0]; exact hts _ hm.1
  · rw [← hqc]
    exact va_recv hI.1 hI.2.2.2.2.1 (q0 := a) hq g1
  · refine lv_room ?_
    rw [hS3.cats ho]
    exact hcs
theorem w_callS {i np k1 n1 k2 n2 : Nat} {As : List Value} (hd : decode (mdB M) pc = .ok (.invokestatic i, 3)) (hm : MOk M' np) (hh0 : mdH M' = []) (hw1 : Cond.methodLink (mdY M).cls i (mdY M') ∈ wsAll) (hw2 : Cond.static (mdY M') ∈ wsAll)
    (hA : As.length = np) (hx : noX As = true) (ho : okK st = true) (hcs : catsum st ≤ 8) (hct : Ct d M' k1 n1 As h P')
    (kk : ∀ av h', P' (.inl av) h' → WP (d + 1) M z k2 n2 (pc + 3) ls (av.toList ++ st) h' P) (kx : ∀ E h', P' (.inr E) h' → WX (d + 1) M z k2 n2 pc ls E h' P) : WP (d + 1) M z (k1 + k2) (n1 + n2) pc ls (As.reverse ++ st) h P := by
  intro p l e R s m args below meth c D tc A H locs cells slots as ws L sv sb Q hC hI hX hL hS hc hs hr ht
  obtain ⟨vs, rest, rfl, hS1, hS3⟩ := hS.unrev
  have hAR : AR as As vs := AR.of hS1 hx
  have hM := hct l D tc as ws vs H.size hC.2.2.2.2.2.2.2.2.1 hI.2.2.2.1 hAR
  have hw0 : wordOf M' = Cond.code (mdY M') (mdB M') (mdL M') (mdR M') := by unfold wordOf; rw [hh0]
  have hwc : Cond.code (mdY M') (mdB M') (mdL M') (mdR M') ∈ wsM M' := by rw [← hw0]; exact List.mem_cons_self
  have hts := hC.2.2.2.2.2.1
  have hf := hC.2.2.2.2.2.2.2.2.2.2.1
  have hl := hC.2.2.2.2.2.2.2.2.2.2.2
  have hL16 := hm.2.2.2.2.2
  refine call_end hC hI hX hL hS3 hc hs hr ht (vx_runS (As := vs) (rest := rest) (index := i) (n := np) ⟨hC.1, hC.2.1, hC.2.2.1, hC.2.2.2.2.1, hts⟩ hM ⟨⟨rfl, rfl, hf, by show 8 + (mdL M' + 11) + 35 * d ≤ _; omega, pays hm.1 hts, hwc, ?_, hts _ hm.2.1, ⟨hm.2.2.1, hm.2.2.2.1⟩, plen hm, hts _ hw1⟩, hts _ hw2⟩ ⟨CPre.blind, cpre hI⟩ rfl (hS1.len.symm.trans hA) hL.2.1 rfl ?_ hd ⟨by omega, by omega⟩) kk kx
  · rw [← hw0]; exact hts _ hm.1
  · refine lv_room ?_
    rw [hS3.cats ho]
    exact hcs
theorem w_callSX {i np k1 n1 k2 n2 : Nat} {As : List Value} {q0 : Nat × Nat × Nat × Nat} {hs0 : List (Nat × Nat × Nat × Nat)} (hd : decode (mdB M) pc = .ok (.invokestatic i, 3)) (hm : MOk M' np) (hh0 : mdH M' = q0 :: hs0) (hw1 : Cond.methodLink (mdY M).cls i (mdY M') ∈ wsAll) (hw2 : Cond.static (mdY M') ∈ wsAll)
    (hA : As.length = np) (hx : noX As = true) (ho : okK st = true) (hcs : catsum st ≤ 8) (hct : Ct d M' k1 n1 As h P')
    (kk : ∀ av h', P' (.inl av) h' → WP (d + 1) M z k2 n2 (pc + 3) ls (av.toList ++ st) h' P) (kx : ∀ E h', P' (.inr E) h' → WX (d + 1) M z k2 n2 pc ls E h' P) : WP (d + 1) M z (k1 + k2) (n1 + n2) pc ls (As.reverse ++ st) h P := by
  intro p l e R s m args below meth c D tc A H locs cells slots as ws L sv sb Q hC hI hX hL hS hc hs hr ht
  obtain ⟨vs, rest, rfl, hS1, hS3⟩ := hS.unrev
  have hAR : AR as As vs := AR.of hS1 hx
  have hM := hct l D tc as ws vs H.size hC.2.2.2.2.2.2.2.2.1 hI.2.2.2.1 hAR
  have hw0 : wordOf M' = Cond.codeWith (mdY M') (mdB M') (mdL M') (mdR M') (mdH M') := by unfold wordOf; rw [hh0]
  have hwc : Cond.codeWith (mdY M') (mdB M') (mdL M') (mdR M') (mdH M') ∈ wsM M' := by rw [← hw0]; exact List.mem_cons_self
  have hts := hC.2.2.2.2.2.1
  have hf := hC.2.2.2.2.2.2.2.2.2.2.1
  have hl := hC.2.2.2.2.2.2.2.2.2.2.2
  have hL16 := hm.2.2.2.2.2
  refine call_end hC hI hX hL hS3 hc hs hr ht (vx_runSX (As := vs) (rest := rest) (index := i) (n := np) (hh := mdH M') ⟨hC.1, hC.2.1, hC.2.2.1, hC.2.2.2.2.1, hts⟩ hM ⟨⟨rfl, rfl, hf, by show 8 + (mdL M' + 11) + 35 * d ≤ _; omega, pays hm.1 hts, hwc⟩, ?_, hts _ hm.2.1, ⟨hm.2.2.1, hm.2.2.2.1⟩, plen hm, hts _ hw1, hts _ hw2⟩ ⟨CPre.blind, cpre hI⟩ rfl (hS1.len.symm.trans hA) hL.2.1 rfl ?_ hd ⟨by omega, by omega⟩) kk kx
  · rw [← hw0]; exact hts _ hm.1
  · refine lv_room ?_
    rw [hS3.cats ho]
    exact hcs
theorem w_callI {i a np k1 n1 k2 n2 : Nat} {As : List Value} (hd : decode (mdB M) pc = .ok (.invokespecial i, 3)) (hm : MOk M' np) (hh0 : mdH M' = []) (hr0 : mdR M' = none) (hnm : (mdY M').name = "<init>") (hw1 : Cond.methodLink (mdY M).cls i (mdY M') ∈ wsAll) (hw2 : Cond.instanceMethod (mdY M') ∈ wsAll)
    (hA : As.length = np) (hx : noX (.ref a :: As) = true) (ho : okK st = true) (hcs : catsum st ≤ 8) (hct : Ct d M' k1 n1 (.ref a :: As) h P')
    (kk : ∀ av h', P' (.inl av) h' → WP (d + 1) M z k2 n2 (pc + 3) ls (av.toList ++ st) h' P) (kx : ∀ E h', ¬ P' (.inr E) h') : WP (d + 1) M z (k1 + k2) (n1 + n2) pc ls (As.reverse ++ .ref a :: st) h P := by
  intro p l e R s m args below meth c D tc A H locs cells slots as ws L sv sb Q hC hI hX hL hS hc hs hr ht
  obtain ⟨vs, y, rfl, hS1, hS2⟩ := hS.unrev
  obtain ⟨_, rest, rfl, ⟨a', ha, rfl⟩, hS3⟩ := hS2.c
  have hAR : AR as (.ref a :: As) (.ref a' :: vs) := AR.of (sb := sb) ⟨⟨a', ha, rfl⟩, hS1⟩ hx
  have hM := Met_of_vx (hct l D tc as ws (.ref a' :: vs) H.size hC.2.2.2.2.2.2.2.2.1 hI.2.2.2.1 hAR) (fun E st t hX9 => by obtain ⟨⟨h9, _, _, h8, -⟩, -⟩ := hX9; exact kx E h9 h8)
  have hw0 : wordOf M' = Cond.code (mdY M') (mdB M') (mdL M') none := by unfold wordOf; rw [hh0, hr0]
  have hwc : Cond.code (mdY M') (mdB M') (mdL M') none ∈ wsM M' := by rw [← hw0]; exact List.mem_cons_self
  have hts := hC.2.2.2.2.2.1
  have hf := hC.2.2.2.2.2.2.2.2.2.2.1
  have hl := hC.2.2.2.2.2.2.2.2.2.2.2
  have hL16 := hm.2.2.2.2.2
  refine call_end (P' := P') hC hI hX hL hS3 hc hs hr ht (vx_of_va (va_runI (As := vs) (rest := rest) (index := i) (n := np) ⟨hC.1, hC.2.1, hC.2.2.1, hC.2.2.2.2.1, hts⟩ hM ⟨⟨rfl, rfl, hf, by show 8 + (mdL M' + 11) + 35 * d ≤ _; omega, pays hm.1 hts, hwc, ?_, hts _ hm.2.1, ⟨hm.2.2.1, hm.2.2.2.1⟩, plen hm, hts _ hw1⟩, hnm, hts _ hw2⟩ ⟨CPre.blind, cpre hI⟩ rfl (hS1.len.symm.trans hA) hL.2.1 rfl ?_ hd ⟨by omega, by omega⟩)) kk (fun E h' hp => absurd hp (kx E h'))
  · rw [← hw0]; exact hts _ hm.1
  · refine lv_room ?_
    rw [hS3.cats ho]
    exact hcs
theorem w_callIN {i a np k1 n1 k2 n2 : Nat} {host : String} {As : List Value} (hd : decode (mdB M) pc = .ok (.invokespecial i, 3)) (hm : MOk M' np) (hh0 : mdH M' = []) (hr0 : mdR M' = none) (hnm : (mdY M').name = "<init>") (hw1 : Cond.methodLinkNest (mdY M).cls i (mdY M') host ∈ nestW) (hw2 : Cond.instanceMethod (mdY M') ∈ wsAll)
    (hA : As.length = np) (hx : noX (.ref a :: As) = true) (ho : okK st = true) (hcs : catsum st ≤ 8) (hct : Ct d M' k1 n1 (.ref a :: As) h P')
    (kk : ∀ av h', P' (.inl av) h' → WP (d + 1) M z k2 n2 (pc + 3) ls (av.toList ++ st) h' P) (kx : ∀ E h', ¬ P' (.inr E) h') : WP (d + 1) M z (k1 + k2) (n1 + n2) pc ls (As.reverse ++ .ref a :: st) h P := by
  intro p l e R s m args below meth c D tc A H locs cells slots as ws L sv sb Q hC hI hX hL hS hc hs hr ht
  obtain ⟨vs, y, rfl, hS1, hS2⟩ := hS.unrev
  obtain ⟨_, rest, rfl, ⟨a', ha, rfl⟩, hS3⟩ := hS2.c
  have hAR : AR as (.ref a :: As) (.ref a' :: vs) := AR.of (sb := sb) ⟨⟨a', ha, rfl⟩, hS1⟩ hx
  have hM := Met_of_vx (hct l D tc as ws (.ref a' :: vs) H.size hC.2.2.2.2.2.2.2.2.1 hI.2.2.2.1 hAR) (fun E st t hX9 => by obtain ⟨⟨h9, _, _, h8, -⟩, -⟩ := hX9; exact kx E h9 h8)
  have hw0 : wordOf M' = Cond.code (mdY M') (mdB M') (mdL M') none := by unfold wordOf; rw [hh0, hr0]
  have hwc : Cond.code (mdY M') (mdB M') (mdL M') none ∈ wsM M' := by rw [← hw0]; exact List.mem_cons_self
  have hts := hC.2.2.2.2.2.1
  have hf := hC.2.2.2.2.2.2.2.2.2.2.1
  have hl := hC.2.2.2.2.2.2.2.2.2.2.2
  have hL16 := hm.2.2.2.2.2
  refine call_end (P' := P') hC hI hX hL hS3 hc hs hr ht (vx_of_va (va_runIN (As := vs) (rest := rest) (index := i) (n := np) (host := host) ⟨hC.1, hC.2.1, hC.2.2.1, hC.2.2.2.2.1, hts⟩ hM ⟨⟨⟨rfl, rfl, hf, by show 8 + (mdL M' + 11) + 35 * d ≤ _; omega, pays hm.1 hts, hwc⟩, ?_, hts _ hm.2.1, ⟨hm.2.2.1, hm.2.2.2.1⟩, plen hm, (hI.2.1.2.2.2.2.2.1 _ hw1).use (by rfl)⟩, hnm, hts _ hw2⟩ ⟨CPre.blind, cpre hI⟩ rfl (hS1.len.symm.trans hA) hL.2.1 rfl ?_ hd ⟨by omega, by omega⟩)) kk (fun E h' hp => absurd hp (kx E h'))
  · rw [← hw0]; exact hts _ hm.1
  · refine lv_room ?_
    rw [hS3.cats ho]
    exact hcs
/-! ends -/
theorem w_return (hd : decode (mdB M) pc = .ok (.return_, 1)) (hr0 : mdR M = none) (hp : P (.inl none) h) : WP d M z k n pc ls [] h P := by
  intro p l e R s m args below meth c D tc A H locs cells slots as ws L sv sb Q hC hI hX hL hS hc hs hr ht
  have e1 := hS.n
  subst e1
  exact hr H locs cells slots as h ws pc L none none hp Gr.rf hI (by omega) (by omega) rfl ⟨hd, hr0⟩
theorem w_ireturn {x : Int32} (hd : decode (mdB M) pc = .ok (.ireturn, 1)) (hr0 : ∃ ty, mdR M = some ty ∧ narrow ty (.int x) = .int x) (hp : P (.inl (some (.int x))) h) : WP d M z k n pc ls [.int x] h P := by
  intro p l e R s m args below meth c D tc A H locs cells slots as ws L sv sb Q hC hI hX hL hS hc hs hr ht
  obtain ⟨_, _, rfl, e0, hS0⟩ := hS.c
  cases e0
  have e1 := hS0.n
  subst e1
  exact hr H locs cells slots as h ws pc L (some (.int x)) (some (.int x)) hp Gr.rf hI (by omega) (by omega) ⟨_, rfl, rfl⟩ ⟨hd, hr0⟩
theorem w_lreturn {x : Int64} (hd : decode (mdB M) pc = .ok (.lreturn, 1)) (hr0 : mdR M = some .long) (hp : P (.inl (some (.long x))) h) : WP d M z k n pc ls [.long x] h P := by
  intro p l e R s m args below meth c D tc A H locs cells slots as ws L sv sb Q hC hI hX hL hS hc hs hr ht
  obtain ⟨_, _, rfl, e0, hS0⟩ := hS.c
  cases e0
  have e1 := hS0.n
  subst e1
  exact hr H locs cells slots as h ws pc L (some (.long x)) (some (.long x)) hp Gr.rf hI (by omega) (by omega) ⟨_, rfl, rfl⟩ ⟨hd, hr0⟩
theorem w_dreturn {x : UInt64} (hd : decode (mdB M) pc = .ok (.dreturn, 1)) (hr0 : mdR M = some .double) (hp : P (.inl (some (.double x))) h) : WP d M z k n pc ls [.double x] h P := by
  intro p l e R s m args below meth c D tc A H locs cells slots as ws L sv sb Q hC hI hX hL hS hc hs hr ht
  obtain ⟨_, _, rfl, e0, hS0⟩ := hS.c
  cases e0
  have e1 := hS0.n
  subst e1
  exact hr H locs cells slots as h ws pc L (some (.double x)) (some (.double x)) hp Gr.rf hI (by omega) (by omega) ⟨_, rfl, rfl⟩ ⟨hd, hr0⟩
theorem w_areturn {x : Nat} (hd : decode (mdB M) pc = .ok (.areturn, 1)) (hr0 : ∃ rt, mdR M = some rt ∧ ((∃ n, rt = .object n) ∨ ∃ t, rt = .array t)) (hp : P (.inl (some (.ref x))) h) : WP d M z k n pc ls [.ref x] h P := by
  intro p l e R s m args below meth c D tc A H locs cells slots as ws L sv sb Q hC hI hX hL hS hc hs hr ht
  obtain ⟨_, _, rfl, ⟨a', ha, rfl⟩, hS0⟩ := hS.c
  have e1 := hS0.n
  subst e1
  exact hr H locs cells slots as h ws pc L (some (.ref x)) (some (.ref a')) hp Gr.rf hI (by omega) (by omega) ⟨_, rfl, ⟨a', ha, rfl⟩⟩ ⟨hd, hr0⟩
theorem x_out {E : String} (hcov : (tableOf (mdH M)).all (fun x => !(covers x pc)) = true) (hp : P (.inr E) h) : WX d M z k n pc ls E h P := by
  intro p l e R s m args below meth c D tc A H locs cells slots as ws L rest sb Q ce q hC hI hX hL hc hs hr ht hce hcv hcl
  exact ht H locs cells slots as h ws pc L rest E ce q hp Gr.rf hI (by omega) (by omega) hce hcv hcl (fun x hx => by
    have h9 := List.all_eq_true.mp hcov x hx
    cases hcx : covers x pc with
    | false => rfl
    | true => rw [hcx] at h9; cases h9)
theorem x_catch {E : String} (hE : E ∈ exNames) (pre : List ExceptionTableEntry) (x : ExceptionTableEntry) (suf : List ExceptionTableEntry) (hsplit : tableOf (mdH M) = pre ++ x :: suf)
    (hpass : ∀ y ∈ pre, y.catchType ≠ 0 ∧ ∃ nm, nm ∈ exNames ∧ nm ≠ E ∧ Cond.classLink (mdY M).cls y.catchType nm ∈ wsAll) (hx : covers x pc = true) (h0 : x.catchType ≠ 0) (hlink : Cond.classLink (mdY M).cls x.catchType E ∈ wsAll)
    (kk : WP d M z k n x.handlerPc ls [vX] h P) : WX d M z k n pc ls E h P := by
  intro p l e R s m args below meth c D tc A H locs cells slots as ws L rest sb Q ce q hC hI hX hL hc hs hr ht hce hcv hcl
  have hts := hC.2.2.2.2.2.1
  refine vx_catch hC.2.2.2.2.1 pre x suf (by rw [hC.2.2.2.2.2.2.2.2.2.1]; exact hsplit) (fun y hy => Or.inr ?_) hx h0 (hts _ hlink) ((hI.2.1.2.2.2.2.2.2.2.2 E hE).use (by rfl)) hce hcv hcl ?_
  · obtain ⟨y1, nm, y2, y3, y4⟩ := hpass y hy
    exact ⟨y1, nm, hts _ y4, hI.2.1.2.2.2.2.2.2.2.1 E hE nm y2 (Ne.symm y3)⟩
  · exact kk hC hI hX hL ⟨⟨fun _ => ⟨q, rfl⟩, fun q => absurd q (by decide)⟩, trivial⟩ hc hs hr ht
end RUN
end
section
/-! Math, System.arraycopy, new int[n][m] -/
section MORE
variable {d : Nat} {M : MD} {z : Option (Nat × (Nat → Int32))} {k n pc : Nat} {ls st : List Value} {h : AH} {P : AO → AH → Prop}
theorem w_min {i : Nat} {x y : Int32} (hd : decode (mdB M) pc = .ok (.invokestatic i, 3)) (hw : Cond.methodLink (mdY M).cls i Lib.Math.min.name ∈ wsAll) (hd1 : 1 ≤ d) (ho : okK st = true) (hcs : catsum st ≤ 20) (kk : WP d M z k n (pc + 3) ls (.int (if y < x then y else x) :: st) h P) : WP d M z k n pc ls (.int y :: .int x :: st) h P := by
  intro p l e R s m args below meth c D tc A H locs cells slots as ws L sv sb Q hC hI hX hL hS hc hs hr ht
  obtain ⟨_, _, rfl, e0, hS0⟩ := hS.c
  obtain ⟨_, rest, rfl, e1, hS1⟩ := hS0.c
  cases e0
  cases e1
  have hts := hC.2.2.2.2.2.1
  have hf := hC.2.2.2.2.2.2.2.2.2.2.1
  have hl := hC.2.2.2.2.2.2.2.2.2.2.2
  have w1 : Cond.static Lib.Math.min.name ∈ wsAll := by decide +kernel
  have w2 : Cond.initialized "java/lang/Math" ∈ wsAll := by decide +kernel
  have w3 : Cond.code Lib.Math.min.name Lib.Math.min.code 2 (some .int) ∈ wsAll := by decide +kernel
  exact va_mmin hC.1 hC.2.1 (hC.2.2.1.trans hL.2.1.symm) hC.2.2.2.2.1 (hts _ hw) (hts _ w1) (hts _ w2) (hts _ w3) (by omega) (by rw [hS1.cats ho]; omega) (by omega) (by omega) hd (kk hC hI hX hL ⟨rfl, hS1⟩ hc hs hr ht)
theorem w_max {i : Nat} {x y : Int32} (hd : decode (mdB M) pc = .ok (.invokestatic i, 3)) (hw : Cond.methodLink (mdY M).cls i Lib.Math.max.name ∈ wsAll) (hd1 : 1 ≤ d) (ho : okK st = true) (hcs : catsum st ≤ 20) (kk : WP d M z k n (pc + 3) ls (.int (if x < y then y else x) :: st) h P) : WP d M z k n pc ls (.int y :: .int x :: st) h P := by
  intro p l e R s m args below meth c D tc A H locs cells slots as ws L sv sb Q hC hI hX hL hS hc hs hr ht
  obtain ⟨_, _, rfl, e0, hS0⟩ := hS.c
  obtain ⟨_, rest, rfl, e1, hS1⟩ := hS0.c
  cases e0
  cases e1
  have hts := hC.2.2.2.2.2.1
  have hf := hC.2.2.2.2.2.2.2.2.2.2.1
  have hl := hC.2.2.2.2.2.2.2.2.2.2.2
  have w1 : Cond.static Lib.Math.max.name ∈ wsAll := by decide +kernel
  have w2 : Cond.initialized "java/lang/Math" ∈ wsAll := by decide +kernel
  have w3 : Cond.code Lib.Math.max.name Lib.Math.max.code 2 (some .int) ∈ wsAll := by decide +kernel
  exact va_mmax hC.1 hC.2.1 (hC.2.2.1.trans hL.2.1.symm) hC.2.2.2.2.1 (hts _ hw) (hts _ w1) (hts _ w2) (hts _ w3) (by omega) (by rw [hS1.cats ho]; omega) (by omega) (by omega) hd (kk hC hI hX hL ⟨rfl, hS1⟩ hc hs hr ht)
theorem w_abs {i : Nat} {x : Int32} (hd : decode (mdB M) pc = .ok (.invokestatic i, 3)) (hw : Cond.methodLink (mdY M).cls i Lib.Math.abs.name ∈ wsAll) (hd1 : 1 ≤ d) (ho : okK st = true) (hcs : catsum st ≤ 20) (kk : WP d M z k n (pc + 3) ls (.int (if 0 ≤ x then x else 0 - x) :: st) h P) : WP d M z k n pc ls (.int x :: st) h P := by
  intro p l e R s m args below meth c D tc A H locs cells slots as ws L sv sb Q hC hI hX hL hS hc hs hr ht
  obtain ⟨_, rest, rfl, e0, hS1⟩ := hS.c
  cases e0
  have hts := hC.2.2.2.2.2.1
  have hf := hC.2.2.2.2.2.2.2.2.2.2.1
  have hl := hC.2.2.2.2.2.2.2.2.2.2.2
  have w1 : Cond.static Lib.Math.abs.name ∈ wsAll := by decide +kernel
  have w2 : Cond.initialized "java/lang/Math" ∈ wsAll := by decide +kernel
  have w3 : Cond.code Lib.Math.abs.name Lib.Math.abs.code 1 (some .int) ∈ wsAll := by decide +kernel
  exact va_mabs hC.1 hC.2.1 (hC.2.2.1.trans hL.2.1.symm) hC.2.2.2.2.1 (hts _ hw) (hts _ w1) (hts _ w2) (hts _ w3) (by omega) (by rw [hS1.cats ho]; omega) (by omega) (by omega) hd (kk hC hI hX hL ⟨rfl, hS1⟩ hc hs hr ht)
theorem nfw : nativeFrameWords "java/lang/System" "arraycopy" 5 + 11 ≤ 35 := by decide +kernel
theorem w_copy {i a b nn mm sp dp cn : Nat} {f g : Nat → Int32} (hd : decode (mdB M) pc = .ok (.invokestatic i, 3)) (hw : Cond.methodLink (mdY M).cls i arraycopyName ∈ wsAll) (hd1 : 2 ≤ d) (ho : okK st = true) (hcs : catsum st ≤ 20)
    (ha : h[a]? = some (.inl (nn, .inl f))) (hb : h[b]? = some (.inl (mm, .inl g))) (h1 : sp + cn ≤ nn) (h2 : dp + cn ≤ mm) (hn : nn < 1000) (hm : mm < 1000) (kk : WP d M z k n (pc + 3) ls st (h.set b (.inl (mm, .inl (va_cpy f g sp dp cn)))) P) : WP d M z k n pc ls (.int (nI cn) :: .int (nI dp) :: .ref b :: .int (nI sp) :: .ref a :: st) h P := by
  intro p l e R s m args below meth c D tc A H locs cells slots as ws L sv sb Q hC hI hX hL hS hc hs hr ht
  obtain ⟨_, _, rfl, e0, hS0⟩ := hS.c
  obtain ⟨_, _, rfl, e1, hS1⟩ := hS0.c
  obtain ⟨_, _, rfl, ⟨b', hb', rfl⟩, hS2⟩ := hS1.c
  obtain ⟨_, _, rfl, e3, hS3⟩ := hS2.c
  obtain ⟨_, rest, rfl, ⟨a', ha', rfl⟩, hS4⟩ := hS3.c
  cases e0
  cases e1
  cases e3
  have hts := hC.2.2.2.2.2.1
  have hf := hC.2.2.2.2.2.2.2.2.2.2.1
  have hl := hC.2.2.2.2.2.2.2.2.2.2.2
  have w1 : Cond.static arraycopyName ∈ wsAll := by decide +kernel
  have w2 : Cond.initialized "java/lang/System" ∈ wsAll := by decide +kernel
  have w3 : Cond.native arraycopyName ∈ wsAll := by decide +kernel
  have c1 : (nI sp).toNatClampNeg = sp := nI_clamp (by omega)
  have c2 : (nI dp).toNatClampNeg = dp := nI_clamp (by omega)
  have c3 : (nI cn).toNatClampNeg = cn := nI_clamp (by omega)
  have hw9 := nfw
  refine va_copyi hC.1 hC.2.1 (hC.2.2.1.trans hL.2.1.symm) hC.2.2.2.2.1 (hts _ hw) (hts _ w3) (hts _ w1) (hts _ w2) hI.1 hI.2.2.2.2.1 hI.2.2.2.2.2.1 hI.2.2.2.2.2.2 a b 0 0 (hI.2.2.2.1.iar ha' ha) (hI.2.2.2.1.iar hb' hb) tys0 tys0 rfl (nI_pos (by omega)) (nI_pos (by omega)) (nI_pos (by omega)) (by rw [c1, c3]; exact h1) (by rw [c2, c3]; exact h2) (fun _ _ => rfl) (by omega) (by rw [hS4.cats ho]; omega) hd (fun H1 locs1 g1 g2 g3 => ?_)
  rw [c1, c2, c3] at g1 g2
  exact kk hC ⟨hI.1, hI.2.1, hI.2.2.1, hI.2.2.2.1.set hb' rfl, g1, g2, g3⟩ hX hL hS4 hc hs hr ht
theorem HR.grid {as : List Nat} {tc : TC} {h : AH} {ws : va_W} {q N K : Nat} {r : Nat → Nat} {f : Nat → va_E} (hr : HR as tc h ws) :
    HR (as ++ [q] ++ (List.range N).map r) tc (h ++ [.inl (N, .inr (.inr (.inr (.inr (fun j => if j < N then some (h.length + 1 + j) else none)))))] ++ List.replicate N (.inl (K, .inl (fun _ => 0))))
      ((ws ++ [(q, .inl (tc.2.2, N, .inr (.inr (.inr (.inr (fun i => if i < N then some (r i) else none))))))]) ++ va_pl ([] ++ (List.range N).map r) (vr_up f ((List.range N).map r) (.inl (tc.1, K, .inl (fun _ => 0))))) := by
  have hin : ∀ j, j < N → (as ++ [q] ++ (List.range N).map r)[h.length + 1 + j]? = some (r j) := fun j hj => by
    rw [List.getElem?_append_right (by simp [hr.1])]
    simp only [List.length_append, hr.1, List.length_cons, List.length_nil]
    rw [show h.length + 1 + j - (h.length + (0 + 1)) = j by omega, List.getElem?_map, List.getElem?_range hj]
    rfl
  refine ⟨by simp [hr.1], by simp [hr.2.1, va_pl], fun i c hi => ?_⟩
  by_cases h1 : i < h.length
  · rw [List.append_assoc, List.getElem?_append_left h1] at hi
    obtain ⟨a, e, g1, g2, g3⟩ := hr.2.2 i c hi
    refine ⟨a, e, ?_, ?_, CR.gr (Gr.tr (Gr.app _ _) (Gr.app _ _)) g3⟩
    · exact Gr.app _ _ _ _ (Gr.app _ _ _ _ g1)
    · rw [List.append_assoc, List.getElem?_append_left (by rw [hr.2.1]; exact h1)]; exact g2
  · by_cases h2 : i = h.length
    · subst h2
      rw [List.append_assoc, List.getElem?_append_right (Nat.le_refl _), Nat.sub_self] at hi
      cases hi
      refine ⟨q, _, ?_, ?_, (fun i => if i < N then some (r i) else none), rfl, fun j hj => ?_⟩
      · rw [List.append_assoc, ← hr.1, List.getElem?_append_right (Nat.le_refl _), Nat.sub_self]; rfl
      · rw [List.append_assoc, ← hr.2.1, List.getElem?_append_right (Nat.le_refl _), Nat.sub_self]; rfl
      · show RF _ (if j < N then some (h.length + 1 + j) else none) (if j < N then some (r j) else none)
        rw [if_pos hj, if_pos hj]
        exact ⟨r j, hin j hj, rfl⟩
    · have hlt := (List.getElem?_eq_some_iff.mp hi).1
      simp only [List.length_append, List.length_cons, List.length_nil, List.length_replicate] at hlt
      obtain ⟨j, rfl⟩ : ∃ j, i = h.length + 1 + j := ⟨i - (h.length + 1), by omega⟩
      have hj : j < N := by omega
      rw [List.getElem?_append_right (by simp)] at hi
      simp only [List.length_append, List.length_cons, List.length_nil] at hi
      rw [show h.length + 1 + j - (h.length + (0 + 1)) = j by omega, List.getElem?_replicate, if_pos hj] at hi
      cases hi
      refine ⟨r j, .inl (tc.1, K, .inl (fun _ => 0)), hin j hj, ?_, rfl⟩
      rw [List.getElem?_append_right (by simp [hr.2.1])]
      simp only [List.length_append, hr.2.1, List.length_cons, List.length_nil]
      rw [show h.length + 1 + j - (h.length + (0 + 1)) = j by omega]
      unfold va_pl
      rw [List.nil_append, List.getElem?_map, List.getElem?_map, List.getElem?_range hj]
      simp only [Option.map_some]
      rw [vr_up_in (List.mem_map.mpr ⟨j, List.mem_range.mpr hj, rfl⟩)]
theorem w_mna {i N K : Nat} (hd : decode (mdB M) pc = .ok (.multianewarray i 2, 4)) (hw : Cond.classLink (mdY M).cls i "[[I" ∈ wsAll) (hN : N ≤ 1000) (hK : K ≤ 1000)
    (kk : WP d M z k n (pc + 4) ls (.ref h.length :: st) (h ++ [.inl (N, .inr (.inr (.inr (.inr (fun j => if j < N then some (h.length + 1 + j) else none)))))] ++ List.replicate N (.inl (K, .inl (fun _ => 0)))) P) : WP d M z (k + (1 + N)) (n + (N + N * K)) pc ls (.int (nI K) :: .int (nI N) :: st) h P := by
  intro p l e R s m args below meth c D tc A H locs cells slots as ws L sv sb Q hC hI hX hL hS hc hs hr ht
  obtain ⟨_, _, rfl, e0, hS0⟩ := hS.c
  obtain ⟨_, rest, rfl, e1, hS1⟩ := hS0.c
  cases e0
  cases e1
  have hts := hC.2.2.2.2.2.1
  have w1 : Cond.arrayClass .int ∈ wsAll := by decide +kernel
  have hcy : s.vm.findClass (FieldType.array .int).toString = some tc.1 := (hI.1.2 0 _ tys0).2
  have cN : (nI N).toNatClampNeg = N := nI_clamp (by omega)
  have cK : (nI K).toNatClampNeg = K := nI_clamp (by omega)
  have hcb : componentBytes .int = 4 := rfl
  refine va_mna (X := ws) (L := []) (f := fun _ => .inl (tc.1, K, .inl (fun _ => 0))) (ty := .int) (N' := N) (K' := K) (z := (K, .inl (fun _ => 0))) hC.1 hC.2.1 hC.2.2.2.2.1 (hts _ hw) hI.2.1.2.2.2.2.2.2.1 (hts _ w1) hcy hI.1 (by show va_P _ _ (ws ++ []) _; rw [List.append_nil]; exact hI.2.2.2.2.1) (by show va_D _ (ws ++ []); rw [List.append_nil]; exact hI.2.2.2.2.2.1) hI.2.2.2.2.2.2 hI.2.2.1 (nI_pos (by omega)) (nI_pos (by omega)) cN cK (by omega) (by rw [hcb]; omega) (by omega) rfl rfl (by omega) (by omega) (fun c => ?_) hd (fun q r cA H1 hr1 hr2 gK g1 g2 g3 => ?_)
  · show ({ cls := c, slots := Array.replicate K (.int 0), vm := .none } : Cell) = _
    rw [arrV_new]
    rfl
  · have hcA : cA = tc.2.2 := by
      have e1 := (gK.2 3 (cA, .array .int) rfl).2
      have e2 := (hI.1.2 2 _ tys2).2
      exact Option.some.inj (e1.symm.trans e2)
    subst hcA
    have hg : Gr as (as ++ [q] ++ (List.range N).map r) := Gr.tr (Gr.app _ _) (Gr.app _ _)
    refine kk (as := as ++ [q] ++ (List.range N).map r) (cells := cells + 1 + N) (slots := slots + N + N * K) hC ⟨hI.1, hI.2.1, hI.2.2.1, hI.2.2.2.1.grid, g1, g2, g3⟩ hX (hL.gr hg) ⟨⟨q, ?_, rfl⟩, hS1.gr hg⟩ (by omega) (by omega) (hr.gr hg) (ht.gr hg)
    rw [← hI.2.2.2.1.1, List.append_assoc, List.getElem?_append_right (Nat.le_refl _), Nat.sub_self]
    rfl
end MORE
end
section
/-! methods, fields, links: by program out of the tables -/
abbrev mX0_init : MD := (yX0_init, cX0_init, 4, (none : Option FieldType), [])
theorem K_X0_init : MOk mX0_init 3 := ⟨wsAll_of 62 (by decide +kernel) rfl, (wsAll_of 33 (by decide +kernel) rfl), by decide +kernel, by decide +kernel, by decide +kernel, by decide⟩
abbrev mX0_copyFrom : MD := (yX0_copyFrom, cX0_copyFrom, 2, (none : Option FieldType), [])
theorem K_X0_copyFrom : MOk mX0_copyFrom 1 := ⟨wsAll_of 627 (by decide +kernel) rfl, (wsAll_of 33 (by decide +kernel) rfl), by decide +kernel, by decide +kernel, by decide +kernel, by decide⟩
abbrev mX0_size : MD := (yX0_size, cX0_size, 1, (some FieldType.int), [])
theorem K_X0_size : MOk mX0_size 0 := ⟨wsAll_of 188 (by decide +kernel) rfl, (wsAll_of 33 (by decide +kernel) rfl), by decide +kernel, by decide +kernel, by decide +kernel, by decide⟩
abbrev mX0_isFull : MD := (yX0_isFull, cX0_isFull, 1, (some FieldType.boolean), [])
theorem K_X0_isFull : MOk mX0_isFull 0 := ⟨wsAll_of 331 (by decide +kernel) rfl, (wsAll_of 33 (by decide +kernel) rfl), by decide +kernel, by decide +kernel, by decide +kernel, by decide⟩
abbrev mX0_width : MD := (yX0_width, cX0_width, 1, (some FieldType.int), [])
theorem K_X0_width : MOk mX0_width 0 := ⟨wsAll_of 241 (by decide +kernel) rfl, (wsAll_of 33 (by decide +kernel) rfl), by decide +kernel, by decide +kernel, by decide +kernel, by decide⟩
abbrev mX0_hasRow : MD := (yX0_hasRow, cX0_hasRow, 2, (some FieldType.boolean), [])
theorem K_X0_hasRow : MOk mX0_hasRow 1 := ⟨wsAll_of 375 (by decide +kernel) rfl, (wsAll_of 33 (by decide +kernel) rfl), by decide +kernel, by decide +kernel, by decide +kernel, by decide⟩
abbrev mX0_hasColumn : MD := (yX0_hasColumn, cX0_hasColumn, 2, (some FieldType.boolean), [])
theorem K_X0_hasColumn : MOk mX0_hasColumn 1 := ⟨wsAll_of 517 (by decide +kernel) rfl, (wsAll_of 33 (by decide +kernel) rfl), by decide +kernel, by decide +kernel, by decide +kernel, by decide⟩
abbrev mX0_at : MD := (yX0_at, cX0_at, 4, (some FieldType.int), [])
theorem K_X0_at : MOk mX0_at 2 := ⟨wsAll_of 157 (by decide +kernel) rfl, (wsAll_of 33 (by decide +kernel) rfl), by decide +kernel, by decide +kernel, by decide +kernel, by decide⟩
abbrev mX0_put : MD := (yX0_put, cX0_put, 5, (none : Option FieldType), [])
theorem K_X0_put : MOk mX0_put 3 := ⟨wsAll_of 363 (by decide +kernel) rfl, (wsAll_of 33 (by decide +kernel) rfl), by decide +kernel, by decide +kernel, by decide +kernel, by decide⟩
abbrev mX0_addRow : MD := (yX0_addRow, cX0_addRow, 1, (some FieldType.int), [])
theorem K_X0_addRow : MOk mX0_addRow 0 := ⟨wsAll_of 358 (by decide +kernel) rfl, (wsAll_of 33 (by decide +kernel) rfl), by decide +kernel, by decide +kernel, by decide +kernel, by decide⟩
abbrev mX0_removeRow : MD := (yX0_removeRow, cX0_removeRow, 4, (none : Option FieldType), [])
theorem K_X0_removeRow : MOk mX0_removeRow 1 := ⟨wsAll_of 464 (by decide +kernel) rfl, (wsAll_of 33 (by decide +kernel) rfl), by decide +kernel, by decide +kernel, by decide +kernel, by decide⟩
abbrev mX0_sum : MD := (yX0_sum, cX0_sum, 4, (some FieldType.int), [])
theorem K_X0_sum : MOk mX0_sum 1 := ⟨wsAll_of 153 (by decide +kernel) rfl, (wsAll_of 33 (by decide +kernel) rfl), by decide +kernel, by decide +kernel, by decide +kernel, by decide⟩
abbrev mX1_init : MD := (yX1_init, cX1_init, 2, (none : Option FieldType), [])
theorem K_X1_init : MOk mX1_init 0 := ⟨wsAll_of 56 (by decide +kernel) rfl, (wsAll_of 32 (by decide +kernel) rfl), by decide +kernel, by decide +kernel, by decide +kernel, by decide⟩
abbrev mX1_copyFrom : MD := (yX1_copyFrom, cX1_copyFrom, 2, (none : Option FieldType), [])
theorem K_X1_copyFrom : MOk mX1_copyFrom 1 := ⟨wsAll_of 623 (by decide +kernel) rfl, (wsAll_of 32 (by decide +kernel) rfl), by decide +kernel, by decide +kernel, by decide +kernel, by decide⟩
abbrev mX1_addMould : MD := (yX1_addMould, cX1_addMould, 4, (some FieldType.int), [])
theorem K_X1_addMould : MOk mX1_addMould 2 := ⟨wsAll_of 354 (by decide +kernel) rfl, (wsAll_of 32 (by decide +kernel) rfl), by decide +kernel, by decide +kernel, by decide +kernel, by decide⟩
abbrev mX1_addMaker : MD := (yX1_addMaker, cX1_addMaker, 3, (some FieldType.int), [])
theorem K_X1_addMaker : MOk mX1_addMaker 1 := ⟨wsAll_of 411 (by decide +kernel) rfl, (wsAll_of 32 (by decide +kernel) rfl), by decide +kernel, by decide +kernel, by decide +kernel, by decide⟩
abbrev mX1_addOrder : MD := (yX1_addOrder, cX1_addOrder, 6, (some FieldType.int), [])
theorem K_X1_addOrder : MOk mX1_addOrder 4 := ⟨wsAll_of 495 (by decide +kernel) rfl, (wsAll_of 32 (by decide +kernel) rfl), by decide +kernel, by decide +kernel, by decide +kernel, by decide⟩
abbrev mX1_pay : MD := (yX1_pay, cX1_pay, 2, (none : Option FieldType), [])
theorem K_X1_pay : MOk mX1_pay 1 := ⟨wsAll_of 399 (by decide +kernel) rfl, (wsAll_of 32 (by decide +kernel) rfl), by decide +kernel, by decide +kernel, by decide +kernel, by decide⟩
abbrev mX1_addClay : MD := (yX1_addClay, cX1_addClay, 2, (some FieldType.int), [])
theorem K_X1_addClay : MOk mX1_addClay 1 := ⟨wsAll_of 433 (by decide +kernel) rfl, (wsAll_of 32 (by decide +kernel) rfl), by decide +kernel, by decide +kernel, by decide +kernel, by decide⟩
abbrev mX1_addCoals : MD := (yX1_addCoals, cX1_addCoals, 2, (some FieldType.int), [])
theorem K_X1_addCoals : MOk mX1_addCoals 1 := ⟨wsAll_of 437 (by decide +kernel) rfl, (wsAll_of 32 (by decide +kernel) rfl), by decide +kernel, by decide +kernel, by decide +kernel, by decide⟩
abbrev mX1_driesBy : MD := (yX1_driesBy, cX1_driesBy, 2, (some FieldType.int), [])
theorem K_X1_driesBy : MOk mX1_driesBy 1 := ⟨wsAll_of 214 (by decide +kernel) rfl, (wsAll_of 32 (by decide +kernel) rfl), by decide +kernel, by decide +kernel, by decide +kernel, by decide⟩
abbrev mX1_setDrying : MD := (yX1_setDrying, cX1_setDrying, 3, (none : Option FieldType), [])
theorem K_X1_setDrying : MOk mX1_setDrying 2 := ⟨wsAll_of 449 (by decide +kernel) rfl, (wsAll_of 32 (by decide +kernel) rfl), by decide +kernel, by decide +kernel, by decide +kernel, by decide⟩
abbrev mX1_wholeOf : MD := (yX1_wholeOf, cX1_wholeOf, 2, (some FieldType.int), [])
theorem K_X1_wholeOf : MOk mX1_wholeOf 1 := ⟨wsAll_of 210 (by decide +kernel) rfl, (wsAll_of 32 (by decide +kernel) rfl), by decide +kernel, by decide +kernel, by decide +kernel, by decide⟩
abbrev mX1_addWhole : MD := (yX1_addWhole, cX1_addWhole, 3, (none : Option FieldType), [])
theorem K_X1_addWhole : MOk mX1_addWhole 2 := ⟨wsAll_of 484 (by decide +kernel) rfl, (wsAll_of 32 (by decide +kernel) rfl), by decide +kernel, by decide +kernel, by decide +kernel, by decide⟩
abbrev mX1_wholeInAll : MD := (yX1_wholeInAll, cX1_wholeInAll, 3, (some FieldType.int), [])
theorem K_X1_wholeInAll : MOk mX1_wholeInAll 0 := ⟨wsAll_of 206 (by decide +kernel) rfl, (wsAll_of 32 (by decide +kernel) rfl), by decide +kernel, by decide +kernel, by decide +kernel, by decide⟩
abbrev mX1_flawOf : MD := (yX1_flawOf, cX1_flawOf, 2, (some FieldType.int), [])
theorem K_X1_flawOf : MOk mX1_flawOf 1 := ⟨wsAll_of 226 (by decide +kernel) rfl, (wsAll_of 32 (by decide +kernel) rfl), by decide +kernel, by decide +kernel, by decide +kernel, by decide⟩
abbrev mX1_clayOf : MD := (yX1_clayOf, cX1_clayOf, 2, (some FieldType.int), [])
theorem K_X1_clayOf : MOk mX1_clayOf 1 := ⟨wsAll_of 230 (by decide +kernel) rfl, (wsAll_of 32 (by decide +kernel) rfl), by decide +kernel, by decide +kernel, by decide +kernel, by decide⟩
abbrev mX1_makerAt : MD := (yX1_makerAt, cX1_makerAt, 3, (some FieldType.int), [])
theorem K_X1_makerAt : MOk mX1_makerAt 1 := ⟨wsAll_of 234 (by decide +kernel) rfl, (wsAll_of 32 (by decide +kernel) rfl), by decide +kernel, by decide +kernel, by decide +kernel, by decide⟩
abbrev mX1_isAnotherAt : MD := (yX1_isAnotherAt, cX1_isAnotherAt, 4, (some FieldType.boolean), [])
theorem K_X1_isAnotherAt : MOk mX1_isAnotherAt 2 := ⟨wsAll_of 422 (by decide +kernel) rfl, (wsAll_of 32 (by decide +kernel) rfl), by decide +kernel, by decide +kernel, by decide +kernel, by decide⟩
abbrev mX1_aboutMould : MD := (yX1_aboutMould, cX1_aboutMould, 3, (some FieldType.int), [])
theorem K_X1_aboutMould : MOk mX1_aboutMould 2 := ⟨wsAll_of 222 (by decide +kernel) rfl, (wsAll_of 32 (by decide +kernel) rfl), by decide +kernel, by decide +kernel, by decide +kernel, by decide⟩
abbrev mX1_counted : MD := (yX1_counted, cX1_counted, 2, (some FieldType.int), [])
theorem K_X1_counted : MOk mX1_counted 1 := ⟨wsAll_of 202 (by decide +kernel) rfl, (wsAll_of 32 (by decide +kernel) rfl), by decide +kernel, by decide +kernel, by decide +kernel, by decide⟩
abbrev mX1_packPipes : MD := (yX1_packPipes, cX1_packPipes, 6, (some FieldType.int), [])
theorem K_X1_packPipes : MOk mX1_packPipes 3 := ⟨wsAll_of 460 (by decide +kernel) rfl, (wsAll_of 32 (by decide +kernel) rfl), by decide +kernel, by decide +kernel, by decide +kernel, by decide⟩
abbrev mX1_areSaggarsEmpty : MD := (yX1_areSaggarsEmpty, cX1_areSaggarsEmpty, 1, (some FieldType.boolean), [])
theorem K_X1_areSaggarsEmpty : MOk mX1_areSaggarsEmpty 0 := ⟨wsAll_of 149 (by decide +kernel) rfl, (wsAll_of 32 (by decide +kernel) rfl), by decide +kernel, by decide +kernel, by decide +kernel, by decide⟩
abbrev mX1_stemsThatBreak : MD := (yX1_stemsThatBreak, cX1_stemsThatBreak, 7, (some FieldType.int), [])
theorem K_X1_stemsThatBreak : MOk mX1_stemsThatBreak 2 := ⟨wsAll_of 169 (by decide +kernel) rfl, (wsAll_of 32 (by decide +kernel) rfl), by decide +kernel, by decide +kernel, by decide +kernel, by decide⟩
abbrev mX1_stemsThatBreakInAll : MD := (yX1_stemsThatBreakInAll, cX1_stemsThatBreakInAll, 4, (some FieldType.int), [])
theorem K_X1_stemsThatBreakInAll : MOk mX1_stemsThatBreakInAll 1 := ⟨wsAll_of 165 (by decide +kernel) rfl, (wsAll_of 32 (by decide +kernel) rfl), by decide +kernel, by decide +kernel, by decide +kernel, by decide⟩
abbrev mX1_bestCoals : MD := (yX1_bestCoals, cX1_bestCoals, 5, (some FieldType.int), [])
theorem K_X1_bestCoals : MOk mX1_bestCoals 0 := ⟨wsAll_of 161 (by decide +kernel) rfl, (wsAll_of 32 (by decide +kernel) rfl), by decide +kernel, by decide +kernel, by decide +kernel, by decide⟩
abbrev mX1_fireKiln : MD := (yX1_fireKiln, cX1_fireKiln, 4, (some FieldType.int), [])
theorem K_X1_fireKiln : MOk mX1_fireKiln 1 := ⟨wsAll_of 476 (by decide +kernel) rfl, (wsAll_of 32 (by decide +kernel) rfl), by decide +kernel, by decide +kernel, by decide +kernel, by decide⟩
abbrev mX1_unloadFired : MD := (yX1_unloadFired, cX1_unloadFired, 6, (some FieldType.int), [])
theorem K_X1_unloadFired : MOk mX1_unloadFired 2 := ⟨wsAll_of 480 (by decide +kernel) rfl, (wsAll_of 32 (by decide +kernel) rfl), by decide +kernel, by decide +kernel, by decide +kernel, by decide⟩
abbrev mX1_passDays : MD := (yX1_passDays, cX1_passDays, 3, (none : Option FieldType), [])
theorem K_X1_passDays : MOk mX1_passDays 1 := ⟨wsAll_of 565 (by decide +kernel) rfl, (wsAll_of 32 (by decide +kernel) rfl), by decide +kernel, by decide +kernel, by decide +kernel, by decide⟩
abbrev mX1_passDay : MD := (yX1_passDay, cX1_passDay, 2, (none : Option FieldType), [])
theorem K_X1_passDay : MOk mX1_passDay 0 := ⟨wsAll_of 569 (by decide +kernel) rfl, (wsAll_of 32 (by decide +kernel) rfl), by decide +kernel, by decide +kernel, by decide +kernel, by decide⟩
abbrev mX1_letWork : MD := (yX1_letWork, cX1_letWork, 5, (none : Option FieldType), [])
theorem K_X1_letWork : MOk mX1_letWork 1 := ⟨wsAll_of 573 (by decide +kernel) rfl, (wsAll_of 32 (by decide +kernel) rfl), by decide +kernel, by decide +kernel, by decide +kernel, by decide⟩
abbrev mX1_layOnBoards : MD := (yX1_layOnBoards, cX1_layOnBoards, 4, (none : Option FieldType), [])
theorem K_X1_layOnBoards : MOk mX1_layOnBoards 2 := ⟨wsAll_of 582 (by decide +kernel) rfl, (wsAll_of 32 (by decide +kernel) rfl), by decide +kernel, by decide +kernel, by decide +kernel, by decide⟩
abbrev mX1_wearMould : MD := (yX1_wearMould, cX1_wearMould, 5, (none : Option FieldType), [])
theorem K_X1_wearMould : MOk mX1_wearMould 2 := ⟨wsAll_of 586 (by decide +kernel) rfl, (wsAll_of 32 (by decide +kernel) rfl), by decide +kernel, by decide +kernel, by decide +kernel, by decide⟩
abbrev mX1_dry : MD := (yX1_dry, cX1_dry, 3, (none : Option FieldType), [])
theorem K_X1_dry : MOk mX1_dry 2 := ⟨wsAll_of 592 (by decide +kernel) rfl, (wsAll_of 32 (by decide +kernel) rfl), by decide +kernel, by decide +kernel, by decide +kernel, by decide⟩
abbrev mX1_lookAtOrders : MD := (yX1_lookAtOrders, cX1_lookAtOrders, 4, (none : Option FieldType), [])
theorem K_X1_lookAtOrders : MOk mX1_lookAtOrders 0 := ⟨wsAll_of 596 (by decide +kernel) rfl, (wsAll_of 32 (by decide +kernel) rfl), by decide +kernel, by decide +kernel, by decide +kernel, by decide⟩
abbrev mX1_lookAtOrder : MD := (yX1_lookAtOrder, cX1_lookAtOrder, 5, (some FieldType.boolean), [])
theorem K_X1_lookAtOrder : MOk mX1_lookAtOrder 1 := ⟨wsAll_of 600 (by decide +kernel) rfl, (wsAll_of 32 (by decide +kernel) rfl), by decide +kernel, by decide +kernel, by decide +kernel, by decide⟩
abbrev mX1_dismiss : MD := (yX1_dismiss, cX1_dismiss, 3, (none : Option FieldType), [])
theorem K_X1_dismiss : MOk mX1_dismiss 2 := ⟨wsAll_of 604 (by decide +kernel) rfl, (wsAll_of 32 (by decide +kernel) rfl), by decide +kernel, by decide +kernel, by decide +kernel, by decide⟩
abbrev mX1_daysTillServed : MD := (yX1_daysTillServed, cX1_daysTillServed, 3, (some FieldType.int), [])
theorem K_X1_daysTillServed : MOk mX1_daysTillServed 1 := ⟨wsAll_of 635 (by decide +kernel) rfl, (wsAll_of 32 (by decide +kernel) rfl), by decide +kernel, by decide +kernel, by decide +kernel, by decide⟩
abbrev mX1_meanFlaw : MD := (yX1_meanFlaw, cX1_meanFlaw, 4, (some FieldType.double), [])
theorem K_X1_meanFlaw : MOk mX1_meanFlaw 0 := ⟨wsAll_of 184 (by decide +kernel) rfl, (wsAll_of 32 (by decide +kernel) rfl), by decide +kernel, by decide +kernel, by decide +kernel, by decide⟩
abbrev mX1_checksum : MD := (yX1_checksum, cX1_checksum, 4, (some FieldType.long), [])
theorem K_X1_checksum : MOk mX1_checksum 0 := ⟨wsAll_of 196 (by decide +kernel) rfl, (wsAll_of 32 (by decide +kernel) rfl), by decide +kernel, by decide +kernel, by decide +kernel, by decide⟩
abbrev mX1_withMoulds : MD := (yX1_withMoulds, cX1_withMoulds, 7, (some FieldType.long), [])
theorem K_X1_withMoulds : MOk mX1_withMoulds 1 := ⟨wsAll_of 218 (by decide +kernel) rfl, (wsAll_of 32 (by decide +kernel) rfl), by decide +kernel, by decide +kernel, by decide +kernel, by decide⟩
abbrev mX1_withTable : MD := (yX1_withTable, cX1_withTable, 7, (some FieldType.long), [])
theorem K_X1_withTable : MOk mX1_withTable 2 := ⟨wsAll_of 237 (by decide +kernel) rfl, (wsAll_of 32 (by decide +kernel) rfl), by decide +kernel, by decide +kernel, by decide +kernel, by decide⟩
abbrev mX2_init : MD := (yX2_init, cX2_init, 1, (none : Option FieldType), [])
theorem K_X2_init : MOk mX2_init 0 := ⟨wsAll_of 48 (by decide +kernel) rfl, (wsAll_of 31 (by decide +kernel) rfl), by decide +kernel, by decide +kernel, by decide +kernel, by decide⟩
abbrev mX2_mould : MD := (yX2_mould, cX2_mould, 3, (some FieldType.int), [])
theorem K_X2_mould : MOk mX2_mould 2 := ⟨wsAll_of 250 (by decide +kernel) rfl, (wsAll_of 31 (by decide +kernel) rfl), by decide +kernel, by decide +kernel, by decide +kernel, by decide⟩
abbrev mX2_refit : MD := (yX2_refit, cX2_refit, 3, (some FieldType.int), [])
theorem K_X2_refit : MOk mX2_refit 1 := ⟨wsAll_of 371 (by decide +kernel) rfl, (wsAll_of 31 (by decide +kernel) rfl), by decide +kernel, by decide +kernel, by decide +kernel, by decide⟩
abbrev mX2_maker : MD := (yX2_maker, cX2_maker, 2, (some FieldType.int), [])
theorem K_X2_maker : MOk mX2_maker 1 := ⟨wsAll_of 407 (by decide +kernel) rfl, (wsAll_of 31 (by decide +kernel) rfl), by decide +kernel, by decide +kernel, by decide +kernel, by decide⟩
abbrev mX2_place : MD := (yX2_place, cX2_place, 4, (some FieldType.int), [])
theorem K_X2_place : MOk mX2_place 2 := ⟨wsAll_of 418 (by decide +kernel) rfl, (wsAll_of 31 (by decide +kernel) rfl), by decide +kernel, by decide +kernel, by decide +kernel, by decide⟩
abbrev mX2_buy : MD := (yX2_buy, cX2_buy, 4, (some FieldType.int), [])
theorem K_X2_buy : MOk mX2_buy 2 := ⟨wsAll_of 429 (by decide +kernel) rfl, (wsAll_of 31 (by decide +kernel) rfl), by decide +kernel, by decide +kernel, by decide +kernel, by decide⟩
abbrev mX2_setDry : MD := (yX2_setDry, cX2_setDry, 4, (some FieldType.int), [])
theorem K_X2_setDry : MOk mX2_setDry 2 := ⟨wsAll_of 444 (by decide +kernel) rfl, (wsAll_of 31 (by decide +kernel) rfl), by decide +kernel, by decide +kernel, by decide +kernel, by decide⟩
abbrev mX2_pack : MD := (yX2_pack, cX2_pack, 4, (some FieldType.int), [])
theorem K_X2_pack : MOk mX2_pack 3 := ⟨wsAll_of 456 (by decide +kernel) rfl, (wsAll_of 31 (by decide +kernel) rfl), by decide +kernel, by decide +kernel, by decide +kernel, by decide⟩
abbrev mX2_fire : MD := (yX2_fire, cX2_fire, 2, (some FieldType.int), [])
theorem K_X2_fire : MOk mX2_fire 1 := ⟨wsAll_of 472 (by decide +kernel) rfl, (wsAll_of 31 (by decide +kernel) rfl), by decide +kernel, by decide +kernel, by decide +kernel, by decide⟩
abbrev mX2_order : MD := (yX2_order, cX2_order, 5, (some FieldType.int), [])
theorem K_X2_order : MOk mX2_order 4 := ⟨wsAll_of 491 (by decide +kernel) rfl, (wsAll_of 31 (by decide +kernel) rfl), by decide +kernel, by decide +kernel, by decide +kernel, by decide⟩
abbrev mX2_about : MD := (yX2_about, cX2_about, 3, (some FieldType.int), [])
theorem K_X2_about : MOk mX2_about 2 := ⟨wsAll_of 502 (by decide +kernel) rfl, (wsAll_of 31 (by decide +kernel) rfl), by decide +kernel, by decide +kernel, by decide +kernel, by decide⟩
abbrev mX2_told : MD := (yX2_told, cX2_told, 3, (some FieldType.int), [])
theorem K_X2_told : MOk mX2_told 2 := ⟨wsAll_of 510 (by decide +kernel) rfl, (wsAll_of 31 (by decide +kernel) rfl), by decide +kernel, by decide +kernel, by decide +kernel, by decide⟩
abbrev mX2_batch : MD := (yX2_batch, cX2_batch, 3, (some FieldType.int), [])
theorem K_X2_batch : MOk mX2_batch 2 := ⟨wsAll_of 524 (by decide +kernel) rfl, (wsAll_of 31 (by decide +kernel) rfl), by decide +kernel, by decide +kernel, by decide +kernel, by decide⟩
abbrev mX2_saggar : MD := (yX2_saggar, cX2_saggar, 3, (some FieldType.int), [])
theorem K_X2_saggar : MOk mX2_saggar 2 := ⟨wsAll_of 531 (by decide +kernel) rfl, (wsAll_of 31 (by decide +kernel) rfl), by decide +kernel, by decide +kernel, by decide +kernel, by decide⟩
abbrev mX2_store : MD := (yX2_store, cX2_store, 2, (some FieldType.int), [])
theorem K_X2_store : MOk mX2_store 1 := ⟨wsAll_of 538 (by decide +kernel) rfl, (wsAll_of 31 (by decide +kernel) rfl), by decide +kernel, by decide +kernel, by decide +kernel, by decide⟩
abbrev mX2_waits : MD := (yX2_waits, cX2_waits, 3, (some FieldType.int), [])
theorem K_X2_waits : MOk mX2_waits 2 := ⟨wsAll_of 546 (by decide +kernel) rfl, (wsAll_of 31 (by decide +kernel) rfl), by decide +kernel, by decide +kernel, by decide +kernel, by decide⟩
abbrev mX2_count : MD := (yX2_count, cX2_count, 2, (some FieldType.int), [])
theorem K_X2_count : MOk mX2_count 1 := ⟨wsAll_of 553 (by decide +kernel) rfl, (wsAll_of 31 (by decide +kernel) rfl), by decide +kernel, by decide +kernel, by decide +kernel, by decide⟩
abbrev mX2_pass : MD := (yX2_pass, cX2_pass, 3, (some FieldType.int), [])
theorem K_X2_pass : MOk mX2_pass 1 := ⟨wsAll_of 561 (by decide +kernel) rfl, (wsAll_of 31 (by decide +kernel) rfl), by decide +kernel, by decide +kernel, by decide +kernel, by decide⟩
abbrev mX2_breaks : MD := (yX2_breaks, cX2_breaks, 3, (some FieldType.int), [])
theorem K_X2_breaks : MOk mX2_breaks 2 := ⟨wsAll_of 611 (by decide +kernel) rfl, (wsAll_of 31 (by decide +kernel) rfl), by decide +kernel, by decide +kernel, by decide +kernel, by decide⟩
abbrev mX2_advise : MD := (yX2_advise, cX2_advise, 1, (some FieldType.int), [])
theorem K_X2_advise : MOk mX2_advise 0 := ⟨wsAll_of 145 (by decide +kernel) rfl, (wsAll_of 31 (by decide +kernel) rfl), by decide +kernel, by decide +kernel, by decide +kernel, by decide⟩
abbrev mX2_ready : MD := (yX2_ready, cX2_ready, 2, (some FieldType.int), [])
theorem K_X2_ready : MOk mX2_ready 1 := ⟨wsAll_of 619 (by decide +kernel) rfl, (wsAll_of 31 (by decide +kernel) rfl), by decide +kernel, by decide +kernel, by decide +kernel, by decide⟩
abbrev mX2_foresee : MD := (yX2_foresee, cX2_foresee, 3, (some FieldType.int), [])
theorem K_X2_foresee : MOk mX2_foresee 2 := ⟨wsAll_of 642 (by decide +kernel) rfl, (wsAll_of 31 (by decide +kernel) rfl), by decide +kernel, by decide +kernel, by decide +kernel, by decide⟩
abbrev mX2_mean : MD := (yX2_mean, cX2_mean, 1, (some FieldType.double), [])
theorem K_X2_mean : MOk mX2_mean 0 := ⟨wsAll_of 180 (by decide +kernel) rfl, (wsAll_of 31 (by decide +kernel) rfl), by decide +kernel, by decide +kernel, by decide +kernel, by decide⟩
abbrev mX2_digest : MD := (yX2_digest, cX2_digest, 1, (some FieldType.long), [])
theorem K_X2_digest : MOk mX2_digest 0 := ⟨wsAll_of 192 (by decide +kernel) rfl, (wsAll_of 31 (by decide +kernel) rfl), by decide +kernel, by decide +kernel, by decide +kernel, by decide⟩
abbrev mX2_isWithin : MD := (yX2_isWithin, cX2_isWithin, 3, (some FieldType.boolean), [])
theorem K_X2_isWithin : MOk mX2_isWithin 3 := ⟨wsAll_of 256 (by decide +kernel) rfl, (wsAll_of 31 (by decide +kernel) rfl), by decide +kernel, by decide +kernel, by decide +kernel, by decide⟩
abbrev mX2_isLength : MD := (yX2_isLength, cX2_isLength, 1, (some FieldType.boolean), [])
theorem K_X2_isLength : MOk mX2_isLength 1 := ⟨wsAll_of 253 (by decide +kernel) rfl, (wsAll_of 31 (by decide +kernel) rfl), by decide +kernel, by decide +kernel, by decide +kernel, by decide⟩
abbrev mX2_cellOf : MD := (yX2_cellOf, cX2_cellOf, 3, (some FieldType.int), [])
theorem K_X2_cellOf : MOk mX2_cellOf 3 := ⟨wsAll_of 513 (by decide +kernel) rfl, (wsAll_of 31 (by decide +kernel) rfl), by decide +kernel, by decide +kernel, by decide +kernel, by decide⟩
abbrev mX2_requireIndex : MD := (yX2_requireIndex, cX2_requireIndex, 1, (none : Option FieldType), [])
theorem K_X2_requireIndex : MOk mX2_requireIndex 1 := ⟨wsAll_of 378 (by decide +kernel) rfl, (wsAll_of 31 (by decide +kernel) rfl), by decide +kernel, by decide +kernel, by decide +kernel, by decide⟩
abbrev mX2_requireArgument : MD := (yX2_requireArgument, cX2_requireArgument, 1, (none : Option FieldType), [])
theorem K_X2_requireArgument : MOk mX2_requireArgument 1 := ⟨wsAll_of 259 (by decide +kernel) rfl, (wsAll_of 31 (by decide +kernel) rfl), by decide +kernel, by decide +kernel, by decide +kernel, by decide⟩
abbrev mX2_requireState : MD := (yX2_requireState, cX2_requireState, 1, (none : Option FieldType), [])
theorem K_X2_requireState : MOk mX2_requireState 1 := ⟨wsAll_of 334 (by decide +kernel) rfl, (wsAll_of 31 (by decide +kernel) rfl), by decide +kernel, by decide +kernel, by decide +kernel, by decide⟩
abbrev mX3_init : MD := (yX3_init, cX3_init, 2, (none : Option FieldType), [])
theorem K_X3_init : MOk mX3_init 1 := ⟨wsAll_of 653 (by decide +kernel) rfl, (wsAll_of 35 (by decide +kernel) rfl), by decide +kernel, by decide +kernel, by decide +kernel, by decide⟩
abbrev mX3_become : MD := (yX3_become, cX3_become, 3, (some (FieldType.object "PipeMouldsModel$State")), [])
theorem K_X3_become : MOk mX3_become 1 := ⟨wsAll_of 953 (by decide +kernel) rfl, (wsAll_of 35 (by decide +kernel) rfl), by decide +kernel, by decide +kernel, by decide +kernel, by decide⟩
abbrev mX3_flaw : MD := (yX3_flaw, cX3_flaw, 2, (some FieldType.int), [])
theorem K_X3_flaw : MOk mX3_flaw 1 := ⟨wsAll_of 868 (by decide +kernel) rfl, (wsAll_of 35 (by decide +kernel) rfl), by decide +kernel, by decide +kernel, by decide +kernel, by decide⟩
abbrev mX3_saggar : MD := (yX3_saggar, cX3_saggar, 2, (some (FieldType.array FieldType.int)), [])
theorem K_X3_saggar : MOk mX3_saggar 1 := ⟨wsAll_of 823 (by decide +kernel) rfl, (wsAll_of 35 (by decide +kernel) rfl), by decide +kernel, by decide +kernel, by decide +kernel, by decide⟩
abbrev mX3_put : MD := (yX3_put, cX3_put, 6, (none : Option FieldType), [])
theorem K_X3_put : MOk mX3_put 5 := ⟨wsAll_of 827 (by decide +kernel) rfl, (wsAll_of 35 (by decide +kernel) rfl), by decide +kernel, by decide +kernel, by decide +kernel, by decide⟩
abbrev mX3_make : MD := (yX3_make, cX3_make, 5, (none : Option FieldType), [])
theorem K_X3_make : MOk mX3_make 1 := ⟨wsAll_of 929 (by decide +kernel) rfl, (wsAll_of 35 (by decide +kernel) rfl), by decide +kernel, by decide +kernel, by decide +kernel, by decide⟩
abbrev mX3_serve : MD := (yX3_serve, cX3_serve, 5, (none : Option FieldType), [])
theorem K_X3_serve : MOk mX3_serve 0 := ⟨wsAll_of 936 (by decide +kernel) rfl, (wsAll_of 35 (by decide +kernel) rfl), by decide +kernel, by decide +kernel, by decide +kernel, by decide⟩
abbrev mX3_pass : MD := (yX3_pass, cX3_pass, 5, (none : Option FieldType), [])
theorem K_X3_pass : MOk mX3_pass 0 := ⟨wsAll_of 925 (by decide +kernel) rfl, (wsAll_of 35 (by decide +kernel) rfl), by decide +kernel, by decide +kernel, by decide +kernel, by decide⟩
abbrev mX3_pass_ : MD := (yX3_pass_, cX3_pass_, 3, (none : Option FieldType), [])
theorem K_X3_pass_ : MOk mX3_pass_ 1 := ⟨wsAll_of 921 (by decide +kernel) rfl, (wsAll_of 35 (by decide +kernel) rfl), by decide +kernel, by decide +kernel, by decide +kernel, by decide⟩
abbrev mX3_takeBatch : MD := (yX3_takeBatch, cX3_takeBatch, 3, (none : Option FieldType), [])
theorem K_X3_takeBatch : MOk mX3_takeBatch 1 := ⟨wsAll_of 831 (by decide +kernel) rfl, (wsAll_of 35 (by decide +kernel) rfl), by decide +kernel, by decide +kernel, by decide +kernel, by decide⟩
abbrev mX3_breaks : MD := (yX3_breaks, cX3_breaks, 6, (some FieldType.int), [])
theorem K_X3_breaks : MOk mX3_breaks 2 := ⟨wsAll_of 848 (by decide +kernel) rfl, (wsAll_of 35 (by decide +kernel) rfl), by decide +kernel, by decide +kernel, by decide +kernel, by decide⟩
abbrev mX3_pipes : MD := (yX3_pipes, cX3_pipes, 5, (some FieldType.int), [])
theorem K_X3_pipes : MOk mX3_pipes 2 := ⟨wsAll_of 844 (by decide +kernel) rfl, (wsAll_of 35 (by decide +kernel) rfl), by decide +kernel, by decide +kernel, by decide +kernel, by decide⟩
abbrev mX3_inSaggars : MD := (yX3_inSaggars, cX3_inSaggars, 1, (some FieldType.int), [])
theorem K_X3_inSaggars : MOk mX3_inSaggars 0 := ⟨wsAll_of 840 (by decide +kernel) rfl, (wsAll_of 35 (by decide +kernel) rfl), by decide +kernel, by decide +kernel, by decide +kernel, by decide⟩
abbrev mX3_stored : MD := (yX3_stored, cX3_stored, 6, (some FieldType.int), [])
theorem K_X3_stored : MOk mX3_stored 0 := ⟨wsAll_of 913 (by decide +kernel) rfl, (wsAll_of 35 (by decide +kernel) rfl), by decide +kernel, by decide +kernel, by decide +kernel, by decide⟩
abbrev mX3_counted : MD := (yX3_counted, cX3_counted, 3, (some FieldType.int), [])
theorem K_X3_counted : MOk mX3_counted 1 := ⟨wsAll_of 908 (by decide +kernel) rfl, (wsAll_of 35 (by decide +kernel) rfl), by decide +kernel, by decide +kernel, by decide +kernel, by decide⟩
abbrev mX4_init : MD := (yX4_init, cX4_init, 1, (none : Option FieldType), [])
theorem K_X4_init : MOk mX4_init 0 := ⟨wsAll_of 647 (by decide +kernel) rfl, (wsAll_of 34 (by decide +kernel) rfl), by decide +kernel, by decide +kernel, by decide +kernel, by decide⟩
abbrev mX4_thrown : MD := (yX4_thrown, cX4_thrown, 1, (some FieldType.int), [])
theorem K_X4_thrown : MOk mX4_thrown 0 := ⟨wsAll_of 762 (by decide +kernel) rfl, (wsAll_of 34 (by decide +kernel) rfl), by decide +kernel, by decide +kernel, by decide +kernel, by decide⟩
abbrev mX4_no : MD := (yX4_no, cX4_no, 2, (some FieldType.int), [])
theorem K_X4_no : MOk mX4_no 1 := ⟨wsAll_of 776 (by decide +kernel) rfl, (wsAll_of 34 (by decide +kernel) rfl), by decide +kernel, by decide +kernel, by decide +kernel, by decide⟩
abbrev mX4_isIn : MD := (yX4_isIn, cX4_isIn, 3, (some FieldType.boolean), [])
theorem K_X4_isIn : MOk mX4_isIn 3 := ⟨wsAll_of 772 (by decide +kernel) rfl, (wsAll_of 34 (by decide +kernel) rfl), by decide +kernel, by decide +kernel, by decide +kernel, by decide⟩
abbrev mX4_isLength : MD := (yX4_isLength, cX4_isLength, 1, (some FieldType.boolean), [])
theorem K_X4_isLength : MOk mX4_isLength 1 := ⟨wsAll_of 769 (by decide +kernel) rfl, (wsAll_of 34 (by decide +kernel) rfl), by decide +kernel, by decide +kernel, by decide +kernel, by decide⟩
abbrev mX4_isMould : MD := (yX4_isMould, cX4_isMould, 2, (some FieldType.boolean), [])
theorem K_X4_isMould : MOk mX4_isMould 1 := ⟨wsAll_of 784 (by decide +kernel) rfl, (wsAll_of 34 (by decide +kernel) rfl), by decide +kernel, by decide +kernel, by decide +kernel, by decide⟩
abbrev mX4_isMaker : MD := (yX4_isMaker, cX4_isMaker, 2, (some FieldType.boolean), [])
theorem K_X4_isMaker : MOk mX4_isMaker 1 := ⟨wsAll_of 796 (by decide +kernel) rfl, (wsAll_of 34 (by decide +kernel) rfl), by decide +kernel, by decide +kernel, by decide +kernel, by decide⟩
abbrev mX4_isBatch : MD := (yX4_isBatch, cX4_isBatch, 2, (some FieldType.boolean), [])
theorem K_X4_isBatch : MOk mX4_isBatch 1 := ⟨wsAll_of 816 (by decide +kernel) rfl, (wsAll_of 34 (by decide +kernel) rfl), by decide +kernel, by decide +kernel, by decide +kernel, by decide⟩
abbrev mX4_isSaggar : MD := (yX4_isSaggar, cX4_isSaggar, 1, (some FieldType.boolean), [])
theorem K_X4_isSaggar : MOk mX4_isSaggar 1 := ⟨wsAll_of 819 (by decide +kernel) rfl, (wsAll_of 34 (by decide +kernel) rfl), by decide +kernel, by decide +kernel, by decide +kernel, by decide⟩
abbrev mX4_clayOf : MD := (yX4_clayOf, cX4_clayOf, 2, (some FieldType.int), [])
theorem K_X4_clayOf : MOk mX4_clayOf 1 := ⟨wsAll_of 872 (by decide +kernel) rfl, (wsAll_of 34 (by decide +kernel) rfl), by decide +kernel, by decide +kernel, by decide +kernel, by decide⟩
abbrev mX4_mould : MD := (yX4_mould, cX4_mould, 3, (some FieldType.int), [])
theorem K_X4_mould : MOk mX4_mould 2 := ⟨wsAll_of 766 (by decide +kernel) rfl, (wsAll_of 34 (by decide +kernel) rfl), by decide +kernel, by decide +kernel, by decide +kernel, by decide⟩
abbrev mX4_refit : MD := (yX4_refit, cX4_refit, 3, (some FieldType.int), [])
theorem K_X4_refit : MOk mX4_refit 1 := ⟨wsAll_of 780 (by decide +kernel) rfl, (wsAll_of 34 (by decide +kernel) rfl), by decide +kernel, by decide +kernel, by decide +kernel, by decide⟩
abbrev mX4_maker : MD := (yX4_maker, cX4_maker, 2, (some FieldType.int), [])
theorem K_X4_maker : MOk mX4_maker 1 := ⟨wsAll_of 788 (by decide +kernel) rfl, (wsAll_of 34 (by decide +kernel) rfl), by decide +kernel, by decide +kernel, by decide +kernel, by decide⟩
abbrev mX4_makerAt : MD := (yX4_makerAt, cX4_makerAt, 3, (some FieldType.int), [])
theorem K_X4_makerAt : MOk mX4_makerAt 1 := ⟨wsAll_of 800 (by decide +kernel) rfl, (wsAll_of 34 (by decide +kernel) rfl), by decide +kernel, by decide +kernel, by decide +kernel, by decide⟩
abbrev mX4_place : MD := (yX4_place, cX4_place, 4, (some FieldType.int), [])
theorem K_X4_place : MOk mX4_place 2 := ⟨wsAll_of 792 (by decide +kernel) rfl, (wsAll_of 34 (by decide +kernel) rfl), by decide +kernel, by decide +kernel, by decide +kernel, by decide⟩
abbrev mX4_buy : MD := (yX4_buy, cX4_buy, 4, (some FieldType.int), [])
theorem K_X4_buy : MOk mX4_buy 2 := ⟨wsAll_of 804 (by decide +kernel) rfl, (wsAll_of 34 (by decide +kernel) rfl), by decide +kernel, by decide +kernel, by decide +kernel, by decide⟩
abbrev mX4_setDry : MD := (yX4_setDry, cX4_setDry, 4, (some FieldType.int), [])
theorem K_X4_setDry : MOk mX4_setDry 2 := ⟨wsAll_of 808 (by decide +kernel) rfl, (wsAll_of 34 (by decide +kernel) rfl), by decide +kernel, by decide +kernel, by decide +kernel, by decide⟩
abbrev mX4_pack : MD := (yX4_pack, cX4_pack, 6, (some FieldType.int), [])
theorem K_X4_pack : MOk mX4_pack 3 := ⟨wsAll_of 812 (by decide +kernel) rfl, (wsAll_of 34 (by decide +kernel) rfl), by decide +kernel, by decide +kernel, by decide +kernel, by decide⟩
abbrev mX4_fire : MD := (yX4_fire, cX4_fire, 6, (some FieldType.int), [])
theorem K_X4_fire : MOk mX4_fire 1 := ⟨wsAll_of 836 (by decide +kernel) rfl, (wsAll_of 34 (by decide +kernel) rfl), by decide +kernel, by decide +kernel, by decide +kernel, by decide⟩
abbrev mX4_order : MD := (yX4_order, cX4_order, 6, (some FieldType.int), [])
theorem K_X4_order : MOk mX4_order 4 := ⟨wsAll_of 855 (by decide +kernel) rfl, (wsAll_of 34 (by decide +kernel) rfl), by decide +kernel, by decide +kernel, by decide +kernel, by decide⟩
abbrev mX4_mouldTold : MD := (yX4_mouldTold, cX4_mouldTold, 4, (some FieldType.int), [])
theorem K_X4_mouldTold : MOk mX4_mouldTold 2 := ⟨wsAll_of 864 (by decide +kernel) rfl, (wsAll_of 34 (by decide +kernel) rfl), by decide +kernel, by decide +kernel, by decide +kernel, by decide⟩
abbrev mX4_about : MD := (yX4_about, cX4_about, 3, (some FieldType.int), [])
theorem K_X4_about : MOk mX4_about 2 := ⟨wsAll_of 860 (by decide +kernel) rfl, (wsAll_of 34 (by decide +kernel) rfl), by decide +kernel, by decide +kernel, by decide +kernel, by decide⟩
abbrev mX4_makerTold : MD := (yX4_makerTold, cX4_makerTold, 3, (some FieldType.int), [])
theorem K_X4_makerTold : MOk mX4_makerTold 2 := ⟨wsAll_of 880 (by decide +kernel) rfl, (wsAll_of 34 (by decide +kernel) rfl), by decide +kernel, by decide +kernel, by decide +kernel, by decide⟩
abbrev mX4_told : MD := (yX4_told, cX4_told, 3, (some FieldType.int), [])
theorem K_X4_told : MOk mX4_told 2 := ⟨wsAll_of 876 (by decide +kernel) rfl, (wsAll_of 34 (by decide +kernel) rfl), by decide +kernel, by decide +kernel, by decide +kernel, by decide⟩
abbrev mX4_batch : MD := (yX4_batch, cX4_batch, 3, (some FieldType.int), [])
theorem K_X4_batch : MOk mX4_batch 2 := ⟨wsAll_of 884 (by decide +kernel) rfl, (wsAll_of 34 (by decide +kernel) rfl), by decide +kernel, by decide +kernel, by decide +kernel, by decide⟩
abbrev mX4_saggar : MD := (yX4_saggar, cX4_saggar, 3, (some FieldType.int), [])
theorem K_X4_saggar : MOk mX4_saggar 2 := ⟨wsAll_of 888 (by decide +kernel) rfl, (wsAll_of 34 (by decide +kernel) rfl), by decide +kernel, by decide +kernel, by decide +kernel, by decide⟩
abbrev mX4_store : MD := (yX4_store, cX4_store, 2, (some FieldType.int), [])
theorem K_X4_store : MOk mX4_store 1 := ⟨wsAll_of 892 (by decide +kernel) rfl, (wsAll_of 34 (by decide +kernel) rfl), by decide +kernel, by decide +kernel, by decide +kernel, by decide⟩
abbrev mX4_isWaiting : MD := (yX4_isWaiting, cX4_isWaiting, 2, (some FieldType.boolean), [])
theorem K_X4_isWaiting : MOk mX4_isWaiting 1 := ⟨wsAll_of 900 (by decide +kernel) rfl, (wsAll_of 34 (by decide +kernel) rfl), by decide +kernel, by decide +kernel, by decide +kernel, by decide⟩
abbrev mX4_waits : MD := (yX4_waits, cX4_waits, 3, (some FieldType.int), [])
theorem K_X4_waits : MOk mX4_waits 2 := ⟨wsAll_of 896 (by decide +kernel) rfl, (wsAll_of 34 (by decide +kernel) rfl), by decide +kernel, by decide +kernel, by decide +kernel, by decide⟩
abbrev mX4_count : MD := (yX4_count, cX4_count, 2, (some FieldType.int), [])
theorem K_X4_count : MOk mX4_count 1 := ⟨wsAll_of 904 (by decide +kernel) rfl, (wsAll_of 34 (by decide +kernel) rfl), by decide +kernel, by decide +kernel, by decide +kernel, by decide⟩
abbrev mX4_pass : MD := (yX4_pass, cX4_pass, 3, (some FieldType.int), [])
theorem K_X4_pass : MOk mX4_pass 1 := ⟨wsAll_of 917 (by decide +kernel) rfl, (wsAll_of 34 (by decide +kernel) rfl), by decide +kernel, by decide +kernel, by decide +kernel, by decide⟩
abbrev mX4_breaks : MD := (yX4_breaks, cX4_breaks, 3, (some FieldType.int), [])
theorem K_X4_breaks : MOk mX4_breaks 2 := ⟨wsAll_of 940 (by decide +kernel) rfl, (wsAll_of 34 (by decide +kernel) rfl), by decide +kernel, by decide +kernel, by decide +kernel, by decide⟩
abbrev mX4_advise : MD := (yX4_advise, cX4_advise, 6, (some FieldType.int), [])
theorem K_X4_advise : MOk mX4_advise 0 := ⟨wsAll_of 944 (by decide +kernel) rfl, (wsAll_of 34 (by decide +kernel) rfl), by decide +kernel, by decide +kernel, by decide +kernel, by decide⟩
abbrev mX4_ready : MD := (yX4_ready, cX4_ready, 3, (some FieldType.int), [])
theorem K_X4_ready : MOk mX4_ready 1 := ⟨wsAll_of 949 (by decide +kernel) rfl, (wsAll_of 34 (by decide +kernel) rfl), by decide +kernel, by decide +kernel, by decide +kernel, by decide⟩
abbrev mX4_foresee : MD := (yX4_foresee, cX4_foresee, 3, (some FieldType.int), [])
theorem K_X4_foresee : MOk mX4_foresee 2 := ⟨wsAll_of 959 (by decide +kernel) rfl, (wsAll_of 34 (by decide +kernel) rfl), by decide +kernel, by decide +kernel, by decide +kernel, by decide⟩
abbrev mX4_mean : MD := (yX4_mean, cX4_mean, 4, (some FieldType.double), [])
theorem K_X4_mean : MOk mX4_mean 0 := ⟨wsAll_of 963 (by decide +kernel) rfl, (wsAll_of 34 (by decide +kernel) rfl), by decide +kernel, by decide +kernel, by decide +kernel, by decide⟩
abbrev mX4_digest : MD := (yX4_digest, cX4_digest, 7, (some FieldType.long), [])
theorem K_X4_digest : MOk mX4_digest 0 := ⟨wsAll_of 967 (by decide +kernel) rfl, (wsAll_of 34 (by decide +kernel) rfl), by decide +kernel, by decide +kernel, by decide +kernel, by decide⟩
abbrev mL_mould : MD := (yL_mould, cL_mould, 5, (some FieldType.int), [(0, 10, 13, 13), (0, 10, 17, 15)])
theorem K_L_mould : MOk mL_mould 4 := ⟨wsAll_of 244 (by decide +kernel) rfl, (wsAll_of 30 (by decide +kernel) rfl), by decide +kernel, by decide +kernel, by decide +kernel, by decide⟩
abbrev mL_refit : MD := (yL_refit, cL_refit, 4, (some FieldType.int), [(0, 9, 12, 21), (0, 9, 15, 15)])
theorem K_L_refit : MOk mL_refit 3 := ⟨wsAll_of 366 (by decide +kernel) rfl, (wsAll_of 30 (by decide +kernel) rfl), by decide +kernel, by decide +kernel, by decide +kernel, by decide⟩
abbrev mL_maker : MD := (yL_maker, cL_maker, 4, (some FieldType.int), [(0, 9, 12, 13), (0, 9, 15, 15)])
theorem K_L_maker : MOk mL_maker 3 := ⟨wsAll_of 403 (by decide +kernel) rfl, (wsAll_of 30 (by decide +kernel) rfl), by decide +kernel, by decide +kernel, by decide +kernel, by decide⟩
abbrev mL_place : MD := (yL_place, cL_place, 5, (some FieldType.int), [(0, 10, 13, 21), (0, 10, 17, 15)])
theorem K_L_place : MOk mL_place 4 := ⟨wsAll_of 414 (by decide +kernel) rfl, (wsAll_of 30 (by decide +kernel) rfl), by decide +kernel, by decide +kernel, by decide +kernel, by decide⟩
abbrev mL_buy : MD := (yL_buy, cL_buy, 5, (some FieldType.int), [(0, 10, 13, 21), (0, 10, 17, 13), (0, 10, 21, 15)])
theorem K_L_buy : MOk mL_buy 4 := ⟨wsAll_of 425 (by decide +kernel) rfl, (wsAll_of 30 (by decide +kernel) rfl), by decide +kernel, by decide +kernel, by decide +kernel, by decide⟩
abbrev mL_setDry : MD := (yL_setDry, cL_setDry, 5, (some FieldType.int), [(0, 10, 13, 21), (0, 10, 17, 13)])
theorem K_L_setDry : MOk mL_setDry 4 := ⟨wsAll_of 440 (by decide +kernel) rfl, (wsAll_of 30 (by decide +kernel) rfl), by decide +kernel, by decide +kernel, by decide +kernel, by decide⟩
abbrev mL_pack : MD := (yL_pack, cL_pack, 6, (some FieldType.int), [(0, 12, 15, 21), (0, 12, 19, 13), (0, 12, 23, 15)])
theorem K_L_pack : MOk mL_pack 5 := ⟨wsAll_of 452 (by decide +kernel) rfl, (wsAll_of 30 (by decide +kernel) rfl), by decide +kernel, by decide +kernel, by decide +kernel, by decide⟩
abbrev mL_fire : MD := (yL_fire, cL_fire, 4, (some FieldType.int), [(0, 9, 12, 13), (0, 9, 15, 15)])
theorem K_L_fire : MOk mL_fire 3 := ⟨wsAll_of 468 (by decide +kernel) rfl, (wsAll_of 30 (by decide +kernel) rfl), by decide +kernel, by decide +kernel, by decide +kernel, by decide⟩
abbrev mL_order : MD := (yL_order, cL_order, 7, (some FieldType.int), [(0, 14, 17, 13), (0, 14, 21, 15)])
theorem K_L_order : MOk mL_order 6 := ⟨wsAll_of 487 (by decide +kernel) rfl, (wsAll_of 30 (by decide +kernel) rfl), by decide +kernel, by decide +kernel, by decide +kernel, by decide⟩
abbrev mL_about : MD := (yL_about, cL_about, 5, (some FieldType.int), [(0, 10, 13, 21)])
theorem K_L_about : MOk mL_about 4 := ⟨wsAll_of 498 (by decide +kernel) rfl, (wsAll_of 30 (by decide +kernel) rfl), by decide +kernel, by decide +kernel, by decide +kernel, by decide⟩
abbrev mL_told : MD := (yL_told, cL_told, 5, (some FieldType.int), [(0, 10, 13, 21)])
theorem K_L_told : MOk mL_told 4 := ⟨wsAll_of 506 (by decide +kernel) rfl, (wsAll_of 30 (by decide +kernel) rfl), by decide +kernel, by decide +kernel, by decide +kernel, by decide⟩
abbrev mL_batch : MD := (yL_batch, cL_batch, 5, (some FieldType.int), [(0, 10, 13, 21)])
theorem K_L_batch : MOk mL_batch 4 := ⟨wsAll_of 520 (by decide +kernel) rfl, (wsAll_of 30 (by decide +kernel) rfl), by decide +kernel, by decide +kernel, by decide +kernel, by decide⟩
abbrev mL_saggar : MD := (yL_saggar, cL_saggar, 5, (some FieldType.int), [(0, 10, 13, 21)])
theorem K_L_saggar : MOk mL_saggar 4 := ⟨wsAll_of 527 (by decide +kernel) rfl, (wsAll_of 30 (by decide +kernel) rfl), by decide +kernel, by decide +kernel, by decide +kernel, by decide⟩
abbrev mL_store : MD := (yL_store, cL_store, 4, (some FieldType.int), [(0, 9, 12, 21)])
theorem K_L_store : MOk mL_store 3 := ⟨wsAll_of 534 (by decide +kernel) rfl, (wsAll_of 30 (by decide +kernel) rfl), by decide +kernel, by decide +kernel, by decide +kernel, by decide⟩
abbrev mL_waits : MD := (yL_waits, cL_waits, 5, (some FieldType.int), [(0, 10, 13, 21)])
theorem K_L_waits : MOk mL_waits 4 := ⟨wsAll_of 542 (by decide +kernel) rfl, (wsAll_of 30 (by decide +kernel) rfl), by decide +kernel, by decide +kernel, by decide +kernel, by decide⟩
abbrev mL_count : MD := (yL_count, cL_count, 4, (some FieldType.int), [(0, 9, 12, 21)])
theorem K_L_count : MOk mL_count 3 := ⟨wsAll_of 549 (by decide +kernel) rfl, (wsAll_of 30 (by decide +kernel) rfl), by decide +kernel, by decide +kernel, by decide +kernel, by decide⟩
abbrev mL_pass : MD := (yL_pass, cL_pass, 4, (some FieldType.int), [(0, 9, 12, 13)])
theorem K_L_pass : MOk mL_pass 3 := ⟨wsAll_of 557 (by decide +kernel) rfl, (wsAll_of 30 (by decide +kernel) rfl), by decide +kernel, by decide +kernel, by decide +kernel, by decide⟩
abbrev mL_breaks : MD := (yL_breaks, cL_breaks, 5, (some FieldType.int), [(0, 10, 13, 21), (0, 10, 17, 13)])
theorem K_L_breaks : MOk mL_breaks 4 := ⟨wsAll_of 607 (by decide +kernel) rfl, (wsAll_of 30 (by decide +kernel) rfl), by decide +kernel, by decide +kernel, by decide +kernel, by decide⟩
abbrev mL_ready : MD := (yL_ready, cL_ready, 4, (some FieldType.int), [(0, 9, 12, 21)])
theorem K_L_ready : MOk mL_ready 3 := ⟨wsAll_of 615 (by decide +kernel) rfl, (wsAll_of 30 (by decide +kernel) rfl), by decide +kernel, by decide +kernel, by decide +kernel, by decide⟩
abbrev mL_foresee : MD := (yL_foresee, cL_foresee, 5, (some FieldType.int), [(0, 10, 13, 13), (0, 10, 17, 21)])
theorem K_L_foresee : MOk mL_foresee 4 := ⟨wsAll_of 638 (by decide +kernel) rfl, (wsAll_of 30 (by decide +kernel) rfl), by decide +kernel, by decide +kernel, by decide +kernel, by decide⟩
def yM_floorMod : MethodName := ⟨"java/lang/Math", "floorMod", "(II)I"⟩
abbrev mM_floorMod : MD := (yM_floorMod, prog_11_method_50_code, 3, (some FieldType.int), [])
theorem K_M_floorMod : MOk mM_floorMod 2 := ⟨wsAll_of 589 (by decide +kernel) rfl, (wsAll_of 42 (by decide +kernel) rfl), by decide +kernel, by decide +kernel, by decide +kernel, by decide⟩
theorem V_X2_init : Cond.instanceMethod yX2_init ∈ wsAll := wsAll_of 47 (by decide +kernel) rfl
theorem V_X1_init : Cond.instanceMethod yX1_init ∈ wsAll := wsAll_of 55 (by decide +kernel) rfl
theorem V_X0_init : Cond.instanceMethod yX0_init ∈ wsAll := wsAll_of 61 (by decide +kernel) rfl
theorem V_X2_advise : Cond.instanceMethod yX2_advise ∈ wsAll := wsAll_of 143 (by decide +kernel) rfl
theorem S_X2_advise : Cond.selects (mdY mX2_advise).cls (mdY mX2_advise) (mdY mX2_advise) ∈ wsAll := wsAll_of 144 (by decide +kernel) rfl
theorem V_X1_areSaggarsEmpty : Cond.instanceMethod yX1_areSaggarsEmpty ∈ wsAll := wsAll_of 147 (by decide +kernel) rfl
theorem S_X1_areSaggarsEmpty : Cond.selects (mdY mX1_areSaggarsEmpty).cls (mdY mX1_areSaggarsEmpty) (mdY mX1_areSaggarsEmpty) ∈ wsAll := wsAll_of 148 (by decide +kernel) rfl
theorem V_X0_sum : Cond.instanceMethod yX0_sum ∈ wsAll := wsAll_of 151 (by decide +kernel) rfl
theorem S_X0_sum : Cond.selects (mdY mX0_sum).cls (mdY mX0_sum) (mdY mX0_sum) ∈ wsAll := wsAll_of 152 (by decide +kernel) rfl
theorem V_X0_at : Cond.instanceMethod yX0_at ∈ wsAll := wsAll_of 155 (by decide +kernel) rfl
theorem S_X0_at : Cond.selects (mdY mX0_at).cls (mdY mX0_at) (mdY mX0_at) ∈ wsAll := wsAll_of 156 (by decide +kernel) rfl
theorem V_X1_bestCoals : Cond.instanceMethod yX1_bestCoals ∈ wsAll := wsAll_of 159 (by decide +kernel) rfl
theorem S_X1_bestCoals : Cond.selects (mdY mX1_bestCoals).cls (mdY mX1_bestCoals) (mdY mX1_bestCoals) ∈ wsAll := wsAll_of 160 (by decide +kernel) rfl
theorem V_X1_stemsThatBreakInAll : Cond.instanceMethod yX1_stemsThatBreakInAll ∈ wsAll := wsAll_of 164 (by decide +kernel) rfl
theorem V_X1_stemsThatBreak : Cond.instanceMethod yX1_stemsThatBreak ∈ wsAll := wsAll_of 167 (by decide +kernel) rfl
theorem S_X1_stemsThatBreak : Cond.selects (mdY mX1_stemsThatBreak).cls (mdY mX1_stemsThatBreak) (mdY mX1_stemsThatBreak) ∈ wsAll := wsAll_of 168 (by decide +kernel) rfl
theorem V_X2_mean : Cond.instanceMethod yX2_mean ∈ wsAll := wsAll_of 178 (by decide +kernel) rfl
theorem S_X2_mean : Cond.selects (mdY mX2_mean).cls (mdY mX2_mean) (mdY mX2_mean) ∈ wsAll := wsAll_of 179 (by decide +kernel) rfl
theorem V_X1_meanFlaw : Cond.instanceMethod yX1_meanFlaw ∈ wsAll := wsAll_of 182 (by decide +kernel) rfl
theorem S_X1_meanFlaw : Cond.selects (mdY mX1_meanFlaw).cls (mdY mX1_meanFlaw) (mdY mX1_meanFlaw) ∈ wsAll := wsAll_of 183 (by decide +kernel) rfl
theorem V_X0_size : Cond.instanceMethod yX0_size ∈ wsAll := wsAll_of 186 (by decide +kernel) rfl
theorem S_X0_size : Cond.selects (mdY mX0_size).cls (mdY mX0_size) (mdY mX0_size) ∈ wsAll := wsAll_of 187 (by decide +kernel) rfl
theorem V_X2_digest : Cond.instanceMethod yX2_digest ∈ wsAll := wsAll_of 190 (by decide +kernel) rfl
theorem S_X2_digest : Cond.selects (mdY mX2_digest).cls (mdY mX2_digest) (mdY mX2_digest) ∈ wsAll := wsAll_of 191 (by decide +kernel) rfl
theorem V_X1_checksum : Cond.instanceMethod yX1_checksum ∈ wsAll := wsAll_of 194 (by decide +kernel) rfl
theorem S_X1_checksum : Cond.selects (mdY mX1_checksum).cls (mdY mX1_checksum) (mdY mX1_checksum) ∈ wsAll := wsAll_of 195 (by decide +kernel) rfl
theorem V_X1_counted : Cond.instanceMethod yX1_counted ∈ wsAll := wsAll_of 200 (by decide +kernel) rfl
theorem S_X1_counted : Cond.selects (mdY mX1_counted).cls (mdY mX1_counted) (mdY mX1_counted) ∈ wsAll := wsAll_of 201 (by decide +kernel) rfl
theorem V_X1_wholeInAll : Cond.instanceMethod yX1_wholeInAll ∈ wsAll := wsAll_of 205 (by decide +kernel) rfl
theorem V_X1_wholeOf : Cond.instanceMethod yX1_wholeOf ∈ wsAll := wsAll_of 208 (by decide +kernel) rfl
theorem S_X1_wholeOf : Cond.selects (mdY mX1_wholeOf).cls (mdY mX1_wholeOf) (mdY mX1_wholeOf) ∈ wsAll := wsAll_of 209 (by decide +kernel) rfl
theorem V_X1_driesBy : Cond.instanceMethod yX1_driesBy ∈ wsAll := wsAll_of 212 (by decide +kernel) rfl
theorem S_X1_driesBy : Cond.selects (mdY mX1_driesBy).cls (mdY mX1_driesBy) (mdY mX1_driesBy) ∈ wsAll := wsAll_of 213 (by decide +kernel) rfl
theorem V_X1_withMoulds : Cond.instanceMethod yX1_withMoulds ∈ wsAll := wsAll_of 217 (by decide +kernel) rfl
theorem V_X1_aboutMould : Cond.instanceMethod yX1_aboutMould ∈ wsAll := wsAll_of 220 (by decide +kernel) rfl
theorem S_X1_aboutMould : Cond.selects (mdY mX1_aboutMould).cls (mdY mX1_aboutMould) (mdY mX1_aboutMould) ∈ wsAll := wsAll_of 221 (by decide +kernel) rfl
theorem V_X1_flawOf : Cond.instanceMethod yX1_flawOf ∈ wsAll := wsAll_of 225 (by decide +kernel) rfl
theorem V_X1_clayOf : Cond.instanceMethod yX1_clayOf ∈ wsAll := wsAll_of 229 (by decide +kernel) rfl
theorem V_X1_makerAt : Cond.instanceMethod yX1_makerAt ∈ wsAll := wsAll_of 233 (by decide +kernel) rfl
theorem T_X1_withTable : Cond.static yX1_withTable ∈ wsAll := wsAll_of 236 (by decide +kernel) rfl
theorem V_X0_width : Cond.instanceMethod yX0_width ∈ wsAll := wsAll_of 239 (by decide +kernel) rfl
theorem S_X0_width : Cond.selects (mdY mX0_width).cls (mdY mX0_width) (mdY mX0_width) ∈ wsAll := wsAll_of 240 (by decide +kernel) rfl
theorem T_L_mould : Cond.static yL_mould ∈ wsAll := wsAll_of 243 (by decide +kernel) rfl
theorem V_X2_mould : Cond.instanceMethod yX2_mould ∈ wsAll := wsAll_of 248 (by decide +kernel) rfl
theorem S_X2_mould : Cond.selects (mdY mX2_mould).cls (mdY mX2_mould) (mdY mX2_mould) ∈ wsAll := wsAll_of 249 (by decide +kernel) rfl
theorem T_X2_isLength : Cond.static yX2_isLength ∈ wsAll := wsAll_of 252 (by decide +kernel) rfl
theorem T_X2_isWithin : Cond.static yX2_isWithin ∈ wsAll := wsAll_of 255 (by decide +kernel) rfl
theorem T_X2_requireArgument : Cond.static yX2_requireArgument ∈ wsAll := wsAll_of 258 (by decide +kernel) rfl
theorem V_X0_isFull : Cond.instanceMethod yX0_isFull ∈ wsAll := wsAll_of 329 (by decide +kernel) rfl
theorem S_X0_isFull : Cond.selects (mdY mX0_isFull).cls (mdY mX0_isFull) (mdY mX0_isFull) ∈ wsAll := wsAll_of 330 (by decide +kernel) rfl
theorem T_X2_requireState : Cond.static yX2_requireState ∈ wsAll := wsAll_of 333 (by decide +kernel) rfl
theorem V_X1_addMould : Cond.instanceMethod yX1_addMould ∈ wsAll := wsAll_of 352 (by decide +kernel) rfl
theorem S_X1_addMould : Cond.selects (mdY mX1_addMould).cls (mdY mX1_addMould) (mdY mX1_addMould) ∈ wsAll := wsAll_of 353 (by decide +kernel) rfl
theorem V_X0_addRow : Cond.instanceMethod yX0_addRow ∈ wsAll := wsAll_of 356 (by decide +kernel) rfl
theorem S_X0_addRow : Cond.selects (mdY mX0_addRow).cls (mdY mX0_addRow) (mdY mX0_addRow) ∈ wsAll := wsAll_of 357 (by decide +kernel) rfl
theorem V_X0_put : Cond.instanceMethod yX0_put ∈ wsAll := wsAll_of 361 (by decide +kernel) rfl
theorem S_X0_put : Cond.selects (mdY mX0_put).cls (mdY mX0_put) (mdY mX0_put) ∈ wsAll := wsAll_of 362 (by decide +kernel) rfl
theorem T_L_refit : Cond.static yL_refit ∈ wsAll := wsAll_of 365 (by decide +kernel) rfl
theorem V_X2_refit : Cond.instanceMethod yX2_refit ∈ wsAll := wsAll_of 369 (by decide +kernel) rfl
theorem S_X2_refit : Cond.selects (mdY mX2_refit).cls (mdY mX2_refit) (mdY mX2_refit) ∈ wsAll := wsAll_of 370 (by decide +kernel) rfl
theorem V_X0_hasRow : Cond.instanceMethod yX0_hasRow ∈ wsAll := wsAll_of 373 (by decide +kernel) rfl
theorem S_X0_hasRow : Cond.selects (mdY mX0_hasRow).cls (mdY mX0_hasRow) (mdY mX0_hasRow) ∈ wsAll := wsAll_of 374 (by decide +kernel) rfl
theorem T_X2_requireIndex : Cond.static yX2_requireIndex ∈ wsAll := wsAll_of 377 (by decide +kernel) rfl
theorem V_X1_pay : Cond.instanceMethod yX1_pay ∈ wsAll := wsAll_of 397 (by decide +kernel) rfl
theorem S_X1_pay : Cond.selects (mdY mX1_pay).cls (mdY mX1_pay) (mdY mX1_pay) ∈ wsAll := wsAll_of 398 (by decide +kernel) rfl
theorem T_L_maker : Cond.static yL_maker ∈ wsAll := wsAll_of 402 (by decide +kernel) rfl
theorem V_X2_maker : Cond.instanceMethod yX2_maker ∈ wsAll := wsAll_of 405 (by decide +kernel) rfl
theorem S_X2_maker : Cond.selects (mdY mX2_maker).cls (mdY mX2_maker) (mdY mX2_maker) ∈ wsAll := wsAll_of 406 (by decide +kernel) rfl
theorem V_X1_addMaker : Cond.instanceMethod yX1_addMaker ∈ wsAll := wsAll_of 409 (by decide +kernel) rfl
theorem S_X1_addMaker : Cond.selects (mdY mX1_addMaker).cls (mdY mX1_addMaker) (mdY mX1_addMaker) ∈ wsAll := wsAll_of 410 (by decide +kernel) rfl
theorem T_L_place : Cond.static yL_place ∈ wsAll := wsAll_of 413 (by decide +kernel) rfl
theorem V_X2_place : Cond.instanceMethod yX2_place ∈ wsAll := wsAll_of 416 (by decide +kernel) rfl
theorem S_X2_place : Cond.selects (mdY mX2_place).cls (mdY mX2_place) (mdY mX2_place) ∈ wsAll := wsAll_of 417 (by decide +kernel) rfl
theorem V_X1_isAnotherAt : Cond.instanceMethod yX1_isAnotherAt ∈ wsAll := wsAll_of 420 (by decide +kernel) rfl
theorem S_X1_isAnotherAt : Cond.selects (mdY mX1_isAnotherAt).cls (mdY mX1_isAnotherAt) (mdY mX1_isAnotherAt) ∈ wsAll := wsAll_of 421 (by decide +kernel) rfl
theorem T_L_buy : Cond.static yL_buy ∈ wsAll := wsAll_of 424 (by decide +kernel) rfl
theorem V_X2_buy : Cond.instanceMethod yX2_buy ∈ wsAll := wsAll_of 427 (by decide +kernel) rfl
theorem S_X2_buy : Cond.selects (mdY mX2_buy).cls (mdY mX2_buy) (mdY mX2_buy) ∈ wsAll := wsAll_of 428 (by decide +kernel) rfl
theorem V_X1_addClay : Cond.instanceMethod yX1_addClay ∈ wsAll := wsAll_of 431 (by decide +kernel) rfl
theorem S_X1_addClay : Cond.selects (mdY mX1_addClay).cls (mdY mX1_addClay) (mdY mX1_addClay) ∈ wsAll := wsAll_of 432 (by decide +kernel) rfl
theorem V_X1_addCoals : Cond.instanceMethod yX1_addCoals ∈ wsAll := wsAll_of 435 (by decide +kernel) rfl
theorem S_X1_addCoals : Cond.selects (mdY mX1_addCoals).cls (mdY mX1_addCoals) (mdY mX1_addCoals) ∈ wsAll := wsAll_of 436 (by decide +kernel) rfl
theorem T_L_setDry : Cond.static yL_setDry ∈ wsAll := wsAll_of 439 (by decide +kernel) rfl
theorem V_X2_setDry : Cond.instanceMethod yX2_setDry ∈ wsAll := wsAll_of 442 (by decide +kernel) rfl
theorem S_X2_setDry : Cond.selects (mdY mX2_setDry).cls (mdY mX2_setDry) (mdY mX2_setDry) ∈ wsAll := wsAll_of 443 (by decide +kernel) rfl
theorem V_X1_setDrying : Cond.instanceMethod yX1_setDrying ∈ wsAll := wsAll_of 447 (by decide +kernel) rfl
theorem S_X1_setDrying : Cond.selects (mdY mX1_setDrying).cls (mdY mX1_setDrying) (mdY mX1_setDrying) ∈ wsAll := wsAll_of 448 (by decide +kernel) rfl
theorem T_L_pack : Cond.static yL_pack ∈ wsAll := wsAll_of 451 (by decide +kernel) rfl
theorem V_X2_pack : Cond.instanceMethod yX2_pack ∈ wsAll := wsAll_of 454 (by decide +kernel) rfl
theorem S_X2_pack : Cond.selects (mdY mX2_pack).cls (mdY mX2_pack) (mdY mX2_pack) ∈ wsAll := wsAll_of 455 (by decide +kernel) rfl
theorem V_X1_packPipes : Cond.instanceMethod yX1_packPipes ∈ wsAll := wsAll_of 458 (by decide +kernel) rfl
theorem S_X1_packPipes : Cond.selects (mdY mX1_packPipes).cls (mdY mX1_packPipes) (mdY mX1_packPipes) ∈ wsAll := wsAll_of 459 (by decide +kernel) rfl
theorem V_X0_removeRow : Cond.instanceMethod yX0_removeRow ∈ wsAll := wsAll_of 462 (by decide +kernel) rfl
theorem S_X0_removeRow : Cond.selects (mdY mX0_removeRow).cls (mdY mX0_removeRow) (mdY mX0_removeRow) ∈ wsAll := wsAll_of 463 (by decide +kernel) rfl
theorem T_L_fire : Cond.static yL_fire ∈ wsAll := wsAll_of 467 (by decide +kernel) rfl
theorem V_X2_fire : Cond.instanceMethod yX2_fire ∈ wsAll := wsAll_of 470 (by decide +kernel) rfl
theorem S_X2_fire : Cond.selects (mdY mX2_fire).cls (mdY mX2_fire) (mdY mX2_fire) ∈ wsAll := wsAll_of 471 (by decide +kernel) rfl
theorem V_X1_fireKiln : Cond.instanceMethod yX1_fireKiln ∈ wsAll := wsAll_of 474 (by decide +kernel) rfl
theorem S_X1_fireKiln : Cond.selects (mdY mX1_fireKiln).cls (mdY mX1_fireKiln) (mdY mX1_fireKiln) ∈ wsAll := wsAll_of 475 (by decide +kernel) rfl
theorem V_X1_unloadFired : Cond.instanceMethod yX1_unloadFired ∈ wsAll := wsAll_of 479 (by decide +kernel) rfl
theorem V_X1_addWhole : Cond.instanceMethod yX1_addWhole ∈ wsAll := wsAll_of 483 (by decide +kernel) rfl
theorem T_L_order : Cond.static yL_order ∈ wsAll := wsAll_of 486 (by decide +kernel) rfl
theorem V_X2_order : Cond.instanceMethod yX2_order ∈ wsAll := wsAll_of 489 (by decide +kernel) rfl
theorem S_X2_order : Cond.selects (mdY mX2_order).cls (mdY mX2_order) (mdY mX2_order) ∈ wsAll := wsAll_of 490 (by decide +kernel) rfl
theorem V_X1_addOrder : Cond.instanceMethod yX1_addOrder ∈ wsAll := wsAll_of 493 (by decide +kernel) rfl
theorem S_X1_addOrder : Cond.selects (mdY mX1_addOrder).cls (mdY mX1_addOrder) (mdY mX1_addOrder) ∈ wsAll := wsAll_of 494 (by decide +kernel) rfl
theorem T_L_about : Cond.static yL_about ∈ wsAll := wsAll_of 497 (by decide +kernel) rfl
theorem V_X2_about : Cond.instanceMethod yX2_about ∈ wsAll := wsAll_of 500 (by decide +kernel) rfl
theorem S_X2_about : Cond.selects (mdY mX2_about).cls (mdY mX2_about) (mdY mX2_about) ∈ wsAll := wsAll_of 501 (by decide +kernel) rfl
theorem T_L_told : Cond.static yL_told ∈ wsAll := wsAll_of 505 (by decide +kernel) rfl
theorem V_X2_told : Cond.instanceMethod yX2_told ∈ wsAll := wsAll_of 508 (by decide +kernel) rfl
theorem S_X2_told : Cond.selects (mdY mX2_told).cls (mdY mX2_told) (mdY mX2_told) ∈ wsAll := wsAll_of 509 (by decide +kernel) rfl
theorem T_X2_cellOf : Cond.static yX2_cellOf ∈ wsAll := wsAll_of 512 (by decide +kernel) rfl
theorem V_X0_hasColumn : Cond.instanceMethod yX0_hasColumn ∈ wsAll := wsAll_of 515 (by decide +kernel) rfl
theorem S_X0_hasColumn : Cond.selects (mdY mX0_hasColumn).cls (mdY mX0_hasColumn) (mdY mX0_hasColumn) ∈ wsAll := wsAll_of 516 (by decide +kernel) rfl
theorem T_L_batch : Cond.static yL_batch ∈ wsAll := wsAll_of 519 (by decide +kernel) rfl
theorem V_X2_batch : Cond.instanceMethod yX2_batch ∈ wsAll := wsAll_of 522 (by decide +kernel) rfl
theorem S_X2_batch : Cond.selects (mdY mX2_batch).cls (mdY mX2_batch) (mdY mX2_batch) ∈ wsAll := wsAll_of 523 (by decide +kernel) rfl
theorem T_L_saggar : Cond.static yL_saggar ∈ wsAll := wsAll_of 526 (by decide +kernel) rfl
theorem V_X2_saggar : Cond.instanceMethod yX2_saggar ∈ wsAll := wsAll_of 529 (by decide +kernel) rfl
theorem S_X2_saggar : Cond.selects (mdY mX2_saggar).cls (mdY mX2_saggar) (mdY mX2_saggar) ∈ wsAll := wsAll_of 530 (by decide +kernel) rfl
theorem T_L_store : Cond.static yL_store ∈ wsAll := wsAll_of 533 (by decide +kernel) rfl
theorem V_X2_store : Cond.instanceMethod yX2_store ∈ wsAll := wsAll_of 536 (by decide +kernel) rfl
theorem S_X2_store : Cond.selects (mdY mX2_store).cls (mdY mX2_store) (mdY mX2_store) ∈ wsAll := wsAll_of 537 (by decide +kernel) rfl
theorem T_L_waits : Cond.static yL_waits ∈ wsAll := wsAll_of 541 (by decide +kernel) rfl
theorem V_X2_waits : Cond.instanceMethod yX2_waits ∈ wsAll := wsAll_of 544 (by decide +kernel) rfl
theorem S_X2_waits : Cond.selects (mdY mX2_waits).cls (mdY mX2_waits) (mdY mX2_waits) ∈ wsAll := wsAll_of 545 (by decide +kernel) rfl
theorem T_L_count : Cond.static yL_count ∈ wsAll := wsAll_of 548 (by decide +kernel) rfl
theorem V_X2_count : Cond.instanceMethod yX2_count ∈ wsAll := wsAll_of 551 (by decide +kernel) rfl
theorem S_X2_count : Cond.selects (mdY mX2_count).cls (mdY mX2_count) (mdY mX2_count) ∈ wsAll := wsAll_of 552 (by decide +kernel) rfl
theorem T_L_pass : Cond.static yL_pass ∈ wsAll := wsAll_of 556 (by decide +kernel) rfl
theorem V_X2_pass : Cond.instanceMethod yX2_pass ∈ wsAll := wsAll_of 559 (by decide +kernel) rfl
theorem S_X2_pass : Cond.selects (mdY mX2_pass).cls (mdY mX2_pass) (mdY mX2_pass) ∈ wsAll := wsAll_of 560 (by decide +kernel) rfl
theorem V_X1_passDays : Cond.instanceMethod yX1_passDays ∈ wsAll := wsAll_of 563 (by decide +kernel) rfl
theorem S_X1_passDays : Cond.selects (mdY mX1_passDays).cls (mdY mX1_passDays) (mdY mX1_passDays) ∈ wsAll := wsAll_of 564 (by decide +kernel) rfl
theorem V_X1_passDay : Cond.instanceMethod yX1_passDay ∈ wsAll := wsAll_of 568 (by decide +kernel) rfl
theorem V_X1_letWork : Cond.instanceMethod yX1_letWork ∈ wsAll := wsAll_of 572 (by decide +kernel) rfl
theorem V_X1_layOnBoards : Cond.instanceMethod yX1_layOnBoards ∈ wsAll := wsAll_of 581 (by decide +kernel) rfl
theorem V_X1_wearMould : Cond.instanceMethod yX1_wearMould ∈ wsAll := wsAll_of 585 (by decide +kernel) rfl
theorem T_M_floorMod : Cond.static yM_floorMod ∈ wsAll := wsAll_of 588 (by decide +kernel) rfl
theorem T_X1_dry : Cond.static yX1_dry ∈ wsAll := wsAll_of 591 (by decide +kernel) rfl
theorem V_X1_lookAtOrders : Cond.instanceMethod yX1_lookAtOrders ∈ wsAll := wsAll_of 595 (by decide +kernel) rfl
theorem V_X1_lookAtOrder : Cond.instanceMethod yX1_lookAtOrder ∈ wsAll := wsAll_of 599 (by decide +kernel) rfl
theorem V_X1_dismiss : Cond.instanceMethod yX1_dismiss ∈ wsAll := wsAll_of 603 (by decide +kernel) rfl
theorem T_L_breaks : Cond.static yL_breaks ∈ wsAll := wsAll_of 606 (by decide +kernel) rfl
theorem V_X2_breaks : Cond.instanceMethod yX2_breaks ∈ wsAll := wsAll_of 609 (by decide +kernel) rfl
theorem S_X2_breaks : Cond.selects (mdY mX2_breaks).cls (mdY mX2_breaks) (mdY mX2_breaks) ∈ wsAll := wsAll_of 610 (by decide +kernel) rfl
theorem T_L_ready : Cond.static yL_ready ∈ wsAll := wsAll_of 614 (by decide +kernel) rfl
theorem V_X2_ready : Cond.instanceMethod yX2_ready ∈ wsAll := wsAll_of 617 (by decide +kernel) rfl
theorem S_X2_ready : Cond.selects (mdY mX2_ready).cls (mdY mX2_ready) (mdY mX2_ready) ∈ wsAll := wsAll_of 618 (by decide +kernel) rfl
theorem V_X1_copyFrom : Cond.instanceMethod yX1_copyFrom ∈ wsAll := wsAll_of 621 (by decide +kernel) rfl
theorem S_X1_copyFrom : Cond.selects (mdY mX1_copyFrom).cls (mdY mX1_copyFrom) (mdY mX1_copyFrom) ∈ wsAll := wsAll_of 622 (by decide +kernel) rfl
theorem V_X0_copyFrom : Cond.instanceMethod yX0_copyFrom ∈ wsAll := wsAll_of 625 (by decide +kernel) rfl
theorem S_X0_copyFrom : Cond.selects (mdY mX0_copyFrom).cls (mdY mX0_copyFrom) (mdY mX0_copyFrom) ∈ wsAll := wsAll_of 626 (by decide +kernel) rfl
theorem V_X1_daysTillServed : Cond.instanceMethod yX1_daysTillServed ∈ wsAll := wsAll_of 633 (by decide +kernel) rfl
theorem S_X1_daysTillServed : Cond.selects (mdY mX1_daysTillServed).cls (mdY mX1_daysTillServed) (mdY mX1_daysTillServed) ∈ wsAll := wsAll_of 634 (by decide +kernel) rfl
theorem T_L_foresee : Cond.static yL_foresee ∈ wsAll := wsAll_of 637 (by decide +kernel) rfl
theorem V_X2_foresee : Cond.instanceMethod yX2_foresee ∈ wsAll := wsAll_of 640 (by decide +kernel) rfl
theorem S_X2_foresee : Cond.selects (mdY mX2_foresee).cls (mdY mX2_foresee) (mdY mX2_foresee) ∈ wsAll := wsAll_of 641 (by decide +kernel) rfl
theorem V_X4_init : Cond.instanceMethod yX4_init ∈ wsAll := wsAll_of 646 (by decide +kernel) rfl
theorem V_X3_init : Cond.instanceMethod yX3_init ∈ wsAll := wsAll_of 652 (by decide +kernel) rfl
theorem V_X4_thrown : Cond.instanceMethod yX4_thrown ∈ wsAll := wsAll_of 760 (by decide +kernel) rfl
theorem S_X4_thrown : Cond.selects (mdY mX4_thrown).cls (mdY mX4_thrown) (mdY mX4_thrown) ∈ wsAll := wsAll_of 761 (by decide +kernel) rfl
theorem V_X4_mould : Cond.instanceMethod yX4_mould ∈ wsAll := wsAll_of 764 (by decide +kernel) rfl
theorem S_X4_mould : Cond.selects (mdY mX4_mould).cls (mdY mX4_mould) (mdY mX4_mould) ∈ wsAll := wsAll_of 765 (by decide +kernel) rfl
theorem T_X4_isLength : Cond.static yX4_isLength ∈ wsAll := wsAll_of 768 (by decide +kernel) rfl
theorem T_X4_isIn : Cond.static yX4_isIn ∈ wsAll := wsAll_of 771 (by decide +kernel) rfl
theorem V_X4_no : Cond.instanceMethod yX4_no ∈ wsAll := wsAll_of 775 (by decide +kernel) rfl
theorem V_X4_refit : Cond.instanceMethod yX4_refit ∈ wsAll := wsAll_of 778 (by decide +kernel) rfl
theorem S_X4_refit : Cond.selects (mdY mX4_refit).cls (mdY mX4_refit) (mdY mX4_refit) ∈ wsAll := wsAll_of 779 (by decide +kernel) rfl
theorem V_X4_isMould : Cond.instanceMethod yX4_isMould ∈ wsAll := wsAll_of 783 (by decide +kernel) rfl
theorem V_X4_maker : Cond.instanceMethod yX4_maker ∈ wsAll := wsAll_of 786 (by decide +kernel) rfl
theorem S_X4_maker : Cond.selects (mdY mX4_maker).cls (mdY mX4_maker) (mdY mX4_maker) ∈ wsAll := wsAll_of 787 (by decide +kernel) rfl
theorem V_X4_place : Cond.instanceMethod yX4_place ∈ wsAll := wsAll_of 790 (by decide +kernel) rfl
theorem S_X4_place : Cond.selects (mdY mX4_place).cls (mdY mX4_place) (mdY mX4_place) ∈ wsAll := wsAll_of 791 (by decide +kernel) rfl
theorem V_X4_isMaker : Cond.instanceMethod yX4_isMaker ∈ wsAll := wsAll_of 795 (by decide +kernel) rfl
theorem V_X4_makerAt : Cond.instanceMethod yX4_makerAt ∈ wsAll := wsAll_of 799 (by decide +kernel) rfl
theorem V_X4_buy : Cond.instanceMethod yX4_buy ∈ wsAll := wsAll_of 802 (by decide +kernel) rfl
theorem S_X4_buy : Cond.selects (mdY mX4_buy).cls (mdY mX4_buy) (mdY mX4_buy) ∈ wsAll := wsAll_of 803 (by decide +kernel) rfl
theorem V_X4_setDry : Cond.instanceMethod yX4_setDry ∈ wsAll := wsAll_of 806 (by decide +kernel) rfl
theorem S_X4_setDry : Cond.selects (mdY mX4_setDry).cls (mdY mX4_setDry) (mdY mX4_setDry) ∈ wsAll := wsAll_of 807 (by decide +kernel) rfl
theorem V_X4_pack : Cond.instanceMethod yX4_pack ∈ wsAll := wsAll_of 810 (by decide +kernel) rfl
theorem S_X4_pack : Cond.selects (mdY mX4_pack).cls (mdY mX4_pack) (mdY mX4_pack) ∈ wsAll := wsAll_of 811 (by decide +kernel) rfl
theorem V_X4_isBatch : Cond.instanceMethod yX4_isBatch ∈ wsAll := wsAll_of 815 (by decide +kernel) rfl
theorem T_X4_isSaggar : Cond.static yX4_isSaggar ∈ wsAll := wsAll_of 818 (by decide +kernel) rfl
theorem V_X3_saggar : Cond.instanceMethod yX3_saggar ∈ wsAll := wsAll_of 821 (by decide +kernel) rfl
theorem S_X3_saggar : Cond.selects (mdY mX3_saggar).cls (mdY mX3_saggar) (mdY mX3_saggar) ∈ wsAll := wsAll_of 822 (by decide +kernel) rfl
theorem V_X3_put : Cond.instanceMethod yX3_put ∈ wsAll := wsAll_of 826 (by decide +kernel) rfl
theorem V_X3_takeBatch : Cond.instanceMethod yX3_takeBatch ∈ wsAll := wsAll_of 829 (by decide +kernel) rfl
theorem S_X3_takeBatch : Cond.selects (mdY mX3_takeBatch).cls (mdY mX3_takeBatch) (mdY mX3_takeBatch) ∈ wsAll := wsAll_of 830 (by decide +kernel) rfl
theorem V_X4_fire : Cond.instanceMethod yX4_fire ∈ wsAll := wsAll_of 834 (by decide +kernel) rfl
theorem S_X4_fire : Cond.selects (mdY mX4_fire).cls (mdY mX4_fire) (mdY mX4_fire) ∈ wsAll := wsAll_of 835 (by decide +kernel) rfl
theorem V_X3_inSaggars : Cond.instanceMethod yX3_inSaggars ∈ wsAll := wsAll_of 838 (by decide +kernel) rfl
theorem S_X3_inSaggars : Cond.selects (mdY mX3_inSaggars).cls (mdY mX3_inSaggars) (mdY mX3_inSaggars) ∈ wsAll := wsAll_of 839 (by decide +kernel) rfl
theorem V_X3_pipes : Cond.instanceMethod yX3_pipes ∈ wsAll := wsAll_of 843 (by decide +kernel) rfl
theorem V_X3_breaks : Cond.instanceMethod yX3_breaks ∈ wsAll := wsAll_of 846 (by decide +kernel) rfl
theorem S_X3_breaks : Cond.selects (mdY mX3_breaks).cls (mdY mX3_breaks) (mdY mX3_breaks) ∈ wsAll := wsAll_of 847 (by decide +kernel) rfl
theorem V_X4_order : Cond.instanceMethod yX4_order ∈ wsAll := wsAll_of 853 (by decide +kernel) rfl
theorem S_X4_order : Cond.selects (mdY mX4_order).cls (mdY mX4_order) (mdY mX4_order) ∈ wsAll := wsAll_of 854 (by decide +kernel) rfl
theorem V_X4_about : Cond.instanceMethod yX4_about ∈ wsAll := wsAll_of 858 (by decide +kernel) rfl
theorem S_X4_about : Cond.selects (mdY mX4_about).cls (mdY mX4_about) (mdY mX4_about) ∈ wsAll := wsAll_of 859 (by decide +kernel) rfl
theorem V_X4_mouldTold : Cond.instanceMethod yX4_mouldTold ∈ wsAll := wsAll_of 863 (by decide +kernel) rfl
theorem V_X3_flaw : Cond.instanceMethod yX3_flaw ∈ wsAll := wsAll_of 866 (by decide +kernel) rfl
theorem S_X3_flaw : Cond.selects (mdY mX3_flaw).cls (mdY mX3_flaw) (mdY mX3_flaw) ∈ wsAll := wsAll_of 867 (by decide +kernel) rfl
theorem V_X4_clayOf : Cond.instanceMethod yX4_clayOf ∈ wsAll := wsAll_of 871 (by decide +kernel) rfl
theorem V_X4_told : Cond.instanceMethod yX4_told ∈ wsAll := wsAll_of 874 (by decide +kernel) rfl
theorem S_X4_told : Cond.selects (mdY mX4_told).cls (mdY mX4_told) (mdY mX4_told) ∈ wsAll := wsAll_of 875 (by decide +kernel) rfl
theorem V_X4_makerTold : Cond.instanceMethod yX4_makerTold ∈ wsAll := wsAll_of 879 (by decide +kernel) rfl
theorem V_X4_batch : Cond.instanceMethod yX4_batch ∈ wsAll := wsAll_of 882 (by decide +kernel) rfl
theorem S_X4_batch : Cond.selects (mdY mX4_batch).cls (mdY mX4_batch) (mdY mX4_batch) ∈ wsAll := wsAll_of 883 (by decide +kernel) rfl
theorem V_X4_saggar : Cond.instanceMethod yX4_saggar ∈ wsAll := wsAll_of 886 (by decide +kernel) rfl
theorem S_X4_saggar : Cond.selects (mdY mX4_saggar).cls (mdY mX4_saggar) (mdY mX4_saggar) ∈ wsAll := wsAll_of 887 (by decide +kernel) rfl
theorem V_X4_store : Cond.instanceMethod yX4_store ∈ wsAll := wsAll_of 890 (by decide +kernel) rfl
theorem S_X4_store : Cond.selects (mdY mX4_store).cls (mdY mX4_store) (mdY mX4_store) ∈ wsAll := wsAll_of 891 (by decide +kernel) rfl
theorem V_X4_waits : Cond.instanceMethod yX4_waits ∈ wsAll := wsAll_of 894 (by decide +kernel) rfl
theorem S_X4_waits : Cond.selects (mdY mX4_waits).cls (mdY mX4_waits) (mdY mX4_waits) ∈ wsAll := wsAll_of 895 (by decide +kernel) rfl
theorem V_X4_isWaiting : Cond.instanceMethod yX4_isWaiting ∈ wsAll := wsAll_of 899 (by decide +kernel) rfl
theorem V_X4_count : Cond.instanceMethod yX4_count ∈ wsAll := wsAll_of 902 (by decide +kernel) rfl
theorem S_X4_count : Cond.selects (mdY mX4_count).cls (mdY mX4_count) (mdY mX4_count) ∈ wsAll := wsAll_of 903 (by decide +kernel) rfl
theorem V_X3_counted : Cond.instanceMethod yX3_counted ∈ wsAll := wsAll_of 906 (by decide +kernel) rfl
theorem S_X3_counted : Cond.selects (mdY mX3_counted).cls (mdY mX3_counted) (mdY mX3_counted) ∈ wsAll := wsAll_of 907 (by decide +kernel) rfl
theorem V_X3_stored : Cond.instanceMethod yX3_stored ∈ wsAll := wsAll_of 912 (by decide +kernel) rfl
theorem V_X4_pass : Cond.instanceMethod yX4_pass ∈ wsAll := wsAll_of 915 (by decide +kernel) rfl
theorem S_X4_pass : Cond.selects (mdY mX4_pass).cls (mdY mX4_pass) (mdY mX4_pass) ∈ wsAll := wsAll_of 916 (by decide +kernel) rfl
theorem V_X3_pass_ : Cond.instanceMethod yX3_pass_ ∈ wsAll := wsAll_of 919 (by decide +kernel) rfl
theorem S_X3_pass_ : Cond.selects (mdY mX3_pass_).cls (mdY mX3_pass_) (mdY mX3_pass_) ∈ wsAll := wsAll_of 920 (by decide +kernel) rfl
theorem V_X3_pass : Cond.instanceMethod yX3_pass ∈ wsAll := wsAll_of 923 (by decide +kernel) rfl
theorem S_X3_pass : Cond.selects (mdY mX3_pass).cls (mdY mX3_pass) (mdY mX3_pass) ∈ wsAll := wsAll_of 924 (by decide +kernel) rfl
theorem V_X3_make : Cond.instanceMethod yX3_make ∈ wsAll := wsAll_of 928 (by decide +kernel) rfl
theorem V_X3_serve : Cond.instanceMethod yX3_serve ∈ wsAll := wsAll_of 935 (by decide +kernel) rfl
theorem V_X4_breaks : Cond.instanceMethod yX4_breaks ∈ wsAll := wsAll_of 938 (by decide +kernel) rfl
theorem S_X4_breaks : Cond.selects (mdY mX4_breaks).cls (mdY mX4_breaks) (mdY mX4_breaks) ∈ wsAll := wsAll_of 939 (by decide +kernel) rfl
theorem V_X4_advise : Cond.instanceMethod yX4_advise ∈ wsAll := wsAll_of 942 (by decide +kernel) rfl
theorem S_X4_advise : Cond.selects (mdY mX4_advise).cls (mdY mX4_advise) (mdY mX4_advise) ∈ wsAll := wsAll_of 943 (by decide +kernel) rfl
theorem V_X4_ready : Cond.instanceMethod yX4_ready ∈ wsAll := wsAll_of 947 (by decide +kernel) rfl
theorem S_X4_ready : Cond.selects (mdY mX4_ready).cls (mdY mX4_ready) (mdY mX4_ready) ∈ wsAll := wsAll_of 948 (by decide +kernel) rfl
theorem V_X3_become : Cond.instanceMethod yX3_become ∈ wsAll := wsAll_of 951 (by decide +kernel) rfl
theorem S_X3_become : Cond.selects (mdY mX3_become).cls (mdY mX3_become) (mdY mX3_become) ∈ wsAll := wsAll_of 952 (by decide +kernel) rfl
theorem V_X4_foresee : Cond.instanceMethod yX4_foresee ∈ wsAll := wsAll_of 957 (by decide +kernel) rfl
theorem S_X4_foresee : Cond.selects (mdY mX4_foresee).cls (mdY mX4_foresee) (mdY mX4_foresee) ∈ wsAll := wsAll_of 958 (by decide +kernel) rfl
theorem V_X4_mean : Cond.instanceMethod yX4_mean ∈ wsAll := wsAll_of 961 (by decide +kernel) rfl
theorem S_X4_mean : Cond.selects (mdY mX4_mean).cls (mdY mX4_mean) (mdY mX4_mean) ∈ wsAll := wsAll_of 962 (by decide +kernel) rfl
theorem V_X4_digest : Cond.instanceMethod yX4_digest ∈ wsAll := wsAll_of 965 (by decide +kernel) rfl
theorem S_X4_digest : Cond.selects (mdY mX4_digest).cls (mdY mX4_digest) (mdY mX4_digest) ∈ wsAll := wsAll_of 966 (by decide +kernel) rfl
theorem S_X1_stemsThatBreakInAll : Cond.selects (mdY mX1_stemsThatBreakInAll).cls (mdY mX1_stemsThatBreakInAll) (mdY mX1_stemsThatBreakInAll) ∈ wsAll := wsAll_of 0 (by decide +kernel) rfl
theorem S_X1_wholeInAll : Cond.selects (mdY mX1_wholeInAll).cls (mdY mX1_wholeInAll) (mdY mX1_wholeInAll) ∈ wsAll := wsAll_of 1 (by decide +kernel) rfl
theorem S_X1_withMoulds : Cond.selects (mdY mX1_withMoulds).cls (mdY mX1_withMoulds) (mdY mX1_withMoulds) ∈ wsAll := wsAll_of 2 (by decide +kernel) rfl
theorem S_X1_flawOf : Cond.selects (mdY mX1_flawOf).cls (mdY mX1_flawOf) (mdY mX1_flawOf) ∈ wsAll := wsAll_of 3 (by decide +kernel) rfl
theorem S_X1_clayOf : Cond.selects (mdY mX1_clayOf).cls (mdY mX1_clayOf) (mdY mX1_clayOf) ∈ wsAll := wsAll_of 4 (by decide +kernel) rfl
theorem S_X1_makerAt : Cond.selects (mdY mX1_makerAt).cls (mdY mX1_makerAt) (mdY mX1_makerAt) ∈ wsAll := wsAll_of 5 (by decide +kernel) rfl
theorem S_X1_unloadFired : Cond.selects (mdY mX1_unloadFired).cls (mdY mX1_unloadFired) (mdY mX1_unloadFired) ∈ wsAll := wsAll_of 7 (by decide +kernel) rfl
theorem S_X1_addWhole : Cond.selects (mdY mX1_addWhole).cls (mdY mX1_addWhole) (mdY mX1_addWhole) ∈ wsAll := wsAll_of 8 (by decide +kernel) rfl
theorem S_X1_passDay : Cond.selects (mdY mX1_passDay).cls (mdY mX1_passDay) (mdY mX1_passDay) ∈ wsAll := wsAll_of 9 (by decide +kernel) rfl
theorem S_X1_letWork : Cond.selects (mdY mX1_letWork).cls (mdY mX1_letWork) (mdY mX1_letWork) ∈ wsAll := wsAll_of 10 (by decide +kernel) rfl
theorem S_X1_layOnBoards : Cond.selects (mdY mX1_layOnBoards).cls (mdY mX1_layOnBoards) (mdY mX1_layOnBoards) ∈ wsAll := wsAll_of 11 (by decide +kernel) rfl
theorem S_X1_wearMould : Cond.selects (mdY mX1_wearMould).cls (mdY mX1_wearMould) (mdY mX1_wearMould) ∈ wsAll := wsAll_of 12 (by decide +kernel) rfl
theorem S_X1_lookAtOrders : Cond.selects (mdY mX1_lookAtOrders).cls (mdY mX1_lookAtOrders) (mdY mX1_lookAtOrders) ∈ wsAll := wsAll_of 13 (by decide +kernel) rfl
theorem S_X1_lookAtOrder : Cond.selects (mdY mX1_lookAtOrder).cls (mdY mX1_lookAtOrder) (mdY mX1_lookAtOrder) ∈ wsAll := wsAll_of 14 (by decide +kernel) rfl
theorem S_X1_dismiss : Cond.selects (mdY mX1_dismiss).cls (mdY mX1_dismiss) (mdY mX1_dismiss) ∈ wsAll := wsAll_of 15 (by decide +kernel) rfl
theorem S_X4_no : Cond.selects (mdY mX4_no).cls (mdY mX4_no) (mdY mX4_no) ∈ wsAll := wsAll_of 16 (by decide +kernel) rfl
theorem S_X4_isMould : Cond.selects (mdY mX4_isMould).cls (mdY mX4_isMould) (mdY mX4_isMould) ∈ wsAll := wsAll_of 17 (by decide +kernel) rfl
theorem S_X4_isMaker : Cond.selects (mdY mX4_isMaker).cls (mdY mX4_isMaker) (mdY mX4_isMaker) ∈ wsAll := wsAll_of 18 (by decide +kernel) rfl
theorem S_X4_makerAt : Cond.selects (mdY mX4_makerAt).cls (mdY mX4_makerAt) (mdY mX4_makerAt) ∈ wsAll := wsAll_of 19 (by decide +kernel) rfl
theorem S_X4_isBatch : Cond.selects (mdY mX4_isBatch).cls (mdY mX4_isBatch) (mdY mX4_isBatch) ∈ wsAll := wsAll_of 20 (by decide +kernel) rfl
theorem S_X3_put : Cond.selects (mdY mX3_put).cls (mdY mX3_put) (mdY mX3_put) ∈ wsAll := wsAll_of 21 (by decide +kernel) rfl
theorem S_X3_pipes : Cond.selects (mdY mX3_pipes).cls (mdY mX3_pipes) (mdY mX3_pipes) ∈ wsAll := wsAll_of 22 (by decide +kernel) rfl
theorem S_X4_mouldTold : Cond.selects (mdY mX4_mouldTold).cls (mdY mX4_mouldTold) (mdY mX4_mouldTold) ∈ wsAll := wsAll_of 23 (by decide +kernel) rfl
theorem S_X4_clayOf : Cond.selects (mdY mX4_clayOf).cls (mdY mX4_clayOf) (mdY mX4_clayOf) ∈ wsAll := wsAll_of 24 (by decide +kernel) rfl
theorem S_X4_makerTold : Cond.selects (mdY mX4_makerTold).cls (mdY mX4_makerTold) (mdY mX4_makerTold) ∈ wsAll := wsAll_of 25 (by decide +kernel) rfl
theorem S_X4_isWaiting : Cond.selects (mdY mX4_isWaiting).cls (mdY mX4_isWaiting) (mdY mX4_isWaiting) ∈ wsAll := wsAll_of 26 (by decide +kernel) rfl
theorem S_X3_stored : Cond.selects (mdY mX3_stored).cls (mdY mX3_stored) (mdY mX3_stored) ∈ wsAll := wsAll_of 27 (by decide +kernel) rfl
theorem S_X3_make : Cond.selects (mdY mX3_make).cls (mdY mX3_make) (mdY mX3_make) ∈ wsAll := wsAll_of 28 (by decide +kernel) rfl
theorem S_X3_serve : Cond.selects (mdY mX3_serve).cls (mdY mX3_serve) (mdY mX3_serve) ∈ wsAll := wsAll_of 29 (by decide +kernel) rfl
theorem NL_8 : NewOk RL 8 2 [.null, .null] := ⟨_, rfl, (wsAll_of 44 (by decide +kernel) rfl), (wsAll_of 45 (by decide +kernel) rfl), (wsAll_of 31 (by decide +kernel) rfl), rfl, by decide +kernel, by decide +kernel⟩
theorem LL_79 : Cond.methodLink RL 79 yX2_init ∈ wsAll := wsAll_of 46 (by decide +kernel) rfl
theorem LX2_1 : Cond.methodLink RX2 1 Lib.objectInit ∈ wsAll := wsAll_of 49 (by decide +kernel) rfl
theorem NX2_7 : NewOk RX2 7 1 [.null, .null, .null, .null, .null, .null, .null, .int 0, .int 0, .int 0, .int 0, .int 0, .int 0, .int 0, .int 0, .int 0, .int 0] := ⟨_, rfl, (wsAll_of 52 (by decide +kernel) rfl), (wsAll_of 53 (by decide +kernel) rfl), (wsAll_of 32 (by decide +kernel) rfl), rfl, by decide +kernel, by decide +kernel⟩
theorem LX2_9 : Cond.methodLink RX2 9 yX1_init ∈ wsAll := wsAll_of 54 (by decide +kernel) rfl
theorem LX1_3 : Cond.methodLink RX1 3 Lib.objectInit ∈ wsAll := wsAll_of 57 (by decide +kernel) rfl
theorem NX1_9 : NewOk RX1 9 0 [.null, .int 0, .int 0] := ⟨_, rfl, (wsAll_of 58 (by decide +kernel) rfl), (wsAll_of 59 (by decide +kernel) rfl), (wsAll_of 33 (by decide +kernel) rfl), rfl, by decide +kernel, by decide +kernel⟩
theorem LX1_11 : Cond.methodLink RX1 11 yX0_init ∈ wsAll := wsAll_of 60 (by decide +kernel) rfl
theorem LX0_3 : Cond.methodLink RX0 3 Lib.objectInit ∈ wsAll := wsAll_of 63 (by decide +kernel) rfl
theorem FX0_9 : FG RX0 9 0 0 := ⟨_, rfl, by decide, Or.inl (wsAll_of 64 (by decide +kernel) rfl)⟩
theorem UX0_9 : FPu RX0 9 0 0 true (.array .int) := ⟨_, rfl, by decide, Or.inl (wsAll_of 64 (by decide +kernel) rfl), rfl, fun _ => rfl, by decide +kernel⟩
theorem FX0_15 : FG RX0 15 0 1 := ⟨_, rfl, by decide, Or.inl (wsAll_of 65 (by decide +kernel) rfl)⟩
theorem UX0_15 : FPu RX0 15 0 1 true .int := ⟨_, rfl, by decide, Or.inl (wsAll_of 65 (by decide +kernel) rfl), rfl, fun _ => rfl, by decide +kernel⟩
theorem FX0_19 : FG RX0 19 0 2 := ⟨_, rfl, by decide, Or.inl (wsAll_of 66 (by decide +kernel) rfl)⟩
theorem UX0_19 : FPu RX0 19 0 2 false .int := ⟨_, rfl, by decide, Or.inl (wsAll_of 66 (by decide +kernel) rfl), rfl, fun q => (by cases q), by decide +kernel⟩
theorem FX1_14 : FG RX1 14 1 0 := ⟨_, rfl, by decide, Or.inl (wsAll_of 75 (by decide +kernel) rfl)⟩
theorem UX1_14 : FPu RX1 14 1 0 true (.object "PipeMoulds$Table") := ⟨_, rfl, by decide, Or.inl (wsAll_of 75 (by decide +kernel) rfl), rfl, fun _ => rfl, by decide +kernel⟩
theorem FX2_31 : FG RX2 31 1 0 := ⟨_, rfl, by decide, Or.inr ⟨"PipeMoulds", List.mem_filter.mpr ⟨List.mem_of_getElem? (i := 76) (by decide +kernel), rfl⟩⟩⟩
theorem FX1_20 : FG RX1 20 1 1 := ⟨_, rfl, by decide, Or.inl (wsAll_of 77 (by decide +kernel) rfl)⟩
theorem UX1_20 : FPu RX1 20 1 1 true (.object "PipeMoulds$Table") := ⟨_, rfl, by decide, Or.inl (wsAll_of 77 (by decide +kernel) rfl), rfl, fun _ => rfl, by decide +kernel⟩
theorem FX2_69 : FG RX2 69 1 1 := ⟨_, rfl, by decide, Or.inr ⟨"PipeMoulds", List.mem_filter.mpr ⟨List.mem_of_getElem? (i := 78) (by decide +kernel), rfl⟩⟩⟩
theorem FX1_23 : FG RX1 23 1 2 := ⟨_, rfl, by decide, Or.inl (wsAll_of 79 (by decide +kernel) rfl)⟩
theorem UX1_23 : FPu RX1 23 1 2 true (.object "PipeMoulds$Table") := ⟨_, rfl, by decide, Or.inl (wsAll_of 79 (by decide +kernel) rfl), rfl, fun _ => rfl, by decide +kernel⟩
theorem FX2_93 : FG RX2 93 1 2 := ⟨_, rfl, by decide, Or.inr ⟨"PipeMoulds", List.mem_filter.mpr ⟨List.mem_of_getElem? (i := 80) (by decide +kernel), rfl⟩⟩⟩
theorem FX1_26 : FG RX1 26 1 3 := ⟨_, rfl, by decide, Or.inl (wsAll_of 81 (by decide +kernel) rfl)⟩
theorem UX1_26 : FPu RX1 26 1 3 true (.object "PipeMoulds$Table") := ⟨_, rfl, by decide, Or.inl (wsAll_of 81 (by decide +kernel) rfl), rfl, fun _ => rfl, by decide +kernel⟩
theorem FX2_96 : FG RX2 96 1 3 := ⟨_, rfl, by decide, Or.inr ⟨"PipeMoulds", List.mem_filter.mpr ⟨List.mem_of_getElem? (i := 82) (by decide +kernel), rfl⟩⟩⟩
theorem FX1_29 : FG RX1 29 1 4 := ⟨_, rfl, by decide, Or.inl (wsAll_of 83 (by decide +kernel) rfl)⟩
theorem UX1_29 : FPu RX1 29 1 4 true (.object "PipeMoulds$Table") := ⟨_, rfl, by decide, Or.inl (wsAll_of 83 (by decide +kernel) rfl), rfl, fun _ => rfl, by decide +kernel⟩
theorem FX2_112 : FG RX2 112 1 4 := ⟨_, rfl, by decide, Or.inr ⟨"PipeMoulds", List.mem_filter.mpr ⟨List.mem_of_getElem? (i := 84) (by decide +kernel), rfl⟩⟩⟩
theorem FX1_32 : FG RX1 32 1 5 := ⟨_, rfl, by decide, Or.inl (wsAll_of 85 (by decide +kernel) rfl)⟩
theorem UX1_32 : FPu RX1 32 1 5 true (.array .int) := ⟨_, rfl, by decide, Or.inl (wsAll_of 85 (by decide +kernel) rfl), rfl, fun _ => rfl, by decide +kernel⟩
theorem FX1_36 : FG RX1 36 1 6 := ⟨_, rfl, by decide, Or.inl (wsAll_of 86 (by decide +kernel) rfl)⟩
theorem UX1_36 : FPu RX1 36 1 6 true (.array .int) := ⟨_, rfl, by decide, Or.inl (wsAll_of 86 (by decide +kernel) rfl), rfl, fun _ => rfl, by decide +kernel⟩
theorem FX1_62 : FG RX1 62 1 7 := ⟨_, rfl, by decide, Or.inl (wsAll_of 87 (by decide +kernel) rfl)⟩
theorem UX1_62 : FPu RX1 62 1 7 false .int := ⟨_, rfl, by decide, Or.inl (wsAll_of 87 (by decide +kernel) rfl), rfl, fun q => (by cases q), by decide +kernel⟩
theorem FX1_39 : FG RX1 39 1 8 := ⟨_, rfl, by decide, Or.inl (wsAll_of 88 (by decide +kernel) rfl)⟩
theorem UX1_39 : FPu RX1 39 1 8 false .int := ⟨_, rfl, by decide, Or.inl (wsAll_of 88 (by decide +kernel) rfl), rfl, fun q => (by cases q), by decide +kernel⟩
theorem FX1_43 : FG RX1 43 1 9 := ⟨_, rfl, by decide, Or.inl (wsAll_of 89 (by decide +kernel) rfl)⟩
theorem UX1_43 : FPu RX1 43 1 9 false .int := ⟨_, rfl, by decide, Or.inl (wsAll_of 89 (by decide +kernel) rfl), rfl, fun q => (by cases q), by decide +kernel⟩
theorem FX2_103 : FG RX2 103 1 9 := ⟨_, rfl, by decide, Or.inr ⟨"PipeMoulds", List.mem_filter.mpr ⟨List.mem_of_getElem? (i := 90) (by decide +kernel), rfl⟩⟩⟩
theorem UX2_103 : FPu RX2 103 1 9 false .int := ⟨_, rfl, by decide, Or.inr ⟨rfl, "PipeMoulds", List.mem_filter.mpr ⟨List.mem_of_getElem? (i := 90) (by decide +kernel), rfl⟩⟩, rfl, fun q => (by cases q), by decide +kernel⟩
theorem FX1_46 : FG RX1 46 1 10 := ⟨_, rfl, by decide, Or.inl (wsAll_of 91 (by decide +kernel) rfl)⟩
theorem UX1_46 : FPu RX1 46 1 10 false .int := ⟨_, rfl, by decide, Or.inl (wsAll_of 91 (by decide +kernel) rfl), rfl, fun q => (by cases q), by decide +kernel⟩
theorem FX2_57 : FG RX2 57 1 10 := ⟨_, rfl, by decide, Or.inr ⟨"PipeMoulds", List.mem_filter.mpr ⟨List.mem_of_getElem? (i := 92) (by decide +kernel), rfl⟩⟩⟩
theorem UX2_57 : FPu RX2 57 1 10 false .int := ⟨_, rfl, by decide, Or.inr ⟨rfl, "PipeMoulds", List.mem_filter.mpr ⟨List.mem_of_getElem? (i := 92) (by decide +kernel), rfl⟩⟩, rfl, fun q => (by cases q), by decide +kernel⟩
theorem FX1_65 : FG RX1 65 1 11 := ⟨_, rfl, by decide, Or.inl (wsAll_of 93 (by decide +kernel) rfl)⟩
theorem UX1_65 : FPu RX1 65 1 11 false .int := ⟨_, rfl, by decide, Or.inl (wsAll_of 93 (by decide +kernel) rfl), rfl, fun q => (by cases q), by decide +kernel⟩
theorem FX2_132 : FG RX2 132 1 11 := ⟨_, rfl, by decide, Or.inr ⟨"PipeMoulds", List.mem_filter.mpr ⟨List.mem_of_getElem? (i := 94) (by decide +kernel), rfl⟩⟩⟩
theorem UX2_132 : FPu RX2 132 1 11 false .int := ⟨_, rfl, by decide, Or.inr ⟨rfl, "PipeMoulds", List.mem_filter.mpr ⟨List.mem_of_getElem? (i := 94) (by decide +kernel), rfl⟩⟩, rfl, fun q => (by cases q), by decide +kernel⟩
theorem FX1_68 : FG RX1 68 1 12 := ⟨_, rfl, by decide, Or.inl (wsAll_of 95 (by decide +kernel) rfl)⟩
theorem UX1_68 : FPu RX1 68 1 12 false .int := ⟨_, rfl, by decide, Or.inl (wsAll_of 95 (by decide +kernel) rfl), rfl, fun q => (by cases q), by decide +kernel⟩
theorem FX1_71 : FG RX1 71 1 13 := ⟨_, rfl, by decide, Or.inl (wsAll_of 96 (by decide +kernel) rfl)⟩
theorem UX1_71 : FPu RX1 71 1 13 false .int := ⟨_, rfl, by decide, Or.inl (wsAll_of 96 (by decide +kernel) rfl), rfl, fun q => (by cases q), by decide +kernel⟩
theorem FX1_74 : FG RX1 74 1 14 := ⟨_, rfl, by decide, Or.inl (wsAll_of 97 (by decide +kernel) rfl)⟩
theorem UX1_74 : FPu RX1 74 1 14 false .int := ⟨_, rfl, by decide, Or.inl (wsAll_of 97 (by decide +kernel) rfl), rfl, fun q => (by cases q), by decide +kernel⟩
theorem FX1_49 : FG RX1 49 1 15 := ⟨_, rfl, by decide, Or.inl (wsAll_of 98 (by decide +kernel) rfl)⟩
theorem UX1_49 : FPu RX1 49 1 15 false .int := ⟨_, rfl, by decide, Or.inl (wsAll_of 98 (by decide +kernel) rfl), rfl, fun q => (by cases q), by decide +kernel⟩
theorem FX1_77 : FG RX1 77 1 16 := ⟨_, rfl, by decide, Or.inl (wsAll_of 99 (by decide +kernel) rfl)⟩
theorem UX1_77 : FPu RX1 77 1 16 false .boolean := ⟨_, rfl, by decide, Or.inl (wsAll_of 99 (by decide +kernel) rfl), rfl, fun q => (by cases q), by decide +kernel⟩
theorem FX2_10 : FG RX2 10 2 0 := ⟨_, rfl, by decide, Or.inl (wsAll_of 135 (by decide +kernel) rfl)⟩
theorem UX2_10 : FPu RX2 10 2 0 true (.object "PipeMoulds$Works") := ⟨_, rfl, by decide, Or.inl (wsAll_of 135 (by decide +kernel) rfl), rfl, fun _ => rfl, by decide +kernel⟩
theorem FX2_16 : FG RX2 16 2 1 := ⟨_, rfl, by decide, Or.inl (wsAll_of 136 (by decide +kernel) rfl)⟩
theorem UX2_16 : FPu RX2 16 2 1 true (.object "PipeMoulds$Works") := ⟨_, rfl, by decide, Or.inl (wsAll_of 136 (by decide +kernel) rfl), rfl, fun _ => rfl, by decide +kernel⟩
theorem LL_147 : Cond.methodLink RL 147 yX2_advise ∈ wsAll := wsAll_of 142 (by decide +kernel) rfl
theorem LX2_106 : Cond.methodLink RX2 106 yX1_areSaggarsEmpty ∈ wsAll := wsAll_of 146 (by decide +kernel) rfl
theorem LX1_109 : Cond.methodLink RX1 109 yX0_sum ∈ wsAll := wsAll_of 150 (by decide +kernel) rfl
theorem LX0_38 : Cond.methodLink RX0 38 yX0_at ∈ wsAll := wsAll_of 154 (by decide +kernel) rfl
theorem LX2_141 : Cond.methodLink RX2 141 yX1_bestCoals ∈ wsAll := wsAll_of 158 (by decide +kernel) rfl
theorem LX1_130 : Cond.methodLink RX1 130 yX1_stemsThatBreakInAll ∈ wsAll := wsAll_of 162 (by decide +kernel) rfl
theorem LX1_127 : Cond.methodLink RX1 127 yX1_stemsThatBreak ∈ wsAll := wsAll_of 166 (by decide +kernel) rfl
theorem LX1_96 : Cond.methodLink RX1 96 yX0_at ∈ wsAll := wsAll_of 170 (by decide +kernel) rfl
theorem LX1_119 : Cond.methodLink RX1 119 Lib.Math.abs.name ∈ wsAll := wsAll_of 171 (by decide +kernel) rfl
theorem LX1_124 : Cond.methodLink RX1 124 Lib.Math.min.name ∈ wsAll := wsAll_of 174 (by decide +kernel) rfl
theorem LL_157 : Cond.methodLink RL 157 yX2_mean ∈ wsAll := wsAll_of 177 (by decide +kernel) rfl
theorem LX2_152 : Cond.methodLink RX2 152 yX1_meanFlaw ∈ wsAll := wsAll_of 181 (by decide +kernel) rfl
theorem LX1_89 : Cond.methodLink RX1 89 yX0_size ∈ wsAll := wsAll_of 185 (by decide +kernel) rfl
theorem LL_162 : Cond.methodLink RL 162 yX2_digest ∈ wsAll := wsAll_of 189 (by decide +kernel) rfl
theorem LX2_156 : Cond.methodLink RX2 156 yX1_checksum ∈ wsAll := wsAll_of 193 (by decide +kernel) rfl
theorem CX1_183 : Cond.constantLong RX1 183 1423 ∈ wsAll := wsAll_of 197 (by decide +kernel) rfl
theorem CX1_185 : Cond.constantLong RX1 185 31 ∈ wsAll := wsAll_of 198 (by decide +kernel) rfl
theorem LX1_187 : Cond.methodLink RX1 187 yX1_counted ∈ wsAll := wsAll_of 199 (by decide +kernel) rfl
theorem LX1_112 : Cond.methodLink RX1 112 yX1_wholeInAll ∈ wsAll := wsAll_of 203 (by decide +kernel) rfl
theorem LX1_92 : Cond.methodLink RX1 92 yX1_wholeOf ∈ wsAll := wsAll_of 207 (by decide +kernel) rfl
theorem LX1_149 : Cond.methodLink RX1 149 yX1_driesBy ∈ wsAll := wsAll_of 211 (by decide +kernel) rfl
theorem LX1_190 : Cond.methodLink RX1 190 yX1_withMoulds ∈ wsAll := wsAll_of 215 (by decide +kernel) rfl
theorem LX1_198 : Cond.methodLink RX1 198 yX1_aboutMould ∈ wsAll := wsAll_of 219 (by decide +kernel) rfl
theorem LX1_103 : Cond.methodLink RX1 103 yX1_flawOf ∈ wsAll := wsAll_of 223 (by decide +kernel) rfl
theorem LX1_106 : Cond.methodLink RX1 106 yX1_clayOf ∈ wsAll := wsAll_of 227 (by decide +kernel) rfl
theorem LX1_100 : Cond.methodLink RX1 100 yX1_makerAt ∈ wsAll := wsAll_of 231 (by decide +kernel) rfl
theorem LX1_194 : Cond.methodLink RX1 194 yX1_withTable ∈ wsAll := wsAll_of 235 (by decide +kernel) rfl
theorem LX1_201 : Cond.methodLink RX1 201 yX0_width ∈ wsAll := wsAll_of 238 (by decide +kernel) rfl
theorem LL_83 : Cond.methodLink RL 83 yL_mould ∈ wsAll := wsAll_of 242 (by decide +kernel) rfl
theorem QL_13 : Cond.classLink RL 13 "java/lang/IllegalArgumentException" ∈ wsAll := wsAll_of 245 (by decide +kernel) rfl
theorem QL_15 : Cond.classLink RL 15 "java/lang/IllegalStateException" ∈ wsAll := wsAll_of 246 (by decide +kernel) rfl
theorem LL_7 : Cond.methodLink RL 7 yX2_mould ∈ wsAll := wsAll_of 247 (by decide +kernel) rfl
theorem LX2_19 : Cond.methodLink RX2 19 yX2_isLength ∈ wsAll := wsAll_of 251 (by decide +kernel) rfl
theorem LX2_27 : Cond.methodLink RX2 27 yX2_isWithin ∈ wsAll := wsAll_of 254 (by decide +kernel) rfl
theorem LX2_23 : Cond.methodLink RX2 23 yX2_requireArgument ∈ wsAll := wsAll_of 257 (by decide +kernel) rfl
theorem QX2_170 : Cond.classLink RX2 170 "java/lang/IllegalArgumentException" ∈ wsAll := wsAll_of 260 (by decide +kernel) rfl
theorem LX2_35 : Cond.methodLink RX2 35 yX0_isFull ∈ wsAll := wsAll_of 328 (by decide +kernel) rfl
theorem LX2_41 : Cond.methodLink RX2 41 yX2_requireState ∈ wsAll := wsAll_of 332 (by decide +kernel) rfl
theorem QX2_175 : Cond.classLink RX2 175 "java/lang/IllegalStateException" ∈ wsAll := wsAll_of 335 (by decide +kernel) rfl
theorem LX2_44 : Cond.methodLink RX2 44 yX1_addMould ∈ wsAll := wsAll_of 351 (by decide +kernel) rfl
theorem LX1_81 : Cond.methodLink RX1 81 yX0_addRow ∈ wsAll := wsAll_of 355 (by decide +kernel) rfl
theorem LX0_34 : Cond.methodLink RX0 34 yX0_isFull ∈ wsAll := wsAll_of 359 (by decide +kernel) rfl
theorem LX1_85 : Cond.methodLink RX1 85 yX0_put ∈ wsAll := wsAll_of 360 (by decide +kernel) rfl
theorem LL_93 : Cond.methodLink RL 93 yL_refit ∈ wsAll := wsAll_of 364 (by decide +kernel) rfl
theorem QL_21 : Cond.classLink RL 21 "java/lang/IndexOutOfBoundsException" ∈ wsAll := wsAll_of 367 (by decide +kernel) rfl
theorem LL_17 : Cond.methodLink RL 17 yX2_refit ∈ wsAll := wsAll_of 368 (by decide +kernel) rfl
theorem LX2_48 : Cond.methodLink RX2 48 yX0_hasRow ∈ wsAll := wsAll_of 372 (by decide +kernel) rfl
theorem LX2_51 : Cond.methodLink RX2 51 yX2_requireIndex ∈ wsAll := wsAll_of 376 (by decide +kernel) rfl
theorem QX2_163 : Cond.classLink RX2 163 "java/lang/IndexOutOfBoundsException" ∈ wsAll := wsAll_of 379 (by decide +kernel) rfl
theorem LX2_54 : Cond.methodLink RX2 54 yX0_at ∈ wsAll := wsAll_of 395 (by decide +kernel) rfl
theorem LX2_61 : Cond.methodLink RX2 61 yX1_pay ∈ wsAll := wsAll_of 396 (by decide +kernel) rfl
theorem LX2_65 : Cond.methodLink RX2 65 yX0_put ∈ wsAll := wsAll_of 400 (by decide +kernel) rfl
theorem LL_97 : Cond.methodLink RL 97 yL_maker ∈ wsAll := wsAll_of 401 (by decide +kernel) rfl
theorem LL_23 : Cond.methodLink RL 23 yX2_maker ∈ wsAll := wsAll_of 404 (by decide +kernel) rfl
theorem LX2_72 : Cond.methodLink RX2 72 yX1_addMaker ∈ wsAll := wsAll_of 408 (by decide +kernel) rfl
theorem LL_100 : Cond.methodLink RL 100 yL_place ∈ wsAll := wsAll_of 412 (by decide +kernel) rfl
theorem LL_26 : Cond.methodLink RL 26 yX2_place ∈ wsAll := wsAll_of 415 (by decide +kernel) rfl
theorem LX2_76 : Cond.methodLink RX2 76 yX1_isAnotherAt ∈ wsAll := wsAll_of 419 (by decide +kernel) rfl
theorem LL_103 : Cond.methodLink RL 103 yL_buy ∈ wsAll := wsAll_of 423 (by decide +kernel) rfl
theorem LL_29 : Cond.methodLink RL 29 yX2_buy ∈ wsAll := wsAll_of 426 (by decide +kernel) rfl
theorem LX2_80 : Cond.methodLink RX2 80 yX1_addClay ∈ wsAll := wsAll_of 430 (by decide +kernel) rfl
theorem LX2_83 : Cond.methodLink RX2 83 yX1_addCoals ∈ wsAll := wsAll_of 434 (by decide +kernel) rfl
theorem LL_106 : Cond.methodLink RL 106 yL_setDry ∈ wsAll := wsAll_of 438 (by decide +kernel) rfl
theorem LL_32 : Cond.methodLink RL 32 yX2_setDry ∈ wsAll := wsAll_of 441 (by decide +kernel) rfl
theorem LX2_86 : Cond.methodLink RX2 86 yX1_driesBy ∈ wsAll := wsAll_of 445 (by decide +kernel) rfl
theorem LX2_89 : Cond.methodLink RX2 89 yX1_setDrying ∈ wsAll := wsAll_of 446 (by decide +kernel) rfl
theorem LL_109 : Cond.methodLink RL 109 yL_pack ∈ wsAll := wsAll_of 450 (by decide +kernel) rfl
theorem LL_35 : Cond.methodLink RL 35 yX2_pack ∈ wsAll := wsAll_of 453 (by decide +kernel) rfl
theorem LX2_99 : Cond.methodLink RX2 99 yX1_packPipes ∈ wsAll := wsAll_of 457 (by decide +kernel) rfl
theorem LX1_115 : Cond.methodLink RX1 115 yX0_removeRow ∈ wsAll := wsAll_of 461 (by decide +kernel) rfl
theorem LX0_22 : Cond.methodLink RX0 22 Lib.Math.min.name ∈ wsAll := wsAll_of 465 (by decide +kernel) rfl
theorem LL_113 : Cond.methodLink RL 113 yL_fire ∈ wsAll := wsAll_of 466 (by decide +kernel) rfl
theorem LL_39 : Cond.methodLink RL 39 yX2_fire ∈ wsAll := wsAll_of 469 (by decide +kernel) rfl
theorem LX2_109 : Cond.methodLink RX2 109 yX1_fireKiln ∈ wsAll := wsAll_of 473 (by decide +kernel) rfl
theorem LX1_133 : Cond.methodLink RX1 133 yX1_unloadFired ∈ wsAll := wsAll_of 477 (by decide +kernel) rfl
theorem LX1_136 : Cond.methodLink RX1 136 yX1_addWhole ∈ wsAll := wsAll_of 481 (by decide +kernel) rfl
theorem LL_116 : Cond.methodLink RL 116 yL_order ∈ wsAll := wsAll_of 485 (by decide +kernel) rfl
theorem LL_42 : Cond.methodLink RL 42 yX2_order ∈ wsAll := wsAll_of 488 (by decide +kernel) rfl
theorem LX2_115 : Cond.methodLink RX2 115 yX1_addOrder ∈ wsAll := wsAll_of 492 (by decide +kernel) rfl
theorem LL_120 : Cond.methodLink RL 120 yL_about ∈ wsAll := wsAll_of 496 (by decide +kernel) rfl
theorem LL_46 : Cond.methodLink RL 46 yX2_about ∈ wsAll := wsAll_of 499 (by decide +kernel) rfl
theorem LX2_119 : Cond.methodLink RX2 119 yX1_aboutMould ∈ wsAll := wsAll_of 503 (by decide +kernel) rfl
theorem LL_123 : Cond.methodLink RL 123 yL_told ∈ wsAll := wsAll_of 504 (by decide +kernel) rfl
theorem LL_49 : Cond.methodLink RL 49 yX2_told ∈ wsAll := wsAll_of 507 (by decide +kernel) rfl
theorem LX2_122 : Cond.methodLink RX2 122 yX2_cellOf ∈ wsAll := wsAll_of 511 (by decide +kernel) rfl
theorem LX2_160 : Cond.methodLink RX2 160 yX0_hasColumn ∈ wsAll := wsAll_of 514 (by decide +kernel) rfl
theorem LL_126 : Cond.methodLink RL 126 yL_batch ∈ wsAll := wsAll_of 518 (by decide +kernel) rfl
theorem LL_52 : Cond.methodLink RL 52 yX2_batch ∈ wsAll := wsAll_of 521 (by decide +kernel) rfl
theorem LL_129 : Cond.methodLink RL 129 yL_saggar ∈ wsAll := wsAll_of 525 (by decide +kernel) rfl
theorem LL_55 : Cond.methodLink RL 55 yX2_saggar ∈ wsAll := wsAll_of 528 (by decide +kernel) rfl
theorem LL_132 : Cond.methodLink RL 132 yL_store ∈ wsAll := wsAll_of 532 (by decide +kernel) rfl
theorem LL_58 : Cond.methodLink RL 58 yX2_store ∈ wsAll := wsAll_of 535 (by decide +kernel) rfl
theorem LX2_126 : Cond.methodLink RX2 126 yX1_wholeOf ∈ wsAll := wsAll_of 539 (by decide +kernel) rfl
theorem LL_135 : Cond.methodLink RL 135 yL_waits ∈ wsAll := wsAll_of 540 (by decide +kernel) rfl
theorem LL_61 : Cond.methodLink RL 61 yX2_waits ∈ wsAll := wsAll_of 543 (by decide +kernel) rfl
theorem LL_138 : Cond.methodLink RL 138 yL_count ∈ wsAll := wsAll_of 547 (by decide +kernel) rfl
theorem LL_64 : Cond.methodLink RL 64 yX2_count ∈ wsAll := wsAll_of 550 (by decide +kernel) rfl
theorem LX2_129 : Cond.methodLink RX2 129 yX1_counted ∈ wsAll := wsAll_of 554 (by decide +kernel) rfl
theorem LL_141 : Cond.methodLink RL 141 yL_pass ∈ wsAll := wsAll_of 555 (by decide +kernel) rfl
theorem LL_67 : Cond.methodLink RL 67 yX2_pass ∈ wsAll := wsAll_of 558 (by decide +kernel) rfl
theorem LX2_135 : Cond.methodLink RX2 135 yX1_passDays ∈ wsAll := wsAll_of 562 (by decide +kernel) rfl
theorem LX1_140 : Cond.methodLink RX1 140 yX1_passDay ∈ wsAll := wsAll_of 566 (by decide +kernel) rfl
theorem LX1_143 : Cond.methodLink RX1 143 yX1_letWork ∈ wsAll := wsAll_of 570 (by decide +kernel) rfl
theorem LX1_159 : Cond.methodLink RX1 159 yX0_hasRow ∈ wsAll := wsAll_of 574 (by decide +kernel) rfl
theorem LX1_163 : Cond.methodLink RX1 163 yX0_isFull ∈ wsAll := wsAll_of 575 (by decide +kernel) rfl
theorem LX1_167 : Cond.methodLink RX1 167 Lib.Math.max.name ∈ wsAll := wsAll_of 576 (by decide +kernel) rfl
theorem LX1_170 : Cond.methodLink RX1 170 yX1_layOnBoards ∈ wsAll := wsAll_of 579 (by decide +kernel) rfl
theorem LX1_173 : Cond.methodLink RX1 173 yX1_wearMould ∈ wsAll := wsAll_of 583 (by decide +kernel) rfl
theorem LX1_146 : Cond.methodLink RX1 146 yM_floorMod ∈ wsAll := wsAll_of 587 (by decide +kernel) rfl
theorem LX1_152 : Cond.methodLink RX1 152 yX1_dry ∈ wsAll := wsAll_of 590 (by decide +kernel) rfl
theorem LX1_156 : Cond.methodLink RX1 156 yX1_lookAtOrders ∈ wsAll := wsAll_of 593 (by decide +kernel) rfl
theorem LX1_176 : Cond.methodLink RX1 176 yX1_lookAtOrder ∈ wsAll := wsAll_of 597 (by decide +kernel) rfl
theorem LX1_179 : Cond.methodLink RX1 179 yX1_dismiss ∈ wsAll := wsAll_of 601 (by decide +kernel) rfl
theorem LL_144 : Cond.methodLink RL 144 yL_breaks ∈ wsAll := wsAll_of 605 (by decide +kernel) rfl
theorem LL_70 : Cond.methodLink RL 70 yX2_breaks ∈ wsAll := wsAll_of 608 (by decide +kernel) rfl
theorem LX2_138 : Cond.methodLink RX2 138 yX1_stemsThatBreak ∈ wsAll := wsAll_of 612 (by decide +kernel) rfl
theorem LL_151 : Cond.methodLink RL 151 yL_ready ∈ wsAll := wsAll_of 613 (by decide +kernel) rfl
theorem LL_73 : Cond.methodLink RL 73 yX2_ready ∈ wsAll := wsAll_of 616 (by decide +kernel) rfl
theorem LX2_145 : Cond.methodLink RX2 145 yX1_copyFrom ∈ wsAll := wsAll_of 620 (by decide +kernel) rfl
theorem LX1_52 : Cond.methodLink RX1 52 yX0_copyFrom ∈ wsAll := wsAll_of 624 (by decide +kernel) rfl
theorem LX0_28 : Cond.methodLink RX0 28 arraycopyName ∈ wsAll := wsAll_of 628 (by decide +kernel) rfl
theorem LX1_56 : Cond.methodLink RX1 56 arraycopyName ∈ wsAll := wsAll_of 631 (by decide +kernel) rfl
theorem LX2_149 : Cond.methodLink RX2 149 yX1_daysTillServed ∈ wsAll := wsAll_of 632 (by decide +kernel) rfl
theorem LL_154 : Cond.methodLink RL 154 yL_foresee ∈ wsAll := wsAll_of 636 (by decide +kernel) rfl
theorem LL_76 : Cond.methodLink RL 76 yX2_foresee ∈ wsAll := wsAll_of 639 (by decide +kernel) rfl
theorem NL_80 : NewOk RL 80 4 [.int 0, .null, .int 0, .null, .int 0, .null, .null, .null, .null] := ⟨_, rfl, (wsAll_of 643 (by decide +kernel) rfl), (wsAll_of 644 (by decide +kernel) rfl), (wsAll_of 34 (by decide +kernel) rfl), rfl, by decide +kernel, by decide +kernel⟩
theorem LL_82 : Cond.methodLink RL 82 yX4_init ∈ wsAll := wsAll_of 645 (by decide +kernel) rfl
theorem LX4_1 : Cond.methodLink RX4 1 Lib.objectInit ∈ wsAll := wsAll_of 648 (by decide +kernel) rfl
theorem NX4_22 : NewOk RX4 22 3 [.int 0, .int 0, .int 0, .int 0, .int 0, .int 0, .int 0, .int 0, .null, .null, .int 0, .null, .null, .int 0, .null, .int 0, .int 0, .null] := ⟨_, rfl, (wsAll_of 649 (by decide +kernel) rfl), (wsAll_of 650 (by decide +kernel) rfl), (wsAll_of 35 (by decide +kernel) rfl), rfl, by decide +kernel, by decide +kernel⟩
theorem LX4_24 : Cond.methodLinkNest RX4 24 yX3_init "PipeMouldsModel" ∈ nestW := List.mem_filter.mpr ⟨List.mem_of_getElem? (i := 651) (by decide +kernel), rfl⟩
theorem LX3_9 : Cond.methodLink RX3 9 Lib.objectInit ∈ wsAll := wsAll_of 654 (by decide +kernel) rfl
theorem QX3_32 : Cond.classLink RX3 32 "[[I" ∈ wsAll := wsAll_of 655 (by decide +kernel) rfl
theorem FX3_46 : FG RX3 46 3 0 := ⟨_, rfl, by decide, Or.inl (wsAll_of 657 (by decide +kernel) rfl)⟩
theorem UX3_46 : FPu RX3 46 3 0 false .int := ⟨_, rfl, by decide, Or.inl (wsAll_of 657 (by decide +kernel) rfl), rfl, fun q => (by cases q), by decide +kernel⟩
theorem FX3_15 : FG RX3 15 3 1 := ⟨_, rfl, by decide, Or.inl (wsAll_of 658 (by decide +kernel) rfl)⟩
theorem UX3_15 : FPu RX3 15 3 1 false .int := ⟨_, rfl, by decide, Or.inl (wsAll_of 658 (by decide +kernel) rfl), rfl, fun q => (by cases q), by decide +kernel⟩
theorem FX4_74 : FG RX4 74 3 1 := ⟨_, rfl, by decide, Or.inr ⟨"PipeMouldsModel", List.mem_filter.mpr ⟨List.mem_of_getElem? (i := 659) (by decide +kernel), rfl⟩⟩⟩
theorem UX4_74 : FPu RX4 74 3 1 false .int := ⟨_, rfl, by decide, Or.inr ⟨rfl, "PipeMouldsModel", List.mem_filter.mpr ⟨List.mem_of_getElem? (i := 659) (by decide +kernel), rfl⟩⟩, rfl, fun q => (by cases q), by decide +kernel⟩
theorem FX3_19 : FG RX3 19 3 2 := ⟨_, rfl, by decide, Or.inl (wsAll_of 660 (by decide +kernel) rfl)⟩
theorem UX3_19 : FPu RX3 19 3 2 false .int := ⟨_, rfl, by decide, Or.inl (wsAll_of 660 (by decide +kernel) rfl), rfl, fun q => (by cases q), by decide +kernel⟩
theorem FX4_77 : FG RX4 77 3 2 := ⟨_, rfl, by decide, Or.inr ⟨"PipeMouldsModel", List.mem_filter.mpr ⟨List.mem_of_getElem? (i := 661) (by decide +kernel), rfl⟩⟩⟩
theorem UX4_77 : FPu RX4 77 3 2 false .int := ⟨_, rfl, by decide, Or.inr ⟨rfl, "PipeMouldsModel", List.mem_filter.mpr ⟨List.mem_of_getElem? (i := 661) (by decide +kernel), rfl⟩⟩, rfl, fun q => (by cases q), by decide +kernel⟩
theorem FX3_22 : FG RX3 22 3 3 := ⟨_, rfl, by decide, Or.inl (wsAll_of 662 (by decide +kernel) rfl)⟩
theorem UX3_22 : FPu RX3 22 3 3 false .int := ⟨_, rfl, by decide, Or.inl (wsAll_of 662 (by decide +kernel) rfl), rfl, fun q => (by cases q), by decide +kernel⟩
theorem FX4_65 : FG RX4 65 3 3 := ⟨_, rfl, by decide, Or.inr ⟨"PipeMouldsModel", List.mem_filter.mpr ⟨List.mem_of_getElem? (i := 663) (by decide +kernel), rfl⟩⟩⟩
theorem UX4_65 : FPu RX4 65 3 3 false .int := ⟨_, rfl, by decide, Or.inr ⟨rfl, "PipeMouldsModel", List.mem_filter.mpr ⟨List.mem_of_getElem? (i := 663) (by decide +kernel), rfl⟩⟩, rfl, fun q => (by cases q), by decide +kernel⟩
theorem FX3_49 : FG RX3 49 3 4 := ⟨_, rfl, by decide, Or.inl (wsAll_of 664 (by decide +kernel) rfl)⟩
theorem UX3_49 : FPu RX3 49 3 4 false .int := ⟨_, rfl, by decide, Or.inl (wsAll_of 664 (by decide +kernel) rfl), rfl, fun q => (by cases q), by decide +kernel⟩
theorem FX4_149 : FG RX4 149 3 4 := ⟨_, rfl, by decide, Or.inr ⟨"PipeMouldsModel", List.mem_filter.mpr ⟨List.mem_of_getElem? (i := 665) (by decide +kernel), rfl⟩⟩⟩
theorem UX4_149 : FPu RX4 149 3 4 false .int := ⟨_, rfl, by decide, Or.inr ⟨rfl, "PipeMouldsModel", List.mem_filter.mpr ⟨List.mem_of_getElem? (i := 665) (by decide +kernel), rfl⟩⟩, rfl, fun q => (by cases q), by decide +kernel⟩
theorem FX3_52 : FG RX3 52 3 5 := ⟨_, rfl, by decide, Or.inl (wsAll_of 666 (by decide +kernel) rfl)⟩
theorem UX3_52 : FPu RX3 52 3 5 false .int := ⟨_, rfl, by decide, Or.inl (wsAll_of 666 (by decide +kernel) rfl), rfl, fun q => (by cases q), by decide +kernel⟩
theorem FX4_110 : FG RX4 110 3 5 := ⟨_, rfl, by decide, Or.inr ⟨"PipeMouldsModel", List.mem_filter.mpr ⟨List.mem_of_getElem? (i := 667) (by decide +kernel), rfl⟩⟩⟩
theorem UX4_110 : FPu RX4 110 3 5 false .int := ⟨_, rfl, by decide, Or.inr ⟨rfl, "PipeMouldsModel", List.mem_filter.mpr ⟨List.mem_of_getElem? (i := 667) (by decide +kernel), rfl⟩⟩, rfl, fun q => (by cases q), by decide +kernel⟩
theorem FX3_55 : FG RX3 55 3 6 := ⟨_, rfl, by decide, Or.inl (wsAll_of 668 (by decide +kernel) rfl)⟩
theorem UX3_55 : FPu RX3 55 3 6 false .int := ⟨_, rfl, by decide, Or.inl (wsAll_of 668 (by decide +kernel) rfl), rfl, fun q => (by cases q), by decide +kernel⟩
theorem FX3_58 : FG RX3 58 3 7 := ⟨_, rfl, by decide, Or.inl (wsAll_of 669 (by decide +kernel) rfl)⟩
theorem UX3_58 : FPu RX3 58 3 7 false .int := ⟨_, rfl, by decide, Or.inl (wsAll_of 669 (by decide +kernel) rfl), rfl, fun q => (by cases q), by decide +kernel⟩
theorem FX3_25 : FG RX3 25 3 8 := ⟨_, rfl, by decide, Or.inl (wsAll_of 670 (by decide +kernel) rfl)⟩
theorem UX3_25 : FPu RX3 25 3 8 true (.array .int) := ⟨_, rfl, by decide, Or.inl (wsAll_of 670 (by decide +kernel) rfl), rfl, fun _ => rfl, by decide +kernel⟩
theorem FX4_59 : FG RX4 59 3 8 := ⟨_, rfl, by decide, Or.inr ⟨"PipeMouldsModel", List.mem_filter.mpr ⟨List.mem_of_getElem? (i := 671) (by decide +kernel), rfl⟩⟩⟩
theorem FX3_29 : FG RX3 29 3 9 := ⟨_, rfl, by decide, Or.inl (wsAll_of 672 (by decide +kernel) rfl)⟩
theorem UX3_29 : FPu RX3 29 3 9 true (.array .int) := ⟨_, rfl, by decide, Or.inl (wsAll_of 672 (by decide +kernel) rfl), rfl, fun _ => rfl, by decide +kernel⟩
theorem FX4_128 : FG RX4 128 3 9 := ⟨_, rfl, by decide, Or.inr ⟨"PipeMouldsModel", List.mem_filter.mpr ⟨List.mem_of_getElem? (i := 673) (by decide +kernel), rfl⟩⟩⟩
theorem FX3_61 : FG RX3 61 3 10 := ⟨_, rfl, by decide, Or.inl (wsAll_of 674 (by decide +kernel) rfl)⟩
theorem UX3_61 : FPu RX3 61 3 10 false .int := ⟨_, rfl, by decide, Or.inl (wsAll_of 674 (by decide +kernel) rfl), rfl, fun q => (by cases q), by decide +kernel⟩
theorem FX4_48 : FG RX4 48 3 10 := ⟨_, rfl, by decide, Or.inr ⟨"PipeMouldsModel", List.mem_filter.mpr ⟨List.mem_of_getElem? (i := 675) (by decide +kernel), rfl⟩⟩⟩
theorem UX4_48 : FPu RX4 48 3 10 false .int := ⟨_, rfl, by decide, Or.inr ⟨rfl, "PipeMouldsModel", List.mem_filter.mpr ⟨List.mem_of_getElem? (i := 675) (by decide +kernel), rfl⟩⟩, rfl, fun q => (by cases q), by decide +kernel⟩
theorem FX3_34 : FG RX3 34 3 11 := ⟨_, rfl, by decide, Or.inl (wsAll_of 676 (by decide +kernel) rfl)⟩
theorem UX3_34 : FPu RX3 34 3 11 true (.array (.array .int)) := ⟨_, rfl, by decide, Or.inl (wsAll_of 676 (by decide +kernel) rfl), rfl, fun _ => rfl, by decide +kernel⟩
theorem FX4_86 : FG RX4 86 3 11 := ⟨_, rfl, by decide, Or.inr ⟨"PipeMouldsModel", List.mem_filter.mpr ⟨List.mem_of_getElem? (i := 677) (by decide +kernel), rfl⟩⟩⟩
theorem FX3_37 : FG RX3 37 3 12 := ⟨_, rfl, by decide, Or.inl (wsAll_of 678 (by decide +kernel) rfl)⟩
theorem UX3_37 : FPu RX3 37 3 12 true (.array .int) := ⟨_, rfl, by decide, Or.inl (wsAll_of 678 (by decide +kernel) rfl), rfl, fun _ => rfl, by decide +kernel⟩
theorem FX4_113 : FG RX4 113 3 12 := ⟨_, rfl, by decide, Or.inr ⟨"PipeMouldsModel", List.mem_filter.mpr ⟨List.mem_of_getElem? (i := 679) (by decide +kernel), rfl⟩⟩⟩
theorem FX3_64 : FG RX3 64 3 13 := ⟨_, rfl, by decide, Or.inl (wsAll_of 680 (by decide +kernel) rfl)⟩
theorem UX3_64 : FPu RX3 64 3 13 false .int := ⟨_, rfl, by decide, Or.inl (wsAll_of 680 (by decide +kernel) rfl), rfl, fun q => (by cases q), by decide +kernel⟩
theorem FX4_116 : FG RX4 116 3 13 := ⟨_, rfl, by decide, Or.inr ⟨"PipeMouldsModel", List.mem_filter.mpr ⟨List.mem_of_getElem? (i := 681) (by decide +kernel), rfl⟩⟩⟩
theorem UX4_116 : FPu RX4 116 3 13 false .int := ⟨_, rfl, by decide, Or.inr ⟨rfl, "PipeMouldsModel", List.mem_filter.mpr ⟨List.mem_of_getElem? (i := 681) (by decide +kernel), rfl⟩⟩, rfl, fun q => (by cases q), by decide +kernel⟩
theorem FX3_40 : FG RX3 40 3 14 := ⟨_, rfl, by decide, Or.inl (wsAll_of 682 (by decide +kernel) rfl)⟩
theorem UX3_40 : FPu RX3 40 3 14 true (.array (.array .int)) := ⟨_, rfl, by decide, Or.inl (wsAll_of 682 (by decide +kernel) rfl), rfl, fun _ => rfl, by decide +kernel⟩
theorem FX4_119 : FG RX4 119 3 14 := ⟨_, rfl, by decide, Or.inr ⟨"PipeMouldsModel", List.mem_filter.mpr ⟨List.mem_of_getElem? (i := 683) (by decide +kernel), rfl⟩⟩⟩
theorem FX3_43 : FG RX3 43 3 15 := ⟨_, rfl, by decide, Or.inl (wsAll_of 684 (by decide +kernel) rfl)⟩
theorem UX3_43 : FPu RX3 43 3 15 false .int := ⟨_, rfl, by decide, Or.inl (wsAll_of 684 (by decide +kernel) rfl), rfl, fun q => (by cases q), by decide +kernel⟩
theorem FX4_162 : FG RX4 162 3 15 := ⟨_, rfl, by decide, Or.inr ⟨"PipeMouldsModel", List.mem_filter.mpr ⟨List.mem_of_getElem? (i := 685) (by decide +kernel), rfl⟩⟩⟩
theorem UX4_162 : FPu RX4 162 3 15 false .int := ⟨_, rfl, by decide, Or.inr ⟨rfl, "PipeMouldsModel", List.mem_filter.mpr ⟨List.mem_of_getElem? (i := 685) (by decide +kernel), rfl⟩⟩, rfl, fun q => (by cases q), by decide +kernel⟩
theorem FX3_67 : FG RX3 67 3 16 := ⟨_, rfl, by decide, Or.inl (wsAll_of 686 (by decide +kernel) rfl)⟩
theorem UX3_67 : FPu RX3 67 3 16 false .int := ⟨_, rfl, by decide, Or.inl (wsAll_of 686 (by decide +kernel) rfl), rfl, fun q => (by cases q), by decide +kernel⟩
theorem FX4_165 : FG RX4 165 3 16 := ⟨_, rfl, by decide, Or.inr ⟨"PipeMouldsModel", List.mem_filter.mpr ⟨List.mem_of_getElem? (i := 687) (by decide +kernel), rfl⟩⟩⟩
theorem UX4_165 : FPu RX4 165 3 16 false .int := ⟨_, rfl, by decide, Or.inr ⟨rfl, "PipeMouldsModel", List.mem_filter.mpr ⟨List.mem_of_getElem? (i := 687) (by decide +kernel), rfl⟩⟩, rfl, fun q => (by cases q), by decide +kernel⟩
theorem FX3_3 : FG RX3 3 3 17 := ⟨_, rfl, by decide, Or.inl (wsAll_of 688 (by decide +kernel) rfl)⟩
theorem UX3_3 : FPu RX3 3 3 17 true (.object "PipeMouldsModel") := ⟨_, rfl, by decide, Or.inl (wsAll_of 688 (by decide +kernel) rfl), rfl, fun _ => rfl, by decide +kernel⟩
theorem FX4_34 : FG RX4 34 4 0 := ⟨_, rfl, by decide, Or.inl (wsAll_of 726 (by decide +kernel) rfl)⟩
theorem UX4_34 : FPu RX4 34 4 0 false .int := ⟨_, rfl, by decide, Or.inl (wsAll_of 726 (by decide +kernel) rfl), rfl, fun q => (by cases q), by decide +kernel⟩
theorem FX4_7 : FG RX4 7 4 1 := ⟨_, rfl, by decide, Or.inl (wsAll_of 727 (by decide +kernel) rfl)⟩
theorem UX4_7 : FPu RX4 7 4 1 true (.array .int) := ⟨_, rfl, by decide, Or.inl (wsAll_of 727 (by decide +kernel) rfl), rfl, fun _ => rfl, by decide +kernel⟩
theorem FX3_112 : FG RX3 112 4 1 := ⟨_, rfl, by decide, Or.inr ⟨"PipeMouldsModel", List.mem_filter.mpr ⟨List.mem_of_getElem? (i := 728) (by decide +kernel), rfl⟩⟩⟩
theorem FX4_42 : FG RX4 42 4 2 := ⟨_, rfl, by decide, Or.inl (wsAll_of 729 (by decide +kernel) rfl)⟩
theorem UX4_42 : FPu RX4 42 4 2 false .int := ⟨_, rfl, by decide, Or.inl (wsAll_of 729 (by decide +kernel) rfl), rfl, fun q => (by cases q), by decide +kernel⟩
theorem FX4_13 : FG RX4 13 4 3 := ⟨_, rfl, by decide, Or.inl (wsAll_of 730 (by decide +kernel) rfl)⟩
theorem UX4_13 : FPu RX4 13 4 3 true (.array .int) := ⟨_, rfl, by decide, Or.inl (wsAll_of 730 (by decide +kernel) rfl), rfl, fun _ => rfl, by decide +kernel⟩
theorem FX3_92 : FG RX3 92 4 3 := ⟨_, rfl, by decide, Or.inr ⟨"PipeMouldsModel", List.mem_filter.mpr ⟨List.mem_of_getElem? (i := 731) (by decide +kernel), rfl⟩⟩⟩
theorem FX4_45 : FG RX4 45 4 4 := ⟨_, rfl, by decide, Or.inl (wsAll_of 732 (by decide +kernel) rfl)⟩
theorem UX4_45 : FPu RX4 45 4 4 false .int := ⟨_, rfl, by decide, Or.inl (wsAll_of 732 (by decide +kernel) rfl), rfl, fun q => (by cases q), by decide +kernel⟩
theorem FX3_105 : FG RX3 105 4 4 := ⟨_, rfl, by decide, Or.inr ⟨"PipeMouldsModel", List.mem_filter.mpr ⟨List.mem_of_getElem? (i := 733) (by decide +kernel), rfl⟩⟩⟩
theorem UX3_105 : FPu RX3 105 4 4 false .int := ⟨_, rfl, by decide, Or.inr ⟨rfl, "PipeMouldsModel", List.mem_filter.mpr ⟨List.mem_of_getElem? (i := 733) (by decide +kernel), rfl⟩⟩, rfl, fun q => (by cases q), by decide +kernel⟩
theorem FX4_16 : FG RX4 16 4 5 := ⟨_, rfl, by decide, Or.inl (wsAll_of 734 (by decide +kernel) rfl)⟩
theorem UX4_16 : FPu RX4 16 4 5 true (.array .int) := ⟨_, rfl, by decide, Or.inl (wsAll_of 734 (by decide +kernel) rfl), rfl, fun _ => rfl, by decide +kernel⟩
theorem FX3_79 : FG RX3 79 4 5 := ⟨_, rfl, by decide, Or.inr ⟨"PipeMouldsModel", List.mem_filter.mpr ⟨List.mem_of_getElem? (i := 735) (by decide +kernel), rfl⟩⟩⟩
theorem FX4_19 : FG RX4 19 4 6 := ⟨_, rfl, by decide, Or.inl (wsAll_of 736 (by decide +kernel) rfl)⟩
theorem UX4_19 : FPu RX4 19 4 6 true (.array .int) := ⟨_, rfl, by decide, Or.inl (wsAll_of 736 (by decide +kernel) rfl), rfl, fun _ => rfl, by decide +kernel⟩
theorem FX3_76 : FG RX3 76 4 6 := ⟨_, rfl, by decide, Or.inr ⟨"PipeMouldsModel", List.mem_filter.mpr ⟨List.mem_of_getElem? (i := 737) (by decide +kernel), rfl⟩⟩⟩
theorem FX4_27 : FG RX4 27 4 7 := ⟨_, rfl, by decide, Or.inl (wsAll_of 738 (by decide +kernel) rfl)⟩
theorem UX4_27 : FPu RX4 27 4 7 true (.object "PipeMouldsModel$State") := ⟨_, rfl, by decide, Or.inl (wsAll_of 738 (by decide +kernel) rfl), rfl, fun _ => rfl, by decide +kernel⟩
theorem FX4_31 : FG RX4 31 4 8 := ⟨_, rfl, by decide, Or.inl (wsAll_of 739 (by decide +kernel) rfl)⟩
theorem UX4_31 : FPu RX4 31 4 8 true (.object "PipeMouldsModel$State") := ⟨_, rfl, by decide, Or.inl (wsAll_of 739 (by decide +kernel) rfl), rfl, fun _ => rfl, by decide +kernel⟩
theorem LL_89 : Cond.methodLink RL 89 yX4_thrown ∈ wsAll := wsAll_of 759 (by decide +kernel) rfl
theorem LL_88 : Cond.methodLink RL 88 yX4_mould ∈ wsAll := wsAll_of 763 (by decide +kernel) rfl
theorem LX4_51 : Cond.methodLink RX4 51 yX4_isLength ∈ wsAll := wsAll_of 767 (by decide +kernel) rfl
theorem LX4_38 : Cond.methodLink RX4 38 yX4_isIn ∈ wsAll := wsAll_of 770 (by decide +kernel) rfl
theorem LX4_55 : Cond.methodLink RX4 55 yX4_no ∈ wsAll := wsAll_of 773 (by decide +kernel) rfl
theorem LL_96 : Cond.methodLink RL 96 yX4_refit ∈ wsAll := wsAll_of 777 (by decide +kernel) rfl
theorem LX4_62 : Cond.methodLink RX4 62 yX4_isMould ∈ wsAll := wsAll_of 781 (by decide +kernel) rfl
theorem LL_99 : Cond.methodLink RL 99 yX4_maker ∈ wsAll := wsAll_of 785 (by decide +kernel) rfl
theorem LL_102 : Cond.methodLink RL 102 yX4_place ∈ wsAll := wsAll_of 789 (by decide +kernel) rfl
theorem LX4_68 : Cond.methodLink RX4 68 yX4_isMaker ∈ wsAll := wsAll_of 793 (by decide +kernel) rfl
theorem LX4_71 : Cond.methodLink RX4 71 yX4_makerAt ∈ wsAll := wsAll_of 797 (by decide +kernel) rfl
theorem LL_105 : Cond.methodLink RL 105 yX4_buy ∈ wsAll := wsAll_of 801 (by decide +kernel) rfl
theorem LL_108 : Cond.methodLink RL 108 yX4_setDry ∈ wsAll := wsAll_of 805 (by decide +kernel) rfl
theorem LL_112 : Cond.methodLink RL 112 yX4_pack ∈ wsAll := wsAll_of 809 (by decide +kernel) rfl
theorem LX4_80 : Cond.methodLink RX4 80 yX4_isBatch ∈ wsAll := wsAll_of 813 (by decide +kernel) rfl
theorem LX4_83 : Cond.methodLink RX4 83 yX4_isSaggar ∈ wsAll := wsAll_of 817 (by decide +kernel) rfl
theorem LX4_90 : Cond.methodLink RX4 90 yX3_saggar ∈ wsAll := wsAll_of 820 (by decide +kernel) rfl
theorem LX4_94 : Cond.methodLinkNest RX4 94 yX3_put "PipeMouldsModel" ∈ nestW := List.mem_filter.mpr ⟨List.mem_of_getElem? (i := 824) (by decide +kernel), rfl⟩
theorem LX4_98 : Cond.methodLink RX4 98 yX3_takeBatch ∈ wsAll := wsAll_of 828 (by decide +kernel) rfl
theorem LX3_98 : Cond.methodLink RX3 98 yX3_put ∈ wsAll := wsAll_of 832 (by decide +kernel) rfl
theorem LL_115 : Cond.methodLink RL 115 yX4_fire ∈ wsAll := wsAll_of 833 (by decide +kernel) rfl
theorem LX4_102 : Cond.methodLink RX4 102 yX3_inSaggars ∈ wsAll := wsAll_of 837 (by decide +kernel) rfl
theorem LX3_128 : Cond.methodLink RX3 128 yX3_pipes ∈ wsAll := wsAll_of 841 (by decide +kernel) rfl
theorem LX4_106 : Cond.methodLink RX4 106 yX3_breaks ∈ wsAll := wsAll_of 845 (by decide +kernel) rfl
theorem LX3_121 : Cond.methodLink RX3 121 yX3_saggar ∈ wsAll := wsAll_of 849 (by decide +kernel) rfl
theorem LX3_125 : Cond.methodLink RX3 125 Lib.Math.abs.name ∈ wsAll := wsAll_of 850 (by decide +kernel) rfl
theorem LX3_86 : Cond.methodLink RX3 86 Lib.Math.min.name ∈ wsAll := wsAll_of 851 (by decide +kernel) rfl
theorem LL_119 : Cond.methodLink RL 119 yX4_order ∈ wsAll := wsAll_of 852 (by decide +kernel) rfl
theorem LX4_122 : Cond.methodLink RX4 122 arraycopyName ∈ wsAll := wsAll_of 856 (by decide +kernel) rfl
theorem LL_122 : Cond.methodLink RL 122 yX4_about ∈ wsAll := wsAll_of 857 (by decide +kernel) rfl
theorem LX4_137 : Cond.methodLink RX4 137 yX4_mouldTold ∈ wsAll := wsAll_of 861 (by decide +kernel) rfl
theorem LX4_131 : Cond.methodLink RX4 131 yX3_flaw ∈ wsAll := wsAll_of 865 (by decide +kernel) rfl
theorem LX4_134 : Cond.methodLink RX4 134 yX4_clayOf ∈ wsAll := wsAll_of 869 (by decide +kernel) rfl
theorem LL_125 : Cond.methodLink RL 125 yX4_told ∈ wsAll := wsAll_of 873 (by decide +kernel) rfl
theorem LX4_140 : Cond.methodLink RX4 140 yX4_makerTold ∈ wsAll := wsAll_of 877 (by decide +kernel) rfl
theorem LL_128 : Cond.methodLink RL 128 yX4_batch ∈ wsAll := wsAll_of 881 (by decide +kernel) rfl
theorem LL_131 : Cond.methodLink RL 131 yX4_saggar ∈ wsAll := wsAll_of 885 (by decide +kernel) rfl
theorem LL_134 : Cond.methodLink RL 134 yX4_store ∈ wsAll := wsAll_of 889 (by decide +kernel) rfl
theorem LL_137 : Cond.methodLink RL 137 yX4_waits ∈ wsAll := wsAll_of 893 (by decide +kernel) rfl
theorem LX4_143 : Cond.methodLink RX4 143 yX4_isWaiting ∈ wsAll := wsAll_of 897 (by decide +kernel) rfl
theorem LL_140 : Cond.methodLink RL 140 yX4_count ∈ wsAll := wsAll_of 901 (by decide +kernel) rfl
theorem LX4_146 : Cond.methodLink RX4 146 yX3_counted ∈ wsAll := wsAll_of 905 (by decide +kernel) rfl
theorem LX3_131 : Cond.methodLink RX3 131 yX3_inSaggars ∈ wsAll := wsAll_of 909 (by decide +kernel) rfl
theorem LX3_135 : Cond.methodLink RX3 135 yX3_stored ∈ wsAll := wsAll_of 910 (by decide +kernel) rfl
theorem LL_143 : Cond.methodLink RL 143 yX4_pass ∈ wsAll := wsAll_of 914 (by decide +kernel) rfl
theorem LX4_152 : Cond.methodLink RX4 152 yX3_pass_ ∈ wsAll := wsAll_of 918 (by decide +kernel) rfl
theorem LX3_118 : Cond.methodLink RX3 118 yX3_pass ∈ wsAll := wsAll_of 922 (by decide +kernel) rfl
theorem LX3_108 : Cond.methodLink RX3 108 yX3_make ∈ wsAll := wsAll_of 926 (by decide +kernel) rfl
theorem LX3_82 : Cond.methodLinkNest RX3 82 yX4_clayOf "PipeMouldsModel" ∈ nestW := List.mem_filter.mpr ⟨List.mem_of_getElem? (i := 930) (by decide +kernel), rfl⟩
theorem LX3_95 : Cond.methodLink RX3 95 yX3_flaw ∈ wsAll := wsAll_of 931 (by decide +kernel) rfl
theorem LX3_102 : Cond.methodLink RX3 102 Lib.Math.max.name ∈ wsAll := wsAll_of 932 (by decide +kernel) rfl
theorem LX3_115 : Cond.methodLink RX3 115 yX3_serve ∈ wsAll := wsAll_of 933 (by decide +kernel) rfl
theorem LL_146 : Cond.methodLink RL 146 yX4_breaks ∈ wsAll := wsAll_of 937 (by decide +kernel) rfl
theorem LL_150 : Cond.methodLink RL 150 yX4_advise ∈ wsAll := wsAll_of 941 (by decide +kernel) rfl
theorem CX4_157 : Cond.constant RX4 157 2147483647 ∈ wsAll := wsAll_of 945 (by decide +kernel) rfl
theorem LL_153 : Cond.methodLink RL 153 yX4_ready ∈ wsAll := wsAll_of 946 (by decide +kernel) rfl
theorem LX4_158 : Cond.methodLink RX4 158 yX3_become ∈ wsAll := wsAll_of 950 (by decide +kernel) rfl
theorem LX3_70 : Cond.methodLink RX3 70 arraycopyName ∈ wsAll := wsAll_of 954 (by decide +kernel) rfl
theorem LX4_168 : Cond.methodLink RX4 168 yX3_pass ∈ wsAll := wsAll_of 955 (by decide +kernel) rfl
theorem LL_156 : Cond.methodLink RL 156 yX4_foresee ∈ wsAll := wsAll_of 956 (by decide +kernel) rfl
theorem LL_161 : Cond.methodLink RL 161 yX4_mean ∈ wsAll := wsAll_of 960 (by decide +kernel) rfl
theorem LL_166 : Cond.methodLink RL 166 yX4_digest ∈ wsAll := wsAll_of 964 (by decide +kernel) rfl
theorem CX4_170 : Cond.constantLong RX4 170 1423 ∈ wsAll := wsAll_of 968 (by decide +kernel) rfl
theorem CX4_172 : Cond.constantLong RX4 172 31 ∈ wsAll := wsAll_of 969 (by decide +kernel) rfl
end
section
/-! shorter call rules -/
def GV (own : String) (i : Nat) (M' : MD) (np ci : Nat) : Prop := MOk M' np ∧ mdH M' = [] ∧ Cond.methodLink own i (mdY M') ∈ wsAll ∧ Cond.instanceMethod (mdY M') ∈ wsAll ∧ Cond.selects (mdY M').cls (mdY M') (mdY M') ∈ wsAll ∧ ∃ q : vw_C, cls5[ci]? = some q ∧ q.1 = (mdY M').cls
def GN (own : String) (i : Nat) (M' : MD) (np ci : Nat) : Prop := MOk M' np ∧ mdH M' = [] ∧ (∃ host, Cond.methodLinkNest own i (mdY M') host ∈ nestW) ∧ Cond.instanceMethod (mdY M') ∈ wsAll ∧ Cond.selects (mdY M').cls (mdY M') (mdY M') ∈ wsAll ∧ ∃ q : vw_C, cls5[ci]? = some q ∧ q.1 = (mdY M').cls
def GS (own : String) (i : Nat) (M' : MD) (np : Nat) : Prop := MOk M' np ∧ mdH M' = [] ∧ Cond.methodLink own i (mdY M') ∈ wsAll ∧ Cond.static (mdY M') ∈ wsAll
def GX (own : String) (i : Nat) (M' : MD) (np : Nat) : Prop := MOk M' np ∧ (∃ q0 hs0, mdH M' = q0 :: hs0) ∧ Cond.methodLink own i (mdY M') ∈ wsAll ∧ Cond.static (mdY M') ∈ wsAll
def GI (own : String) (i : Nat) (M' : MD) (np : Nat) : Prop := MOk M' np ∧ mdH M' = [] ∧ mdR M' = none ∧ (mdY M').name = "<init>" ∧ (Cond.methodLink own i (mdY M') ∈ wsAll ∨ ∃ host, Cond.methodLinkNest own i (mdY M') host ∈ nestW) ∧ Cond.instanceMethod (mdY M') ∈ wsAll
def okC (st : List Value) : Bool := okK st && decide (catsum st ≤ 8)
theorem okC1 {st : List Value} (h : okC st = true) : okK st = true := by unfold okC at h; exact (Bool.and_eq_true _ _ ▸ h).1
theorem okC2 {st : List Value} (h : okC st = true) : catsum st ≤ 8 := by unfold okC at h; exact of_decide_eq_true (Bool.and_eq_true _ _ ▸ h).2
abbrev RI (r : Int32) (h : AH) : AO → AH → Prop := fun o h' => o = .inl (some (.int r)) ∧ h' = h
abbrev RV (h : AH) : AO → AH → Prop := fun o h' => o = .inl none ∧ h' = h
def NT (Q : Option Value → AH → Prop) : AO → AH → Prop := fun o h' => ∃ v, o = .inl v ∧ Q v h'
theorem nest_use {w : Cond} {A : Array Value} {U : State} (hn : isNest w = true) (h : va_Nw w U) : w.before A U = true := by
  cases w <;> first | exact va_Nw.use rfl h | (exfalso; revert hn; simp [isNest])
section SHORT
variable {d : Nat} {M M' : MD} {z : Option (Nat × (Nat → Int32))} {k n pc i np ci a : Nat} {ls st stk As : List Value} {h h1 : AH} {P P' : AO → AH → Prop} {fs : List Value} {r : Int32} {Q : Option Value → AH → Prop}
theorem w_v {k1 n1 k2 n2 : Nat} (hd : decode (mdB M) pc = .ok (.invokevirtual i, 3)) (hg : GV (mdY M).cls i M' np ci) (hh : h[a]? = some (.inr (ci, fs))) (hct : Ct d M' k1 n1 (.ref a :: As) h P') (hA : As.length = np) (hx : noX (.ref a :: As) = true) (hst : stk = As.reverse ++ .ref a :: st) (ho : okC st = true) (hk : k = k1 + k2) (hn : n = n1 + n2)
    (kk : ∀ av h', P' (.inl av) h' → WP (d + 1) M z k2 n2 (pc + 3) ls (av.toList ++ st) h' P) (kx : ∀ E h', P' (.inr E) h' → WX (d + 1) M z k2 n2 pc ls E h' P) : WP (d + 1) M z k n pc ls stk h P := by
  subst hst
  subst hk
  subst hn
  obtain ⟨g1, g2, g3, g4, g5, q, g6, g7⟩ := hg
  exact w_callV hd g1 g2 g3 g4 g5 g6 g7 hh hA hx (okC1 ho) (okC2 ho) hct kk kx
theorem w_vI (hd : decode (mdB M) pc = .ok (.invokevirtual i, 3)) (hg : GV (mdY M).cls i M' np ci) (hh : h[a]? = some (.inr (ci, fs))) (hct : Ct d M' 0 0 (.ref a :: As) h (RI r h1)) (hA : As.length = np) (hx : noX (.ref a :: As) = true) (hst : stk = As.reverse ++ .ref a :: st) (ho : okC st = true)
    (kk : WP (d + 1) M z k n (pc + 3) ls (.int r :: st) h1 P) : WP (d + 1) M z k n pc ls stk h P :=
  w_v hd hg hh hct hA hx hst ho (Nat.zero_add k).symm (Nat.zero_add n).symm (fun av h' q => by obtain ⟨q1, rfl⟩ := q; injection q1 with q2; subst q2; exact kk) (fun E h' q => by cases q.1)
theorem w_vV (hd : decode (mdB M) pc = .ok (.invokevirtual i, 3)) (hg : GV (mdY M).cls i M' np ci) (hh : h[a]? = some (.inr (ci, fs))) (hct : Ct d M' 0 0 (.ref a :: As) h (RV h1)) (hA : As.length = np) (hx : noX (.ref a :: As) = true) (hst : stk = As.reverse ++ .ref a :: st) (ho : okC st = true)
    (kk : WP (d + 1) M z k n (pc + 3) ls st h1 P) : WP (d + 1) M z k n pc ls stk h P :=
  w_v hd hg hh hct hA hx hst ho (Nat.zero_add k).symm (Nat.zero_add n).symm (fun av h' q => by obtain ⟨q1, rfl⟩ := q; injection q1 with q2; subst q2; exact kk) (fun E h' q => by cases q.1)
theorem w_vQ (hd : decode (mdB M) pc = .ok (.invokevirtual i, 3)) (hg : GV (mdY M).cls i M' np ci) (hh : h[a]? = some (.inr (ci, fs))) (hct : Ct d M' 0 0 (.ref a :: As) h (NT Q)) (hA : As.length = np) (hx : noX (.ref a :: As) = true) (hst : stk = As.reverse ++ .ref a :: st) (ho : okC st = true)
    (kk : ∀ v h', Q v h' → WP (d + 1) M z k n (pc + 3) ls (v.toList ++ st) h' P) : WP (d + 1) M z k n pc ls stk h P :=
  w_v hd hg hh hct hA hx hst ho (Nat.zero_add k).symm (Nat.zero_add n).symm (fun av h' q => by obtain ⟨v, q1, q2⟩ := q; injection q1 with q3; subst q3; exact kk _ _ q2) (fun E h' q => by obtain ⟨v, q1, q2⟩ := q; cases q1)
theorem w_vQ2 {k1 n1 k2 n2 : Nat} (hd : decode (mdB M) pc = .ok (.invokevirtual i, 3)) (hg : GV (mdY M).cls i M' np ci) (hh : h[a]? = some (.inr (ci, fs))) (hct : Ct d M' k1 n1 (.ref a :: As) h (NT Q)) (hA : As.length = np) (hx : noX (.ref a :: As) = true) (hst : stk = As.reverse ++ .ref a :: st) (ho : okC st = true) (hk : k = k1 + k2) (hn : n = n1 + n2)
    (kk : ∀ v h', Q v h' → WP (d + 1) M z k2 n2 (pc + 3) ls (v.toList ++ st) h' P) : WP (d + 1) M z k n pc ls stk h P :=
  w_v hd hg hh hct hA hx hst ho hk hn (fun av h' q => by obtain ⟨v, q1, q2⟩ := q; injection q1 with q3; subst q3; exact kk _ _ q2) (fun E h' q => by obtain ⟨v, q1, q2⟩ := q; cases q1)
theorem w_n {k1 n1 k2 n2 : Nat} (hd : decode (mdB M) pc = .ok (.invokevirtual i, 3)) (hg : GN (mdY M).cls i M' np ci) (hh : h[a]? = some (.inr (ci, fs))) (hct : Ct d M' k1 n1 (.ref a :: As) h P') (hA : As.length = np) (hx : noX (.ref a :: As) = true) (hst : stk = As.reverse ++ .ref a :: st) (ho : okC st = true) (hk : k = k1 + k2) (hn : n = n1 + n2)
    (kk : ∀ av h', P' (.inl av) h' → WP (d + 1) M z k2 n2 (pc + 3) ls (av.toList ++ st) h' P) (kx : ∀ E h', ¬ P' (.inr E) h') : WP (d + 1) M z k n pc ls stk h P := by
  subst hst
  subst hk
  subst hn
  obtain ⟨g1, g2, ⟨host, g3⟩, g4, g5, q, g6, g7⟩ := hg
  exact w_callVN hd g1 g2 g3 g4 g5 g6 g7 hh hA hx (okC1 ho) (okC2 ho) hct kk kx
theorem w_nQ {k1 n1 k2 n2 : Nat} (hd : decode (mdB M) pc = .ok (.invokevirtual i, 3)) (hg : GN (mdY M).cls i M' np ci) (hh : h[a]? = some (.inr (ci, fs))) (hct : Ct d M' k1 n1 (.ref a :: As) h (NT Q)) (hA : As.length = np) (hx : noX (.ref a :: As) = true) (hst : stk = As.reverse ++ .ref a :: st) (ho : okC st = true) (hk : k = k1 + k2) (hn : n = n1 + n2)
    (kk : ∀ v h', Q v h' → WP (d + 1) M z k2 n2 (pc + 3) ls (v.toList ++ st) h' P) : WP (d + 1) M z k n pc ls stk h P :=
  w_n hd hg hh hct hA hx hst ho hk hn (fun av h' q => by obtain ⟨v, q1, q2⟩ := q; injection q1 with q3; subst q3; exact kk _ _ q2) (fun E h' q => by obtain ⟨v, q1, q2⟩ := q; cases q1)
theorem w_nI (hd : decode (mdB M) pc = .ok (.invokevirtual i, 3)) (hg : GN (mdY M).cls i M' np ci) (hh : h[a]? = some (.inr (ci, fs))) (hct : Ct d M' 0 0 (.ref a :: As) h (RI r h1)) (hA : As.length = np) (hx : noX (.ref a :: As) = true) (hst : stk = As.reverse ++ .ref a :: st) (ho : okC st = true)
    (kk : WP (d + 1) M z k n (pc + 3) ls (.int r :: st) h1 P) : WP (d + 1) M z k n pc ls stk h P :=
  w_n hd hg hh hct hA hx hst ho (Nat.zero_add k).symm (Nat.zero_add n).symm (fun av h' q => by obtain ⟨q1, rfl⟩ := q; injection q1 with q2; subst q2; exact kk) (fun E h' q => by cases q.1)
theorem w_nV (hd : decode (mdB M) pc = .ok (.invokevirtual i, 3)) (hg : GN (mdY M).cls i M' np ci) (hh : h[a]? = some (.inr (ci, fs))) (hct : Ct d M' 0 0 (.ref a :: As) h (RV h1)) (hA : As.length = np) (hx : noX (.ref a :: As) = true) (hst : stk = As.reverse ++ .ref a :: st) (ho : okC st = true)
    (kk : WP (d + 1) M z k n (pc + 3) ls st h1 P) : WP (d + 1) M z k n pc ls stk h P :=
  w_n hd hg hh hct hA hx hst ho (Nat.zero_add k).symm (Nat.zero_add n).symm (fun av h' q => by obtain ⟨q1, rfl⟩ := q; injection q1 with q2; subst q2; exact kk) (fun E h' q => by cases q.1)
theorem w_s {k1 n1 k2 n2 : Nat} (hd : decode (mdB M) pc = .ok (.invokestatic i, 3)) (hg : GS (mdY M).cls i M' np) (hct : Ct d M' k1 n1 As h P') (hA : As.length = np) (hx : noX As = true) (hst : stk = As.reverse ++ st) (ho : okC st = true) (hk : k = k1 + k2) (hn : n = n1 + n2)
    (kk : ∀ av h', P' (.inl av) h' → WP (d + 1) M z k2 n2 (pc + 3) ls (av.toList ++ st) h' P) (kx : ∀ E h', P' (.inr E) h' → WX (d + 1) M z k2 n2 pc ls E h' P) : WP (d + 1) M z k n pc ls stk h P := by
  subst hst
  subst hk
  subst hn
  obtain ⟨g1, g2, g3, g4⟩ := hg
  exact w_callS hd g1 g2 g3 g4 hA hx (okC1 ho) (okC2 ho) hct kk kx
theorem w_sI (hd : decode (mdB M) pc = .ok (.invokestatic i, 3)) (hg : GS (mdY M).cls i M' np) (hct : Ct d M' 0 0 As h (RI r h1)) (hA : As.length = np) (hx : noX As = true) (hst : stk = As.reverse ++ st) (ho : okC st = true)
    (kk : WP (d + 1) M z k n (pc + 3) ls (.int r :: st) h1 P) : WP (d + 1) M z k n pc ls stk h P :=
  w_s hd hg hct hA hx hst ho (Nat.zero_add k).symm (Nat.zero_add n).symm (fun av h' q => by obtain ⟨q1, rfl⟩ := q; injection q1 with q2; subst q2; exact kk) (fun E h' q => by cases q.1)
theorem w_sQ (hd : decode (mdB M) pc = .ok (.invokestatic i, 3)) (hg : GS (mdY M).cls i M' np) (hct : Ct d M' 0 0 As h (NT Q)) (hA : As.length = np) (hx : noX As = true) (hst : stk = As.reverse ++ st) (ho : okC st = true)
    (kk : ∀ v h', Q v h' → WP (d + 1) M z k n (pc + 3) ls (v.toList ++ st) h' P) : WP (d + 1) M z k n pc ls stk h P :=
  w_s hd hg hct hA hx hst ho (Nat.zero_add k).symm (Nat.zero_add n).symm (fun av h' q => by obtain ⟨v, q1, q2⟩ := q; injection q1 with q3; subst q3; exact kk _ _ q2) (fun E h' q => by obtain ⟨v, q1, q2⟩ := q; cases q1)
theorem w_x {k1 n1 k2 n2 : Nat} (hd : decode (mdB M) pc = .ok (.invokestatic i, 3)) (hg : GX (mdY M).cls i M' np) (hct : Ct d M' k1 n1 As h P') (hA : As.length = np) (hx : noX As = true) (hst : stk = As.reverse ++ st) (ho : okC st = true) (hk : k = k1 + k2) (hn : n = n1 + n2)
    (kk : ∀ av h', P' (.inl av) h' → WP (d + 1) M z k2 n2 (pc + 3) ls (av.toList ++ st) h' P) (kx : ∀ E h', P' (.inr E) h' → WX (d + 1) M z k2 n2 pc ls E h' P) : WP (d + 1) M z k n pc ls stk h P := by
  subst hst
  subst hk
  subst hn
  obtain ⟨g1, ⟨q0, hs0, g2⟩, g3, g4⟩ := hg
  exact w_callSX hd g1 g2 g3 g4 hA hx (okC1 ho) (okC2 ho) hct kk kx
theorem w_i {k1 n1 k2 n2 : Nat} (hd : decode (mdB M) pc = .ok (.invokespecial i, 3)) (hg : GI (mdY M).cls i M' np) (hct : Ct d M' k1 n1 (.ref a :: As) h (NT Q)) (hA : As.length = np) (hx : noX (.ref a :: As) = true) (hst : stk = As.reverse ++ .ref a :: st) (ho : okC st = true) (hk : k = k1 + k2) (hn : n = n1 + n2)
    (kk : ∀ v h', Q v h' → WP (d + 1) M z k2 n2 (pc + 3) ls (v.toList ++ st) h' P) : WP (d + 1) M z k n pc ls stk h P := by
  subst hst
  subst hk
  subst hn
  obtain ⟨g1, g2, g2r, g2n, g3, g4⟩ := hg
  have kk' : ∀ av h', NT Q (.inl av) h' → WP (d + 1) M z k2 n2 (pc + 3) ls (av.toList ++ st) h' P := fun av h' q => by obtain ⟨v, q1, q2⟩ := q; injection q1 with q3; subst q3; exact kk _ _ q2
  have kx' : ∀ E h', ¬ NT Q (.inr E) h' := fun E h' q => by obtain ⟨v, q1, q2⟩ := q; cases q1
  rcases g3 with g3 | ⟨host, g3⟩
  · exact w_callI hd g1 g2 g2r g2n g3 g4 hA hx (okC1 ho) (okC2 ho) hct kk' kx'
  · exact w_callIN hd g1 g2 g2r g2n g3 g4 hA hx (okC1 ho) (okC2 ho) hct kk' kx'
theorem w_topi {x : Int32} (kk : ∀ y : Int32, y = x → WP d M z k n pc ls (.int y :: st) h P) : WP d M z k n pc ls (.int x :: st) h P := kk x rfl
theorem w_topl {x : Int64} (kk : ∀ y : Int64, y = x → WP d M z k n pc ls (.long y :: st) h P) : WP d M z k n pc ls (.long x :: st) h P := kk x rfl
theorem w_topd {x : UInt64} (kk : ∀ y : UInt64, y = x → WP d M z k n pc ls (.double y :: st) h P) : WP d M z k n pc ls (.double x :: st) h P := kk x rfl
theorem w_topa {x : Nat} (kk : ∀ y : Nat, y = x → WP d M z k n pc ls (.ref y :: st) h P) : WP d M z k n pc ls (.ref x :: st) h P := kk x rfl
end SHORT
theorem at_requireIndex_g : ∀ w ∈ (vx_atS RX2 167 "java/lang/IndexOutOfBoundsException" ["java/lang/RuntimeException", "java/lang/Exception"]).filter goodWord, w ∈ wsAll := by decide +kernel
theorem at_requireIndex_n : ∀ w ∈ (vx_atS RX2 167 "java/lang/IndexOutOfBoundsException" ["java/lang/RuntimeException", "java/lang/Exception"]).filter (fun w => !goodWord w), w ∈ nestW := by decide +kernel
theorem at_requireIndex_i : Cond.initialized "java/lang/IndexOutOfBoundsException" ∈ wsAll := by decide +kernel
theorem at_requireIndex_o : ∀ w ∈ Cond.classLink RX2 163 "java/lang/IndexOutOfBoundsException" :: Cond.initialized "java/lang/IndexOutOfBoundsException" :: vx_atS RX2 167 "java/lang/IndexOutOfBoundsException" ["java/lang/RuntimeException", "java/lang/Exception"], vx_ot w = true := by decide +kernel
/-- what a check answers -/
theorem c_requireIndex (d : Nat) (v : Int32) (h : AH) : Ct (d + 6) mX2_requireIndex 1 6 [.int v] h (fun o h' => h' = h ∧ ((¬ v = 0 ∧ o = .inl none) ∨ (v = 0 ∧ o = .inr "java/lang/IndexOutOfBoundsException"))) := by
  intro l D tc as ws vs sz hl hr ha
  have hvs : vs = [.int v] := by
    match vs, ha with
    | [w], ha => exact congrArg (fun x => [x]) ha.1
    | [], ha => exact ha.elim
    | _ :: _ :: _, ha => exact ha.2.elim
  subst hvs
  have hwo : wsM mX2_requireIndex = Cond.code yX2_requireIndex cX2_requireIndex 1 none :: wsAll := rfl
  refine vx_ofW (cc := cX2_requireIndex) (maxL := 1) (ret := none) (by decide +kernel) hwo ?_
  intro p e s m args below meth c s₁ B hml het hv
  obtain ⟨rfl, rfl, hP, hK, hD, hE⟩ := hv
  have hx := B.exec
  have hb := B.bytes
  have hrt := B.returns
  have hts := wsM_hts (atoms_spec (ws := wsM mX2_requireIndex) B.pre)
  have hown : s.vm.findClass RX2 = some m.cls := findClass_of_methodNamed B.named
  rw [lg_entry_eq]
  have hlv := lv_entry ([.int v]) (n := 1) (Nat.le_of_ble_eq_true rfl)
  generalize ((lg_sl ([.int v]) ++ List.replicate (1 - (lg_sl ([.int v])).length) Slot.unset).toArray) = ls at hlv ⊢
  have hlv : lv_has ls 1 [(0, .int v)] := hlv
  refine lv_iload_n hx hb dX2_requireIndex_0 rfl (lv_at hlv 0 rfl) ?_
  refine lv_if_ne (tgt := 14) hx hb dX2_requireIndex_1 (by decide) (fun c1 => ?_) (fun c1 => ?_)
  · refine W.widen (k := 1) (n := 6) (by omega) (by omega) (vx_ret ?_)
    exact W.vret hx hb hrt (fun t ht hW => ⟨⟨none, none, h, as, ws, rfl, ⟨rfl, Or.inl ⟨c1, rfl⟩⟩, Gr.rf, rfl, hr, by rw [ht]; exact hP, va_K.moved hW.alike hK, hD.self⟩, va_S.rf.F ht⟩) (fun _ q => by cases q) dX2_requireIndex_14 B.notSynchronized
  · obtain ⟨sa, hstr⟩ := hE.2.2.2.2.1
    refine vx_throwS (own := RX2) (cls := "java/lang/IndexOutOfBoundsException") (text := "there is no such number") (names := ["java/lang/RuntimeException", "java/lang/Exception"]) (ik := 163) (is := 165) (ic := 167) (sa := sa) (A := va_A ws s.heap.size) hx hb hl hown (by decide +kernel) (by decide +kernel) (hts _ QX2_163) (hts _ at_requireIndex_i) hstr
      (vx_hat (B := nestW) (fun w hw => hts w (at_requireIndex_g w hw)) at_requireIndex_n (fun w hw => nest_use (List.mem_filter.mp hw).2 (hE.2.2.2.2.2.1 w hw))) at_requireIndex_o hE.1 hE.2.1 va_S.rf (by rw [hml]; exact hlv.1) dX2_requireIndex_4 dX2_requireIndex_7 dX2_requireIndex_8 dX2_requireIndex_10 dX2_requireIndex_13 (fun x hx9 => (het x hx9).elim)
      (by show 2 + 3 < d + 6; omega) (by show 0 + (13 * (2 + 1) + 43) ≤ 35 * (d + 6); omega) (Nat.le_refl _) (Nat.le_refl _) B.notSynchronized (fun t hA hsz hkeep => ?_) (fun _ q => by cases q) (Nat.le_refl _) (Nat.le_refl _)
    exact ⟨⟨h, as, ws, ⟨rfl, Or.inr ⟨c1, rfl⟩⟩, Gr.rf, hr, hP.kept (fun k q hk => hkeep q.1 (hP k q hk).lt), va_K.moved hA hK, hD.self⟩, hsz, fun q hq _ => hkeep q hq⟩
theorem at_requireArgument_g : ∀ w ∈ (vx_atS RX2 174 "java/lang/IllegalArgumentException" ["java/lang/RuntimeException", "java/lang/Exception"]).filter goodWord, w ∈ wsAll := by decide +kernel
theorem at_requireArgument_n : ∀ w ∈ (vx_atS RX2 174 "java/lang/IllegalArgumentException" ["java/lang/RuntimeException", "java/lang/Exception"]).filter (fun w => !goodWord w), w ∈ nestW := by decide +kernel
theorem at_requireArgument_i : Cond.initialized "java/lang/IllegalArgumentException" ∈ wsAll := by decide +kernel
theorem at_requireArgument_o : ∀ w ∈ Cond.classLink RX2 170 "java/lang/IllegalArgumentException" :: Cond.initialized "java/lang/IllegalArgumentException" :: vx_atS RX2 174 "java/lang/IllegalArgumentException" ["java/lang/RuntimeException", "java/lang/Exception"], vx_ot w = true := by decide +kernel
/-- what a check answers -/
theorem c_requireArgument (d : Nat) (v : Int32) (h : AH) : Ct (d + 6) mX2_requireArgument 1 6 [.int v] h (fun o h' => h' = h ∧ ((¬ v = 0 ∧ o = .inl none) ∨ (v = 0 ∧ o = .inr "java/lang/IllegalArgumentException"))) := by
  intro l D tc as ws vs sz hl hr ha
  have hvs : vs = [.int v] := by
    match vs, ha with
    | [w], ha => exact congrArg (fun x => [x]) ha.1
    | [], ha => exact ha.elim
    | _ :: _ :: _, ha => exact ha.2.elim
  subst hvs
  have hwo : wsM mX2_requireArgument = Cond.code yX2_requireArgument cX2_requireArgument 1 none :: wsAll := rfl
  refine vx_ofW (cc := cX2_requireArgument) (maxL := 1) (ret := none) (by decide +kernel) hwo ?_
  intro p e s m args below meth c s₁ B hml het hv
  obtain ⟨rfl, rfl, hP, hK, hD, hE⟩ := hv
  have hx := B.exec
  have hb := B.bytes
  have hrt := B.returns
  have hts := wsM_hts (atoms_spec (ws := wsM mX2_requireArgument) B.pre)
  have hown : s.vm.findClass RX2 = some m.cls := findClass_of_methodNamed B.named
  rw [lg_entry_eq]
  have hlv := lv_entry ([.int v]) (n := 1) (Nat.le_of_ble_eq_true rfl)
  generalize ((lg_sl ([.int v]) ++ List.replicate (1 - (lg_sl ([.int v])).length) Slot.unset).toArray) = ls at hlv ⊢
  have hlv : lv_has ls 1 [(0, .int v)] := hlv
  refine lv_iload_n hx hb dX2_requireArgument_0 rfl (lv_at hlv 0 rfl) ?_
  refine lv_if_ne (tgt := 14) hx hb dX2_requireArgument_1 (by decide) (fun c1 => ?_) (fun c1 => ?_)
  · refine W.widen (k := 1) (n := 6) (by omega) (by omega) (vx_ret ?_)
    exact W.vret hx hb hrt (fun t ht hW => ⟨⟨none, none, h, as, ws, rfl, ⟨rfl, Or.inl ⟨c1, rfl⟩⟩, Gr.rf, rfl, hr, by rw [ht]; exact hP, va_K.moved hW.alike hK, hD.self⟩, va_S.rf.F ht⟩) (fun _ q => by cases q) dX2_requireArgument_14 B.notSynchronized
  · obtain ⟨sa, hstr⟩ := hE.2.2.1
    refine vx_throwS (own := RX2) (cls := "java/lang/IllegalArgumentException") (text := "an argument is out of its range") (names := ["java/lang/RuntimeException", "java/lang/Exception"]) (ik := 170) (is := 172) (ic := 174) (sa := sa) (A := va_A ws s.heap.size) hx hb hl hown (by decide +kernel) (by decide +kernel) (hts _ QX2_170) (hts _ at_requireArgument_i) hstr
      (vx_hat (B := nestW) (fun w hw => hts w (at_requireArgument_g w hw)) at_requireArgument_n (fun w hw => nest_use (List.mem_filter.mp hw).2 (hE.2.2.2.2.2.1 w hw))) at_requireArgument_o hE.1 hE.2.1 va_S.rf (by rw [hml]; exact hlv.1) dX2_requireArgument_4 dX2_requireArgument_7 dX2_requireArgument_8 dX2_requireArgument_10 dX2_requireArgument_13 (fun x hx9 => (het x hx9).elim)
      (by show 2 + 3 < d + 6; omega) (by show 0 + (13 * (2 + 1) + 43) ≤ 35 * (d + 6); omega) (Nat.le_refl _) (Nat.le_refl _) B.notSynchronized (fun t hA hsz hkeep => ?_) (fun _ q => by cases q) (Nat.le_refl _) (Nat.le_refl _)
    exact ⟨⟨h, as, ws, ⟨rfl, Or.inr ⟨c1, rfl⟩⟩, Gr.rf, hr, hP.kept (fun k q hk => hkeep q.1 (hP k q hk).lt), va_K.moved hA hK, hD.self⟩, hsz, fun q hq _ => hkeep q hq⟩
theorem at_requireState_g : ∀ w ∈ (vx_atS RX2 179 "java/lang/IllegalStateException" ["java/lang/RuntimeException", "java/lang/Exception"]).filter goodWord, w ∈ wsAll := by decide +kernel
theorem at_requireState_n : ∀ w ∈ (vx_atS RX2 179 "java/lang/IllegalStateException" ["java/lang/RuntimeException", "java/lang/Exception"]).filter (fun w => !goodWord w), w ∈ nestW := by decide +kernel
theorem at_requireState_i : Cond.initialized "java/lang/IllegalStateException" ∈ wsAll := by decide +kernel
theorem at_requireState_o : ∀ w ∈ Cond.classLink RX2 175 "java/lang/IllegalStateException" :: Cond.initialized "java/lang/IllegalStateException" :: vx_atS RX2 179 "java/lang/IllegalStateException" ["java/lang/RuntimeException", "java/lang/Exception"], vx_ot w = true := by decide +kernel
/-- what a check answers -/
theorem c_requireState (d : Nat) (v : Int32) (h : AH) : Ct (d + 6) mX2_requireState 1 6 [.int v] h (fun o h' => h' = h ∧ ((¬ v = 0 ∧ o = .inl none) ∨ (v = 0 ∧ o = .inr "java/lang/IllegalStateException"))) := by
  intro l D tc as ws vs sz hl hr ha
  have hvs : vs = [.int v] := by
    match vs, ha with
    | [w], ha => exact congrArg (fun x => [x]) ha.1
    | [], ha => exact ha.elim
    | _ :: _ :: _, ha => exact ha.2.elim
  subst hvs
  have hwo : wsM mX2_requireState = Cond.code yX2_requireState cX2_requireState 1 none :: wsAll := rfl
  refine vx_ofW (cc := cX2_requireState) (maxL := 1) (ret := none) (by decide +kernel) hwo ?_
  intro p e s m args below meth c s₁ B hml het hv
  obtain ⟨rfl, rfl, hP, hK, hD, hE⟩ := hv
  have hx := B.exec
  have hb := B.bytes
  have hrt := B.returns
  have hts := wsM_hts (atoms_spec (ws := wsM mX2_requireState) B.pre)
  have hown : s.vm.findClass RX2 = some m.cls := findClass_of_methodNamed B.named
  rw [lg_entry_eq]
  have hlv := lv_entry ([.int v]) (n := 1) (Nat.le_of_ble_eq_true rfl)
  generalize ((lg_sl ([.int v]) ++ List.replicate (1 - (lg_sl ([.int v])).length) Slot.unset).toArray) = ls at hlv ⊢
  have hlv : lv_has ls 1 [(0, .int v)] := hlv
  refine lv_iload_n hx hb dX2_requireState_0 rfl (lv_at hlv 0 rfl) ?_
  refine lv_if_ne (tgt := 14) hx hb dX2_requireState_1 (by decide) (fun c1 => ?_) (fun c1 => ?_)
  · refine W.widen (k := 1) (n := 6) (by omega) (by omega) (vx_ret ?_)
    exact W.vret hx hb hrt (fun t ht hW => ⟨⟨none, none, h, as, ws, rfl, ⟨rfl, Or.inl ⟨c1, rfl⟩⟩, Gr.rf, rfl, hr, by rw [ht]; exact hP, va_K.moved hW.alike hK, hD.self⟩, va_S.rf.F ht⟩) (fun _ q => by cases q) dX2_requireState_14 B.notSynchronized
  · obtain ⟨sa, hstr⟩ := hE.2.2.2.1
    refine vx_throwS (own := RX2) (cls := "java/lang/IllegalStateException") (text := "this can not be done now") (names := ["java/lang/RuntimeException", "java/lang/Exception"]) (ik := 175) (is := 177) (ic := 179) (sa := sa) (A := va_A ws s.heap.size) hx hb hl hown (by decide +kernel) (by decide +kernel) (hts _ QX2_175) (hts _ at_requireState_i) hstr
      (vx_hat (B := nestW) (fun w hw => hts w (at_requireState_g w hw)) at_requireState_n (fun w hw => nest_use (List.mem_filter.mp hw).2 (hE.2.2.2.2.2.1 w hw))) at_requireState_o hE.1 hE.2.1 va_S.rf (by rw [hml]; exact hlv.1) dX2_requireState_4 dX2_requireState_7 dX2_requireState_8 dX2_requireState_10 dX2_requireState_13 (fun x hx9 => (het x hx9).elim)
      (by show 2 + 3 < d + 6; omega) (by show 0 + (13 * (2 + 1) + 43) ≤ 35 * (d + 6); omega) (Nat.le_refl _) (Nat.le_refl _) B.notSynchronized (fun t hA hsz hkeep => ?_) (fun _ q => by cases q) (Nat.le_refl _) (Nat.le_refl _)
    exact ⟨⟨h, as, ws, ⟨rfl, Or.inr ⟨c1, rfl⟩⟩, Gr.rf, hr, hP.kept (fun k q hk => hkeep q.1 (hP k q hk).lt), va_K.moved hA hK, hD.self⟩, hsz, fun q hq _ => hkeep q hq⟩
theorem dM_floorMod_0 : decode prog_11_method_50_code 0 = .ok (.iload_n 0, 1) := by decide +kernel
theorem dM_floorMod_1 : decode prog_11_method_50_code 1 = .ok (.iload_n 1, 1) := by decide +kernel
theorem dM_floorMod_2 : decode prog_11_method_50_code 2 = .ok (.irem, 1) := by decide +kernel
theorem dM_floorMod_3 : decode prog_11_method_50_code 3 = .ok (.istore_n 2, 1) := by decide +kernel
theorem dM_floorMod_4 : decode prog_11_method_50_code 4 = .ok (.iload_n 0, 1) := by decide +kernel
theorem dM_floorMod_5 : decode prog_11_method_50_code 5 = .ok (.iload_n 1, 1) := by decide +kernel
theorem dM_floorMod_6 : decode prog_11_method_50_code 6 = .ok (.ixor, 1) := by decide +kernel
theorem dM_floorMod_7 : decode prog_11_method_50_code 7 = .ok (.ifCond .ge 11, 3) := by decide +kernel
theorem dM_floorMod_10 : decode prog_11_method_50_code 10 = .ok (.iload_n 2, 1) := by decide +kernel
theorem dM_floorMod_11 : decode prog_11_method_50_code 11 = .ok (.ifCond .eq 7, 3) := by decide +kernel
theorem dM_floorMod_14 : decode prog_11_method_50_code 14 = .ok (.iload_n 2, 1) := by decide +kernel
theorem dM_floorMod_15 : decode prog_11_method_50_code 15 = .ok (.iload_n 1, 1) := by decide +kernel
theorem dM_floorMod_16 : decode prog_11_method_50_code 16 = .ok (.iadd, 1) := by decide +kernel
theorem dM_floorMod_17 : decode prog_11_method_50_code 17 = .ok (.ireturn, 1) := by decide +kernel
theorem dM_floorMod_18 : decode prog_11_method_50_code 18 = .ok (.iload_n 2, 1) := by decide +kernel
theorem dM_floorMod_19 : decode prog_11_method_50_code 19 = .ok (.ireturn, 1) := by decide +kernel
def fmSpec (x y : Int32) : Int32 := if x ^^^ y < 0 ∧ ¬ x - x / y * y = 0 then x - x / y * y + y else x - x / y * y
theorem c_floorMod (d : Nat) (x y : Int32) (hy : ¬ y = 0) (h : AH) : Ct d mM_floorMod 0 0 [.int x, .int y] h (RI (fmSpec x y) h) := by
  refine Ct.ofF (by decide +kernel) rfl (Nat.le_of_ble_eq_true rfl) ?_
  show WP d mM_floorMod none 0 0 0 [.int x, .int y, vU] [] h _
  refine w_iload_n (pc := 0) (i := 0) dM_floorMod_0 rfl rfl ?_
  refine w_iload_n (pc := 1) (i := 1) dM_floorMod_1 rfl rfl ?_
  refine w_irem (pc := 2) dM_floorMod_2 hy ?_
  refine w_istore_n (pc := 3) (i := 2) (ls' := [.int x, .int y, .int (x - x / y * y)]) dM_floorMod_3 rfl (by decide) rfl rfl rfl ?_
  refine w_iload_n (pc := 4) (i := 0) dM_floorMod_4 rfl rfl ?_
  refine w_iload_n (pc := 5) (i := 1) dM_floorMod_5 rfl rfl ?_
  refine w_ixor (pc := 6) dM_floorMod_6 ?_
  refine w_if_ge (pc := 7) (tgt := 18) dM_floorMod_7 (by decide) (fun c1 => ?_) (fun c1 => ?_)
  · refine w_iload_n (pc := 18) (i := 2) dM_floorMod_18 rfl rfl ?_
    refine w_ireturn (pc := 19) dM_floorMod_19 ⟨_, rfl, rfl⟩ ⟨?_, rfl⟩
    unfold fmSpec
    rw [if_neg (fun q => Int32.not_lt.mpr c1 q.1)]
  · refine w_iload_n (pc := 10) (i := 2) dM_floorMod_10 rfl rfl ?_
    refine w_if_eq (pc := 11) (tgt := 18) dM_floorMod_11 (by decide) (fun c2 => ?_) (fun c2 => ?_)
    · refine w_iload_n (pc := 18) (i := 2) dM_floorMod_18 rfl rfl ?_
      refine w_ireturn (pc := 19) dM_floorMod_19 ⟨_, rfl, rfl⟩ ⟨?_, rfl⟩
      unfold fmSpec
      rw [if_neg (fun q => q.2 c2)]
    · refine w_iload_n (pc := 14) (i := 2) dM_floorMod_14 rfl rfl ?_
      refine w_iload_n (pc := 15) (i := 1) dM_floorMod_15 rfl rfl ?_
      refine w_iadd (pc := 16) dM_floorMod_16 ?_
      refine w_ireturn (pc := 17) dM_floorMod_17 ⟨_, rfl, rfl⟩ ⟨?_, rfl⟩
      unfold fmSpec
      rw [if_pos ⟨Int32.not_le.mp c1, c2⟩]
theorem GL_79 : GI RL 79 mX2_init 0 := ⟨K_X2_init, rfl, rfl, rfl, Or.inl LL_79, V_X2_init⟩
theorem GX2_9 : GI RX2 9 mX1_init 0 := ⟨K_X1_init, rfl, rfl, rfl, Or.inl LX2_9, V_X1_init⟩
theorem GX1_11 : GI RX1 11 mX0_init 3 := ⟨K_X0_init, rfl, rfl, rfl, Or.inl LX1_11, V_X0_init⟩
theorem GL_147 : GV RL 147 mX2_advise 0 2 := ⟨K_X2_advise, rfl, LL_147, V_X2_advise, S_X2_advise, _, rfl, rfl⟩
theorem GX2_106 : GV RX2 106 mX1_areSaggarsEmpty 0 1 := ⟨K_X1_areSaggarsEmpty, rfl, LX2_106, V_X1_areSaggarsEmpty, S_X1_areSaggarsEmpty, _, rfl, rfl⟩
theorem GX1_109 : GV RX1 109 mX0_sum 1 0 := ⟨K_X0_sum, rfl, LX1_109, V_X0_sum, S_X0_sum, _, rfl, rfl⟩
theorem GX0_38 : GV RX0 38 mX0_at 2 0 := ⟨K_X0_at, rfl, LX0_38, V_X0_at, S_X0_at, _, rfl, rfl⟩
theorem GX2_141 : GV RX2 141 mX1_bestCoals 0 1 := ⟨K_X1_bestCoals, rfl, LX2_141, V_X1_bestCoals, S_X1_bestCoals, _, rfl, rfl⟩
theorem GX1_130 : GV RX1 130 mX1_stemsThatBreakInAll 1 1 := ⟨K_X1_stemsThatBreakInAll, rfl, LX1_130, V_X1_stemsThatBreakInAll, S_X1_stemsThatBreakInAll, _, rfl, rfl⟩
theorem GX1_127 : GV RX1 127 mX1_stemsThatBreak 2 1 := ⟨K_X1_stemsThatBreak, rfl, LX1_127, V_X1_stemsThatBreak, S_X1_stemsThatBreak, _, rfl, rfl⟩
theorem GX1_96 : GV RX1 96 mX0_at 2 0 := ⟨K_X0_at, rfl, LX1_96, V_X0_at, S_X0_at, _, rfl, rfl⟩
theorem GL_157 : GV RL 157 mX2_mean 0 2 := ⟨K_X2_mean, rfl, LL_157, V_X2_mean, S_X2_mean, _, rfl, rfl⟩
theorem GX2_152 : GV RX2 152 mX1_meanFlaw 0 1 := ⟨K_X1_meanFlaw, rfl, LX2_152, V_X1_meanFlaw, S_X1_meanFlaw, _, rfl, rfl⟩
theorem GX1_89 : GV RX1 89 mX0_size 0 0 := ⟨K_X0_size, rfl, LX1_89, V_X0_size, S_X0_size, _, rfl, rfl⟩
theorem GL_162 : GV RL 162 mX2_digest 0 2 := ⟨K_X2_digest, rfl, LL_162, V_X2_digest, S_X2_digest, _, rfl, rfl⟩
theorem GX2_156 : GV RX2 156 mX1_checksum 0 1 := ⟨K_X1_checksum, rfl, LX2_156, V_X1_checksum, S_X1_checksum, _, rfl, rfl⟩
theorem GX1_187 : GV RX1 187 mX1_counted 1 1 := ⟨K_X1_counted, rfl, LX1_187, V_X1_counted, S_X1_counted, _, rfl, rfl⟩
theorem GX1_112 : GV RX1 112 mX1_wholeInAll 0 1 := ⟨K_X1_wholeInAll, rfl, LX1_112, V_X1_wholeInAll, S_X1_wholeInAll, _, rfl, rfl⟩
theorem GX1_92 : GV RX1 92 mX1_wholeOf 1 1 := ⟨K_X1_wholeOf, rfl, LX1_92, V_X1_wholeOf, S_X1_wholeOf, _, rfl, rfl⟩
theorem GX1_149 : GV RX1 149 mX1_driesBy 1 1 := ⟨K_X1_driesBy, rfl, LX1_149, V_X1_driesBy, S_X1_driesBy, _, rfl, rfl⟩
theorem GX1_190 : GV RX1 190 mX1_withMoulds 1 1 := ⟨K_X1_withMoulds, rfl, LX1_190, V_X1_withMoulds, S_X1_withMoulds, _, rfl, rfl⟩
theorem GX1_198 : GV RX1 198 mX1_aboutMould 2 1 := ⟨K_X1_aboutMould, rfl, LX1_198, V_X1_aboutMould, S_X1_aboutMould, _, rfl, rfl⟩
theorem GX1_103 : GV RX1 103 mX1_flawOf 1 1 := ⟨K_X1_flawOf, rfl, LX1_103, V_X1_flawOf, S_X1_flawOf, _, rfl, rfl⟩
theorem GX1_106 : GV RX1 106 mX1_clayOf 1 1 := ⟨K_X1_clayOf, rfl, LX1_106, V_X1_clayOf, S_X1_clayOf, _, rfl, rfl⟩
theorem GX1_100 : GV RX1 100 mX1_makerAt 1 1 := ⟨K_X1_makerAt, rfl, LX1_100, V_X1_makerAt, S_X1_makerAt, _, rfl, rfl⟩
theorem GX1_194 : GS RX1 194 mX1_withTable 2 := ⟨K_X1_withTable, rfl, LX1_194, T_X1_withTable⟩
theorem GX1_201 : GV RX1 201 mX0_width 0 0 := ⟨K_X0_width, rfl, LX1_201, V_X0_width, S_X0_width, _, rfl, rfl⟩
theorem GL_83 : GX RL 83 mL_mould 4 := ⟨K_L_mould, ⟨_, _, rfl⟩, LL_83, T_L_mould⟩
theorem GL_7 : GV RL 7 mX2_mould 2 2 := ⟨K_X2_mould, rfl, LL_7, V_X2_mould, S_X2_mould, _, rfl, rfl⟩
theorem GX2_19 : GS RX2 19 mX2_isLength 1 := ⟨K_X2_isLength, rfl, LX2_19, T_X2_isLength⟩
theorem GX2_27 : GS RX2 27 mX2_isWithin 3 := ⟨K_X2_isWithin, rfl, LX2_27, T_X2_isWithin⟩
theorem GX2_23 : GS RX2 23 mX2_requireArgument 1 := ⟨K_X2_requireArgument, rfl, LX2_23, T_X2_requireArgument⟩
theorem GX2_35 : GV RX2 35 mX0_isFull 0 0 := ⟨K_X0_isFull, rfl, LX2_35, V_X0_isFull, S_X0_isFull, _, rfl, rfl⟩
theorem GX2_41 : GS RX2 41 mX2_requireState 1 := ⟨K_X2_requireState, rfl, LX2_41, T_X2_requireState⟩
theorem GX2_44 : GV RX2 44 mX1_addMould 2 1 := ⟨K_X1_addMould, rfl, LX2_44, V_X1_addMould, S_X1_addMould, _, rfl, rfl⟩
theorem GX1_81 : GV RX1 81 mX0_addRow 0 0 := ⟨K_X0_addRow, rfl, LX1_81, V_X0_addRow, S_X0_addRow, _, rfl, rfl⟩
theorem GX0_34 : GV RX0 34 mX0_isFull 0 0 := ⟨K_X0_isFull, rfl, LX0_34, V_X0_isFull, S_X0_isFull, _, rfl, rfl⟩
theorem GX1_85 : GV RX1 85 mX0_put 3 0 := ⟨K_X0_put, rfl, LX1_85, V_X0_put, S_X0_put, _, rfl, rfl⟩
theorem GL_93 : GX RL 93 mL_refit 3 := ⟨K_L_refit, ⟨_, _, rfl⟩, LL_93, T_L_refit⟩
theorem GL_17 : GV RL 17 mX2_refit 1 2 := ⟨K_X2_refit, rfl, LL_17, V_X2_refit, S_X2_refit, _, rfl, rfl⟩
theorem GX2_48 : GV RX2 48 mX0_hasRow 1 0 := ⟨K_X0_hasRow, rfl, LX2_48, V_X0_hasRow, S_X0_hasRow, _, rfl, rfl⟩
theorem GX2_51 : GS RX2 51 mX2_requireIndex 1 := ⟨K_X2_requireIndex, rfl, LX2_51, T_X2_requireIndex⟩
theorem GX2_54 : GV RX2 54 mX0_at 2 0 := ⟨K_X0_at, rfl, LX2_54, V_X0_at, S_X0_at, _, rfl, rfl⟩
theorem GX2_61 : GV RX2 61 mX1_pay 1 1 := ⟨K_X1_pay, rfl, LX2_61, V_X1_pay, S_X1_pay, _, rfl, rfl⟩
theorem GX2_65 : GV RX2 65 mX0_put 3 0 := ⟨K_X0_put, rfl, LX2_65, V_X0_put, S_X0_put, _, rfl, rfl⟩
theorem GL_97 : GX RL 97 mL_maker 3 := ⟨K_L_maker, ⟨_, _, rfl⟩, LL_97, T_L_maker⟩
theorem GL_23 : GV RL 23 mX2_maker 1 2 := ⟨K_X2_maker, rfl, LL_23, V_X2_maker, S_X2_maker, _, rfl, rfl⟩
theorem GX2_72 : GV RX2 72 mX1_addMaker 1 1 := ⟨K_X1_addMaker, rfl, LX2_72, V_X1_addMaker, S_X1_addMaker, _, rfl, rfl⟩
theorem GL_100 : GX RL 100 mL_place 4 := ⟨K_L_place, ⟨_, _, rfl⟩, LL_100, T_L_place⟩
theorem GL_26 : GV RL 26 mX2_place 2 2 := ⟨K_X2_place, rfl, LL_26, V_X2_place, S_X2_place, _, rfl, rfl⟩
theorem GX2_76 : GV RX2 76 mX1_isAnotherAt 2 1 := ⟨K_X1_isAnotherAt, rfl, LX2_76, V_X1_isAnotherAt, S_X1_isAnotherAt, _, rfl, rfl⟩
theorem GL_103 : GX RL 103 mL_buy 4 := ⟨K_L_buy, ⟨_, _, rfl⟩, LL_103, T_L_buy⟩
theorem GL_29 : GV RL 29 mX2_buy 2 2 := ⟨K_X2_buy, rfl, LL_29, V_X2_buy, S_X2_buy, _, rfl, rfl⟩
theorem GX2_80 : GV RX2 80 mX1_addClay 1 1 := ⟨K_X1_addClay, rfl, LX2_80, V_X1_addClay, S_X1_addClay, _, rfl, rfl⟩
theorem GX2_83 : GV RX2 83 mX1_addCoals 1 1 := ⟨K_X1_addCoals, rfl, LX2_83, V_X1_addCoals, S_X1_addCoals, _, rfl, rfl⟩
theorem GL_106 : GX RL 106 mL_setDry 4 := ⟨K_L_setDry, ⟨_, _, rfl⟩, LL_106, T_L_setDry⟩
theorem GL_32 : GV RL 32 mX2_setDry 2 2 := ⟨K_X2_setDry, rfl, LL_32, V_X2_setDry, S_X2_setDry, _, rfl, rfl⟩
theorem GX2_86 : GV RX2 86 mX1_driesBy 1 1 := ⟨K_X1_driesBy, rfl, LX2_86, V_X1_driesBy, S_X1_driesBy, _, rfl, rfl⟩
theorem GX2_89 : GV RX2 89 mX1_setDrying 2 1 := ⟨K_X1_setDrying, rfl, LX2_89, V_X1_setDrying, S_X1_setDrying, _, rfl, rfl⟩
theorem GL_109 : GX RL 109 mL_pack 5 := ⟨K_L_pack, ⟨_, _, rfl⟩, LL_109, T_L_pack⟩
theorem GL_35 : GV RL 35 mX2_pack 3 2 := ⟨K_X2_pack, rfl, LL_35, V_X2_pack, S_X2_pack, _, rfl, rfl⟩
theorem GX2_99 : GV RX2 99 mX1_packPipes 3 1 := ⟨K_X1_packPipes, rfl, LX2_99, V_X1_packPipes, S_X1_packPipes, _, rfl, rfl⟩
theorem GX1_115 : GV RX1 115 mX0_removeRow 1 0 := ⟨K_X0_removeRow, rfl, LX1_115, V_X0_removeRow, S_X0_removeRow, _, rfl, rfl⟩
theorem GL_113 : GX RL 113 mL_fire 3 := ⟨K_L_fire, ⟨_, _, rfl⟩, LL_113, T_L_fire⟩
theorem GL_39 : GV RL 39 mX2_fire 1 2 := ⟨K_X2_fire, rfl, LL_39, V_X2_fire, S_X2_fire, _, rfl, rfl⟩
theorem GX2_109 : GV RX2 109 mX1_fireKiln 1 1 := ⟨K_X1_fireKiln, rfl, LX2_109, V_X1_fireKiln, S_X1_fireKiln, _, rfl, rfl⟩
theorem GX1_133 : GV RX1 133 mX1_unloadFired 2 1 := ⟨K_X1_unloadFired, rfl, LX1_133, V_X1_unloadFired, S_X1_unloadFired, _, rfl, rfl⟩
theorem GX1_136 : GV RX1 136 mX1_addWhole 2 1 := ⟨K_X1_addWhole, rfl, LX1_136, V_X1_addWhole, S_X1_addWhole, _, rfl, rfl⟩
theorem GL_116 : GX RL 116 mL_order 6 := ⟨K_L_order, ⟨_, _, rfl⟩, LL_116, T_L_order⟩
theorem GL_42 : GV RL 42 mX2_order 4 2 := ⟨K_X2_order, rfl, LL_42, V_X2_order, S_X2_order, _, rfl, rfl⟩
theorem GX2_115 : GV RX2 115 mX1_addOrder 4 1 := ⟨K_X1_addOrder, rfl, LX2_115, V_X1_addOrder, S_X1_addOrder, _, rfl, rfl⟩
theorem GL_120 : GX RL 120 mL_about 4 := ⟨K_L_about, ⟨_, _, rfl⟩, LL_120, T_L_about⟩
theorem GL_46 : GV RL 46 mX2_about 2 2 := ⟨K_X2_about, rfl, LL_46, V_X2_about, S_X2_about, _, rfl, rfl⟩
theorem GX2_119 : GV RX2 119 mX1_aboutMould 2 1 := ⟨K_X1_aboutMould, rfl, LX2_119, V_X1_aboutMould, S_X1_aboutMould, _, rfl, rfl⟩
theorem GL_123 : GX RL 123 mL_told 4 := ⟨K_L_told, ⟨_, _, rfl⟩, LL_123, T_L_told⟩
theorem GL_49 : GV RL 49 mX2_told 2 2 := ⟨K_X2_told, rfl, LL_49, V_X2_told, S_X2_told, _, rfl, rfl⟩
theorem GX2_122 : GS RX2 122 mX2_cellOf 3 := ⟨K_X2_cellOf, rfl, LX2_122, T_X2_cellOf⟩
theorem GX2_160 : GV RX2 160 mX0_hasColumn 1 0 := ⟨K_X0_hasColumn, rfl, LX2_160, V_X0_hasColumn, S_X0_hasColumn, _, rfl, rfl⟩
theorem GL_126 : GX RL 126 mL_batch 4 := ⟨K_L_batch, ⟨_, _, rfl⟩, LL_126, T_L_batch⟩
theorem GL_52 : GV RL 52 mX2_batch 2 2 := ⟨K_X2_batch, rfl, LL_52, V_X2_batch, S_X2_batch, _, rfl, rfl⟩
theorem GL_129 : GX RL 129 mL_saggar 4 := ⟨K_L_saggar, ⟨_, _, rfl⟩, LL_129, T_L_saggar⟩
theorem GL_55 : GV RL 55 mX2_saggar 2 2 := ⟨K_X2_saggar, rfl, LL_55, V_X2_saggar, S_X2_saggar, _, rfl, rfl⟩
theorem GL_132 : GX RL 132 mL_store 3 := ⟨K_L_store, ⟨_, _, rfl⟩, LL_132, T_L_store⟩
theorem GL_58 : GV RL 58 mX2_store 1 2 := ⟨K_X2_store, rfl, LL_58, V_X2_store, S_X2_store, _, rfl, rfl⟩
theorem GX2_126 : GV RX2 126 mX1_wholeOf 1 1 := ⟨K_X1_wholeOf, rfl, LX2_126, V_X1_wholeOf, S_X1_wholeOf, _, rfl, rfl⟩
theorem GL_135 : GX RL 135 mL_waits 4 := ⟨K_L_waits, ⟨_, _, rfl⟩, LL_135, T_L_waits⟩
theorem GL_61 : GV RL 61 mX2_waits 2 2 := ⟨K_X2_waits, rfl, LL_61, V_X2_waits, S_X2_waits, _, rfl, rfl⟩
theorem GL_138 : GX RL 138 mL_count 3 := ⟨K_L_count, ⟨_, _, rfl⟩, LL_138, T_L_count⟩
theorem GL_64 : GV RL 64 mX2_count 1 2 := ⟨K_X2_count, rfl, LL_64, V_X2_count, S_X2_count, _, rfl, rfl⟩
theorem GX2_129 : GV RX2 129 mX1_counted 1 1 := ⟨K_X1_counted, rfl, LX2_129, V_X1_counted, S_X1_counted, _, rfl, rfl⟩
theorem GL_141 : GX RL 141 mL_pass 3 := ⟨K_L_pass, ⟨_, _, rfl⟩, LL_141, T_L_pass⟩
theorem GL_67 : GV RL 67 mX2_pass 1 2 := ⟨K_X2_pass, rfl, LL_67, V_X2_pass, S_X2_pass, _, rfl, rfl⟩
theorem GX2_135 : GV RX2 135 mX1_passDays 1 1 := ⟨K_X1_passDays, rfl, LX2_135, V_X1_passDays, S_X1_passDays, _, rfl, rfl⟩
theorem GX1_140 : GV RX1 140 mX1_passDay 0 1 := ⟨K_X1_passDay, rfl, LX1_140, V_X1_passDay, S_X1_passDay, _, rfl, rfl⟩
theorem GX1_143 : GV RX1 143 mX1_letWork 1 1 := ⟨K_X1_letWork, rfl, LX1_143, V_X1_letWork, S_X1_letWork, _, rfl, rfl⟩
theorem GX1_159 : GV RX1 159 mX0_hasRow 1 0 := ⟨K_X0_hasRow, rfl, LX1_159, V_X0_hasRow, S_X0_hasRow, _, rfl, rfl⟩
theorem GX1_163 : GV RX1 163 mX0_isFull 0 0 := ⟨K_X0_isFull, rfl, LX1_163, V_X0_isFull, S_X0_isFull, _, rfl, rfl⟩
theorem GX1_170 : GV RX1 170 mX1_layOnBoards 2 1 := ⟨K_X1_layOnBoards, rfl, LX1_170, V_X1_layOnBoards, S_X1_layOnBoards, _, rfl, rfl⟩
theorem GX1_173 : GV RX1 173 mX1_wearMould 2 1 := ⟨K_X1_wearMould, rfl, LX1_173, V_X1_wearMould, S_X1_wearMould, _, rfl, rfl⟩
theorem GX1_146 : GS RX1 146 mM_floorMod 2 := ⟨K_M_floorMod, rfl, LX1_146, T_M_floorMod⟩
theorem GX1_152 : GS RX1 152 mX1_dry 2 := ⟨K_X1_dry, rfl, LX1_152, T_X1_dry⟩
theorem GX1_156 : GV RX1 156 mX1_lookAtOrders 0 1 := ⟨K_X1_lookAtOrders, rfl, LX1_156, V_X1_lookAtOrders, S_X1_lookAtOrders, _, rfl, rfl⟩
theorem GX1_176 : GV RX1 176 mX1_lookAtOrder 1 1 := ⟨K_X1_lookAtOrder, rfl, LX1_176, V_X1_lookAtOrder, S_X1_lookAtOrder, _, rfl, rfl⟩
theorem GX1_179 : GV RX1 179 mX1_dismiss 2 1 := ⟨K_X1_dismiss, rfl, LX1_179, V_X1_dismiss, S_X1_dismiss, _, rfl, rfl⟩
theorem GL_144 : GX RL 144 mL_breaks 4 := ⟨K_L_breaks, ⟨_, _, rfl⟩, LL_144, T_L_breaks⟩
theorem GL_70 : GV RL 70 mX2_breaks 2 2 := ⟨K_X2_breaks, rfl, LL_70, V_X2_breaks, S_X2_breaks, _, rfl, rfl⟩
theorem GX2_138 : GV RX2 138 mX1_stemsThatBreak 2 1 := ⟨K_X1_stemsThatBreak, rfl, LX2_138, V_X1_stemsThatBreak, S_X1_stemsThatBreak, _, rfl, rfl⟩
theorem GL_151 : GX RL 151 mL_ready 3 := ⟨K_L_ready, ⟨_, _, rfl⟩, LL_151, T_L_ready⟩
theorem GL_73 : GV RL 73 mX2_ready 1 2 := ⟨K_X2_ready, rfl, LL_73, V_X2_ready, S_X2_ready, _, rfl, rfl⟩
theorem GX2_145 : GV RX2 145 mX1_copyFrom 1 1 := ⟨K_X1_copyFrom, rfl, LX2_145, V_X1_copyFrom, S_X1_copyFrom, _, rfl, rfl⟩
theorem GX1_52 : GV RX1 52 mX0_copyFrom 1 0 := ⟨K_X0_copyFrom, rfl, LX1_52, V_X0_copyFrom, S_X0_copyFrom, _, rfl, rfl⟩
theorem GX2_149 : GV RX2 149 mX1_daysTillServed 1 1 := ⟨K_X1_daysTillServed, rfl, LX2_149, V_X1_daysTillServed, S_X1_daysTillServed, _, rfl, rfl⟩
theorem GL_154 : GX RL 154 mL_foresee 4 := ⟨K_L_foresee, ⟨_, _, rfl⟩, LL_154, T_L_foresee⟩
theorem GL_76 : GV RL 76 mX2_foresee 2 2 := ⟨K_X2_foresee, rfl, LL_76, V_X2_foresee, S_X2_foresee, _, rfl, rfl⟩
theorem GL_82 : GI RL 82 mX4_init 0 := ⟨K_X4_init, rfl, rfl, rfl, Or.inl LL_82, V_X4_init⟩
theorem GX4_24 : GI RX4 24 mX3_init 1 := ⟨K_X3_init, rfl, rfl, rfl, Or.inr ⟨_, LX4_24⟩, V_X3_init⟩
theorem GL_89 : GV RL 89 mX4_thrown 0 4 := ⟨K_X4_thrown, rfl, LL_89, V_X4_thrown, S_X4_thrown, _, rfl, rfl⟩
theorem GL_88 : GV RL 88 mX4_mould 2 4 := ⟨K_X4_mould, rfl, LL_88, V_X4_mould, S_X4_mould, _, rfl, rfl⟩
theorem GX4_51 : GS RX4 51 mX4_isLength 1 := ⟨K_X4_isLength, rfl, LX4_51, T_X4_isLength⟩
theorem GX4_38 : GS RX4 38 mX4_isIn 3 := ⟨K_X4_isIn, rfl, LX4_38, T_X4_isIn⟩
theorem GX4_55 : GV RX4 55 mX4_no 1 4 := ⟨K_X4_no, rfl, LX4_55, V_X4_no, S_X4_no, _, rfl, rfl⟩
theorem GL_96 : GV RL 96 mX4_refit 1 4 := ⟨K_X4_refit, rfl, LL_96, V_X4_refit, S_X4_refit, _, rfl, rfl⟩
theorem GX4_62 : GV RX4 62 mX4_isMould 1 4 := ⟨K_X4_isMould, rfl, LX4_62, V_X4_isMould, S_X4_isMould, _, rfl, rfl⟩
theorem GL_99 : GV RL 99 mX4_maker 1 4 := ⟨K_X4_maker, rfl, LL_99, V_X4_maker, S_X4_maker, _, rfl, rfl⟩
theorem GL_102 : GV RL 102 mX4_place 2 4 := ⟨K_X4_place, rfl, LL_102, V_X4_place, S_X4_place, _, rfl, rfl⟩
theorem GX4_68 : GV RX4 68 mX4_isMaker 1 4 := ⟨K_X4_isMaker, rfl, LX4_68, V_X4_isMaker, S_X4_isMaker, _, rfl, rfl⟩
theorem GX4_71 : GV RX4 71 mX4_makerAt 1 4 := ⟨K_X4_makerAt, rfl, LX4_71, V_X4_makerAt, S_X4_makerAt, _, rfl, rfl⟩
theorem GL_105 : GV RL 105 mX4_buy 2 4 := ⟨K_X4_buy, rfl, LL_105, V_X4_buy, S_X4_buy, _, rfl, rfl⟩
theorem GL_108 : GV RL 108 mX4_setDry 2 4 := ⟨K_X4_setDry, rfl, LL_108, V_X4_setDry, S_X4_setDry, _, rfl, rfl⟩
theorem GL_112 : GV RL 112 mX4_pack 3 4 := ⟨K_X4_pack, rfl, LL_112, V_X4_pack, S_X4_pack, _, rfl, rfl⟩
theorem GX4_80 : GV RX4 80 mX4_isBatch 1 4 := ⟨K_X4_isBatch, rfl, LX4_80, V_X4_isBatch, S_X4_isBatch, _, rfl, rfl⟩
theorem GX4_83 : GS RX4 83 mX4_isSaggar 1 := ⟨K_X4_isSaggar, rfl, LX4_83, T_X4_isSaggar⟩
theorem GX4_90 : GV RX4 90 mX3_saggar 1 3 := ⟨K_X3_saggar, rfl, LX4_90, V_X3_saggar, S_X3_saggar, _, rfl, rfl⟩
theorem GX4_94 : GN RX4 94 mX3_put 5 3 := ⟨K_X3_put, rfl, ⟨_, LX4_94⟩, V_X3_put, S_X3_put, _, rfl, rfl⟩
theorem GX4_98 : GV RX4 98 mX3_takeBatch 1 3 := ⟨K_X3_takeBatch, rfl, LX4_98, V_X3_takeBatch, S_X3_takeBatch, _, rfl, rfl⟩
theorem GX3_98 : GV RX3 98 mX3_put 5 3 := ⟨K_X3_put, rfl, LX3_98, V_X3_put, S_X3_put, _, rfl, rfl⟩
theorem GL_115 : GV RL 115 mX4_fire 1 4 := ⟨K_X4_fire, rfl, LL_115, V_X4_fire, S_X4_fire, _, rfl, rfl⟩
theorem GX4_102 : GV RX4 102 mX3_inSaggars 0 3 := ⟨K_X3_inSaggars, rfl, LX4_102, V_X3_inSaggars, S_X3_inSaggars, _, rfl, rfl⟩
theorem GX3_128 : GV RX3 128 mX3_pipes 2 3 := ⟨K_X3_pipes, rfl, LX3_128, V_X3_pipes, S_X3_pipes, _, rfl, rfl⟩
theorem GX4_106 : GV RX4 106 mX3_breaks 2 3 := ⟨K_X3_breaks, rfl, LX4_106, V_X3_breaks, S_X3_breaks, _, rfl, rfl⟩
theorem GX3_121 : GV RX3 121 mX3_saggar 1 3 := ⟨K_X3_saggar, rfl, LX3_121, V_X3_saggar, S_X3_saggar, _, rfl, rfl⟩
theorem GL_119 : GV RL 119 mX4_order 4 4 := ⟨K_X4_order, rfl, LL_119, V_X4_order, S_X4_order, _, rfl, rfl⟩
theorem GL_122 : GV RL 122 mX4_about 2 4 := ⟨K_X4_about, rfl, LL_122, V_X4_about, S_X4_about, _, rfl, rfl⟩
theorem GX4_137 : GV RX4 137 mX4_mouldTold 2 4 := ⟨K_X4_mouldTold, rfl, LX4_137, V_X4_mouldTold, S_X4_mouldTold, _, rfl, rfl⟩
theorem GX4_131 : GV RX4 131 mX3_flaw 1 3 := ⟨K_X3_flaw, rfl, LX4_131, V_X3_flaw, S_X3_flaw, _, rfl, rfl⟩
theorem GX4_134 : GV RX4 134 mX4_clayOf 1 4 := ⟨K_X4_clayOf, rfl, LX4_134, V_X4_clayOf, S_X4_clayOf, _, rfl, rfl⟩
theorem GL_125 : GV RL 125 mX4_told 2 4 := ⟨K_X4_told, rfl, LL_125, V_X4_told, S_X4_told, _, rfl, rfl⟩
theorem GX4_140 : GV RX4 140 mX4_makerTold 2 4 := ⟨K_X4_makerTold, rfl, LX4_140, V_X4_makerTold, S_X4_makerTold, _, rfl, rfl⟩
theorem GL_128 : GV RL 128 mX4_batch 2 4 := ⟨K_X4_batch, rfl, LL_128, V_X4_batch, S_X4_batch, _, rfl, rfl⟩
theorem GL_131 : GV RL 131 mX4_saggar 2 4 := ⟨K_X4_saggar, rfl, LL_131, V_X4_saggar, S_X4_saggar, _, rfl, rfl⟩
theorem GL_134 : GV RL 134 mX4_store 1 4 := ⟨K_X4_store, rfl, LL_134, V_X4_store, S_X4_store, _, rfl, rfl⟩
theorem GL_137 : GV RL 137 mX4_waits 2 4 := ⟨K_X4_waits, rfl, LL_137, V_X4_waits, S_X4_waits, _, rfl, rfl⟩
theorem GX4_143 : GV RX4 143 mX4_isWaiting 1 4 := ⟨K_X4_isWaiting, rfl, LX4_143, V_X4_isWaiting, S_X4_isWaiting, _, rfl, rfl⟩
theorem GL_140 : GV RL 140 mX4_count 1 4 := ⟨K_X4_count, rfl, LL_140, V_X4_count, S_X4_count, _, rfl, rfl⟩
theorem GX4_146 : GV RX4 146 mX3_counted 1 3 := ⟨K_X3_counted, rfl, LX4_146, V_X3_counted, S_X3_counted, _, rfl, rfl⟩
theorem GX3_131 : GV RX3 131 mX3_inSaggars 0 3 := ⟨K_X3_inSaggars, rfl, LX3_131, V_X3_inSaggars, S_X3_inSaggars, _, rfl, rfl⟩
theorem GX3_135 : GV RX3 135 mX3_stored 0 3 := ⟨K_X3_stored, rfl, LX3_135, V_X3_stored, S_X3_stored, _, rfl, rfl⟩
theorem GL_143 : GV RL 143 mX4_pass 1 4 := ⟨K_X4_pass, rfl, LL_143, V_X4_pass, S_X4_pass, _, rfl, rfl⟩
theorem GX4_152 : GV RX4 152 mX3_pass_ 1 3 := ⟨K_X3_pass_, rfl, LX4_152, V_X3_pass_, S_X3_pass_, _, rfl, rfl⟩
theorem GX3_118 : GV RX3 118 mX3_pass 0 3 := ⟨K_X3_pass, rfl, LX3_118, V_X3_pass, S_X3_pass, _, rfl, rfl⟩
theorem GX3_108 : GV RX3 108 mX3_make 1 3 := ⟨K_X3_make, rfl, LX3_108, V_X3_make, S_X3_make, _, rfl, rfl⟩
theorem GX3_82 : GN RX3 82 mX4_clayOf 1 4 := ⟨K_X4_clayOf, rfl, ⟨_, LX3_82⟩, V_X4_clayOf, S_X4_clayOf, _, rfl, rfl⟩
theorem GX3_95 : GV RX3 95 mX3_flaw 1 3 := ⟨K_X3_flaw, rfl, LX3_95, V_X3_flaw, S_X3_flaw, _, rfl, rfl⟩
theorem GX3_115 : GV RX3 115 mX3_serve 0 3 := ⟨K_X3_serve, rfl, LX3_115, V_X3_serve, S_X3_serve, _, rfl, rfl⟩
theorem GL_146 : GV RL 146 mX4_breaks 2 4 := ⟨K_X4_breaks, rfl, LL_146, V_X4_breaks, S_X4_breaks, _, rfl, rfl⟩
theorem GL_150 : GV RL 150 mX4_advise 0 4 := ⟨K_X4_advise, rfl, LL_150, V_X4_advise, S_X4_advise, _, rfl, rfl⟩
theorem GL_153 : GV RL 153 mX4_ready 1 4 := ⟨K_X4_ready, rfl, LL_153, V_X4_ready, S_X4_ready, _, rfl, rfl⟩
theorem GX4_158 : GV RX4 158 mX3_become 1 3 := ⟨K_X3_become, rfl, LX4_158, V_X3_become, S_X3_become, _, rfl, rfl⟩
theorem GX4_168 : GV RX4 168 mX3_pass 0 3 := ⟨K_X3_pass, rfl, LX4_168, V_X3_pass, S_X3_pass, _, rfl, rfl⟩
theorem GL_156 : GV RL 156 mX4_foresee 2 4 := ⟨K_X4_foresee, rfl, LL_156, V_X4_foresee, S_X4_foresee, _, rfl, rfl⟩
theorem GL_161 : GV RL 161 mX4_mean 0 4 := ⟨K_X4_mean, rfl, LL_161, V_X4_mean, S_X4_mean, _, rfl, rfl⟩
theorem GL_166 : GV RL 166 mX4_digest 0 4 := ⟨K_X4_digest, rfl, LL_166, V_X4_digest, S_X4_digest, _, rfl, rfl⟩
end
section
/-! Table: rows of numbers in one row of cells -/
theorem gss {h : AH} {a : Nat} {c x : AC} (ha : h[a]? = some c) : (h.set a x)[a]? = some x := List.getElem?_set_self (List.getElem?_eq_some_iff.mp ha).1
theorem gsn {h : AH} {a b : Nat} {x : AC} (hab : a ≠ b) : (h.set a x)[b]? = h[b]? := List.getElem?_set_ne hab
theorem gself {h : AH} {a : Nat} {x : AC} (ha : h[a]? = some x) : h.set a x = h := by
  apply List.ext_getElem?
  intro i
  by_cases e : a = i
  · subst e; rw [gss ha, ha]
  · rw [gsn e]
def TbO (tb c N cols rows : Nat) (f : Nat → Int32) (h : AH) : Prop := h[tb]? = some (.inr (0, [.ref c, .int (nI cols), .int (nI rows)])) ∧ h[c]? = some (.inl (N, .inl f))
/-- its measures -/
def TbB (N cols rows : Nat) : Prop := rows * cols ≤ N ∧ N ≤ 100 ∧ 1 ≤ cols ∧ cols ≤ 10
theorem TbB.idx {N cols rows i j : Nat} (hB : TbB N cols rows) (hi : i < rows) (hj : j < cols) : i * cols + j < N := by
  obtain ⟨h1, h2, h3, h4⟩ := hB
  have : (i + 1) * cols ≤ rows * cols := Nat.mul_le_mul_right _ hi
  rw [Nat.add_mul] at this
  omega
theorem TbB.rows {N cols rows : Nat} (hB : TbB N cols rows) : rows ≤ 100 := by
  obtain ⟨h1, h2, h3, h4⟩ := hB
  have : rows * 1 ≤ rows * cols := Nat.mul_le_mul_left _ h3
  omega
def tSum (f : Nat → Int32) (cols j : Nat) : Nat → Int32
  | 0 => 0
  | n + 1 => tSum f cols j n + f (n * cols + j)
def tRem (f : Nat → Int32) (cols rows i : Nat) : Nat → Int32 := fun k => if i * cols ≤ k ∧ k < (rows - 1) * cols then f (k + cols) else f k
section TABLE
variable {d tb c N cols rows : Nat} {f : Nat → Int32} {h : AH}
set_option maxHeartbeats 4000000 in
theorem c_size (hT : TbO tb c N cols rows f h) : Ct d mX0_size 0 0 [.ref tb] h (RI (nI rows) h) := by
  refine Ct.of (by decide +kernel) rfl (Nat.le_of_ble_eq_true rfl) ?_
  show WP d mX0_size none 0 0 0 [.ref tb] [] h _
  refine w_aload_n (pc := 0) (i := 0) dX0_size_0 rfl rfl ?_
  refine w_get (pc := 1) dX0_size_1 FX0_19 hT.1 rfl ?_
  exact w_ireturn (pc := 4) dX0_size_4 ⟨_, rfl, rfl⟩ ⟨rfl, rfl⟩
set_option maxHeartbeats 4000000 in
theorem c_width (hT : TbO tb c N cols rows f h) : Ct d mX0_width 0 0 [.ref tb] h (RI (nI cols) h) := by
  refine Ct.of (by decide +kernel) rfl (Nat.le_of_ble_eq_true rfl) ?_
  show WP d mX0_width none 0 0 0 [.ref tb] [] h _
  refine w_aload_n (pc := 0) (i := 0) dX0_width_0 rfl rfl ?_
  refine w_get (pc := 1) dX0_width_1 FX0_15 hT.1 rfl ?_
  exact w_ireturn (pc := 4) dX0_width_4 ⟨_, rfl, rfl⟩ ⟨rfl, rfl⟩
set_option maxHeartbeats 4000000 in
theorem c_isFull (hT : TbO tb c N cols rows f h) (hB : TbB N cols rows) : Ct d mX0_isFull 0 0 [.ref tb] h (RI (if N < (rows + 1) * cols then 1 else 0) h) := by
  refine Ct.of (by decide +kernel) rfl (Nat.le_of_ble_eq_true rfl) ?_
  show WP d mX0_isFull none 0 0 0 [.ref tb] [] h _
  obtain ⟨b1, b2, b3, b4⟩ := hB
  have b5 : (rows + 1) * cols ≤ 200 := by rw [Nat.add_mul]; omega
  refine w_aload_n (pc := 0) (i := 0) dX0_isFull_0 rfl rfl ?_
  refine w_get (pc := 1) dX0_isFull_1 FX0_19 hT.1 rfl ?_
  refine w_iconst (pc := 4) (v := 1) dX0_isFull_4 (by decide) ?_
  refine w_iadd (pc := 5) dX0_isFull_5 ?_
  refine w_aload_n (pc := 6) (i := 0) dX0_isFull_6 rfl rfl ?_
  refine w_get (pc := 7) dX0_isFull_7 FX0_15 hT.1 rfl ?_
  refine w_imul (pc := 10) dX0_isFull_10 ?_
  refine w_aload_n (pc := 11) (i := 0) dX0_isFull_11 rfl rfl ?_
  refine w_get (pc := 12) dX0_isFull_12 FX0_9 hT.1 rfl ?_
  refine w_alen (pc := 15) dX0_isFull_15 hT.2 rfl ?_
  rw [nI_1, pk_mul]
  refine w_icmp_le (pc := 16) (tgt := 23) dX0_isFull_16 (by decide) (fun c16 => ?_) (fun c16 => ?_)
  · refine w_iconst (pc := 23) (v := 0) dX0_isFull_23 (by decide) ?_
    exact w_ireturn (pc := 24) dX0_isFull_24 ⟨_, rfl, rfl⟩ ⟨by rw [if_neg (Nat.not_lt.mpr ((nI_leI (by omega) (by omega)).mp c16))], rfl⟩
  · refine w_iconst (pc := 19) (v := 1) dX0_isFull_19 (by decide) ?_
    refine w_goto (pc := 20) (tgt := 24) dX0_isFull_20 (by decide) ?_
    exact w_ireturn (pc := 24) dX0_isFull_24 ⟨_, rfl, rfl⟩ ⟨by rw [if_pos (Nat.lt_of_not_le (fun q => c16 ((nI_leI (by omega) (by omega)).mpr q)))], rfl⟩
set_option maxHeartbeats 4000000 in
theorem c_hasRow (row : Int32) (hT : TbO tb c N cols rows f h) : Ct d mX0_hasRow 0 0 [.ref tb, .int row] h (RI (if row < 0 ∨ nI rows ≤ row then 0 else 1) h) := by
  refine Ct.of (by decide +kernel) rfl (Nat.le_of_ble_eq_true rfl) ?_
  show WP d mX0_hasRow none 0 0 0 [.ref tb, .int row] [] h _
  refine w_iload_n (pc := 0) (i := 1) dX0_hasRow_0 rfl rfl ?_
  refine w_if_lt (pc := 1) (tgt := 16) dX0_hasRow_1 (by decide) (fun c1 => ?_) (fun c1 => ?_)
  · refine w_iconst (pc := 16) (v := 0) dX0_hasRow_16 (by decide) ?_
    exact w_ireturn (pc := 17) dX0_hasRow_17 ⟨_, rfl, rfl⟩ ⟨by rw [if_pos (Or.inl c1)], rfl⟩
  · refine w_iload_n (pc := 4) (i := 1) dX0_hasRow_4 rfl rfl ?_
    refine w_aload_n (pc := 5) (i := 0) dX0_hasRow_5 rfl rfl ?_
    refine w_get (pc := 6) dX0_hasRow_6 FX0_19 hT.1 rfl ?_
    refine w_icmp_ge (pc := 9) (tgt := 16) dX0_hasRow_9 (by decide) (fun c9 => ?_) (fun c9 => ?_)
    · refine w_iconst (pc := 16) (v := 0) dX0_hasRow_16 (by decide) ?_
      exact w_ireturn (pc := 17) dX0_hasRow_17 ⟨_, rfl, rfl⟩ ⟨by rw [if_pos (Or.inr c9)], rfl⟩
    · refine w_iconst (pc := 12) (v := 1) dX0_hasRow_12 (by decide) ?_
      refine w_goto (pc := 13) (tgt := 17) dX0_hasRow_13 (by decide) ?_
      exact w_ireturn (pc := 17) dX0_hasRow_17 ⟨_, rfl, rfl⟩ ⟨by rw [if_neg (fun q => q.elim c1 c9)], rfl⟩
set_option maxHeartbeats 4000000 in
theorem c_hasColumn (row : Int32) (hT : TbO tb c N cols rows f h) : Ct d mX0_hasColumn 0 0 [.ref tb, .int row] h (RI (if row < 0 ∨ nI cols ≤ row then 0 else 1) h) := by
  refine Ct.of (by decide +kernel) rfl (Nat.le_of_ble_eq_true rfl) ?_
  show WP d mX0_hasColumn none 0 0 0 [.ref tb, .int row] [] h _
  refine w_iload_n (pc := 0) (i := 1) dX0_hasColumn_0 rfl rfl ?_
  refine w_if_lt (pc := 1) (tgt := 16) dX0_hasColumn_1 (by decide) (fun c1 => ?_) (fun c1 => ?_)
  · refine w_iconst (pc := 16) (v := 0) dX0_hasColumn_16 (by decide) ?_
    exact w_ireturn (pc := 17) dX0_hasColumn_17 ⟨_, rfl, rfl⟩ ⟨by rw [if_pos (Or.inl c1)], rfl⟩
  · refine w_iload_n (pc := 4) (i := 1) dX0_hasColumn_4 rfl rfl ?_
    refine w_aload_n (pc := 5) (i := 0) dX0_hasColumn_5 rfl rfl ?_
    refine w_get (pc := 6) dX0_hasColumn_6 FX0_15 hT.1 rfl ?_
    refine w_icmp_ge (pc := 9) (tgt := 16) dX0_hasColumn_9 (by decide) (fun c9 => ?_) (fun c9 => ?_)
    · refine w_iconst (pc := 16) (v := 0) dX0_hasColumn_16 (by decide) ?_
      exact w_ireturn (pc := 17) dX0_hasColumn_17 ⟨_, rfl, rfl⟩ ⟨by rw [if_pos (Or.inr c9)], rfl⟩
    · refine w_iconst (pc := 12) (v := 1) dX0_hasColumn_12 (by decide) ?_
      refine w_goto (pc := 13) (tgt := 17) dX0_hasColumn_13 (by decide) ?_
      exact w_ireturn (pc := 17) dX0_hasColumn_17 ⟨_, rfl, rfl⟩ ⟨by rw [if_neg (fun q => q.elim c1 c9)], rfl⟩
set_option maxHeartbeats 4000000 in
theorem c_at (i j : Nat) (hT : TbO tb c N cols rows f h) (hB : TbB N cols rows) (hi : i < rows) (hj : j < cols) : Ct d mX0_at 0 0 [.ref tb, .int (nI i), .int (nI j)] h (RI (f (i * cols + j)) h) := by
  refine Ct.of (by decide +kernel) rfl (Nat.le_of_ble_eq_true rfl) ?_
  show WP d mX0_at none 0 0 0 [.ref tb, .int (nI i), .int (nI j), vU] [] h _
  have hx := hB.idx hi hj
  have hr := hB.rows
  obtain ⟨b1, b2, b3, b4⟩ := hB
  refine w_iload_n (pc := 0) (i := 1) dX0_at_0 rfl rfl ?_
  refine w_aload_n (pc := 1) (i := 0) dX0_at_1 rfl rfl ?_
  refine w_get (pc := 2) dX0_at_2 FX0_15 hT.1 rfl ?_
  refine w_imul (pc := 5) dX0_at_5 ?_
  refine w_iload_n (pc := 6) (i := 2) dX0_at_6 rfl rfl ?_
  refine w_iadd (pc := 7) dX0_at_7 ?_
  refine w_topi (fun x8 e8 => ?_)
  refine w_istore_n (pc := 8) (i := 3) (ls' := [.ref tb, .int (nI i), .int (nI j), .int x8]) dX0_at_8 rfl (by decide) rfl rfl rfl ?_
  have ex : x8 = nI (i * cols + j) := by rw [e8, pk_mul, nI_add]
  refine w_iload_n (pc := 9) (i := 1) dX0_at_9 rfl rfl ?_
  refine w_if_lt (pc := 10) (tgt := 46) dX0_at_10 (by decide) (fun c10 => absurd c10 (nI_pos (by omega))) (fun c10 => ?_)
  refine w_iload_n (pc := 13) (i := 1) dX0_at_13 rfl rfl ?_
  refine w_aload_n (pc := 14) (i := 0) dX0_at_14 rfl rfl ?_
  refine w_get (pc := 15) dX0_at_15 FX0_19 hT.1 rfl ?_
  refine w_icmp_ge (pc := 18) (tgt := 46) dX0_at_18 (by decide) (fun c18 => absurd c18 (nI_ge hi (by omega))) (fun c18 => ?_)
  refine w_iload_n (pc := 21) (i := 2) dX0_at_21 rfl rfl ?_
  refine w_if_lt (pc := 22) (tgt := 46) dX0_at_22 (by decide) (fun c22 => absurd c22 (nI_pos (by omega))) (fun c22 => ?_)
  refine w_iload_n (pc := 25) (i := 2) dX0_at_25 rfl rfl ?_
  refine w_aload_n (pc := 26) (i := 0) dX0_at_26 rfl rfl ?_
  refine w_get (pc := 27) dX0_at_27 FX0_15 hT.1 rfl ?_
  refine w_icmp_ge (pc := 30) (tgt := 46) dX0_at_30 (by decide) (fun c30 => absurd c30 (nI_ge hj (by omega))) (fun c30 => ?_)
  refine w_iload_n (pc := 33) (i := 3) dX0_at_33 rfl rfl ?_
  refine w_if_lt (pc := 34) (tgt := 46) dX0_at_34 (by decide) (fun c34 => absurd c34 (by rw [ex]; exact nI_pos (by omega))) (fun c34 => ?_)
  refine w_iload_n (pc := 37) (i := 3) dX0_at_37 rfl rfl ?_
  refine w_aload_n (pc := 38) (i := 0) dX0_at_38 rfl rfl ?_
  refine w_get (pc := 39) dX0_at_39 FX0_9 hT.1 rfl ?_
  refine w_alen (pc := 42) dX0_at_42 hT.2 rfl ?_
  refine w_icmp_lt (pc := 43) (tgt := 48) dX0_at_43 (by decide) (fun c43 => ?_) (fun c43 => absurd (by rw [ex]; exact nI_lt hx (by omega)) c43)
  refine w_aload_n (pc := 48) (i := 0) dX0_at_48 rfl rfl ?_
  refine w_get (pc := 49) dX0_at_49 FX0_9 hT.1 rfl ?_
  refine w_iload_n (pc := 52) (i := 3) dX0_at_52 rfl rfl ?_
  refine w_iald (pc := 53) dX0_at_53 hT.2 (by rw [ex]; exact vp_in_nI hx (by omega)) ?_
  exact w_ireturn (pc := 54) dX0_at_54 ⟨_, rfl, rfl⟩ ⟨by rw [ex, nI_clamp (by omega)], rfl⟩
set_option maxHeartbeats 4000000 in
theorem c_put (i j : Nat) (x : Int32) (hT : TbO tb c N cols rows f h) (hB : TbB N cols rows) (hi : i < rows) (hj : j < cols) : Ct d mX0_put 0 0 [.ref tb, .int (nI i), .int (nI j), .int x] h (RV (h.set c (.inl (N, .inl (upd f (i * cols + j) x))))) := by
  refine Ct.of (by decide +kernel) rfl (Nat.le_of_ble_eq_true rfl) ?_
  show WP d mX0_put none 0 0 0 [.ref tb, .int (nI i), .int (nI j), .int x, vU] [] h _
  have hx := hB.idx hi hj
  have hr := hB.rows
  obtain ⟨b1, b2, b3, b4⟩ := hB
  refine w_iload_n (pc := 0) (i := 1) dX0_put_0 rfl rfl ?_
  refine w_aload_n (pc := 1) (i := 0) dX0_put_1 rfl rfl ?_
  refine w_get (pc := 2) dX0_put_2 FX0_15 hT.1 rfl ?_
  refine w_imul (pc := 5) dX0_put_5 ?_
  refine w_iload_n (pc := 6) (i := 2) dX0_put_6 rfl rfl ?_
  refine w_iadd (pc := 7) dX0_put_7 ?_
  refine w_topi (fun x8 e8 => ?_)
  refine w_istore (pc := 8) (i := 4) (ls' := [.ref tb, .int (nI i), .int (nI j), .int x, .int x8]) dX0_put_8 (by decide) rfl rfl rfl ?_
  have ex : x8 = nI (i * cols + j) := by rw [e8, pk_mul, nI_add]
  refine w_iload_n (pc := 10) (i := 1) dX0_put_10 rfl rfl ?_
  refine w_if_lt (pc := 11) (tgt := 49) dX0_put_11 (by decide) (fun c11 => absurd c11 (nI_pos (by omega))) (fun c11 => ?_)
  refine w_iload_n (pc := 14) (i := 1) dX0_put_14 rfl rfl ?_
  refine w_aload_n (pc := 15) (i := 0) dX0_put_15 rfl rfl ?_
  refine w_get (pc := 16) dX0_put_16 FX0_19 hT.1 rfl ?_
  refine w_icmp_ge (pc := 19) (tgt := 49) dX0_put_19 (by decide) (fun c19 => absurd c19 (nI_ge hi (by omega))) (fun c19 => ?_)
  refine w_iload_n (pc := 22) (i := 2) dX0_put_22 rfl rfl ?_
  refine w_if_lt (pc := 23) (tgt := 49) dX0_put_23 (by decide) (fun c23 => absurd c23 (nI_pos (by omega))) (fun c23 => ?_)
  refine w_iload_n (pc := 26) (i := 2) dX0_put_26 rfl rfl ?_
  refine w_aload_n (pc := 27) (i := 0) dX0_put_27 rfl rfl ?_
  refine w_get (pc := 28) dX0_put_28 FX0_15 hT.1 rfl ?_
  refine w_icmp_ge (pc := 31) (tgt := 49) dX0_put_31 (by decide) (fun c31 => absurd c31 (nI_ge hj (by omega))) (fun c31 => ?_)
  refine w_iload (pc := 34) (i := 4) dX0_put_34 rfl ?_
  refine w_if_lt (pc := 36) (tgt := 49) dX0_put_36 (by decide) (fun c36 => absurd c36 (by rw [ex]; exact nI_pos (by omega))) (fun c36 => ?_)
  refine w_iload (pc := 39) (i := 4) dX0_put_39 rfl ?_
  refine w_aload_n (pc := 41) (i := 0) dX0_put_41 rfl rfl ?_
  refine w_get (pc := 42) dX0_put_42 FX0_9 hT.1 rfl ?_
  refine w_alen (pc := 45) dX0_put_45 hT.2 rfl ?_
  refine w_icmp_lt (pc := 46) (tgt := 50) dX0_put_46 (by decide) (fun c46 => ?_) (fun c46 => absurd (by rw [ex]; exact nI_lt hx (by omega)) c46)
  refine w_aload_n (pc := 50) (i := 0) dX0_put_50 rfl rfl ?_
  refine w_get (pc := 51) dX0_put_51 FX0_9 hT.1 rfl ?_
  refine w_iload (pc := 54) (i := 4) dX0_put_54 rfl ?_
  refine w_iload_n (pc := 56) (i := 3) dX0_put_56 rfl rfl ?_
  refine w_iast (pc := 57) dX0_put_57 hT.2 (by rw [ex]; exact vp_in_nI hx (by omega)) ?_
  exact w_return (pc := 58) dX0_put_58 rfl ⟨rfl, by rw [ex, nI_clamp (by omega)]⟩
set_option maxHeartbeats 4000000 in
theorem c_addRow (hT : TbO tb c N cols rows f h) (hB : TbB N cols rows) (hnf : (rows + 1) * cols ≤ N) : Ct (d + 1) mX0_addRow 0 0 [.ref tb] h (RI (nI rows) (h.set tb (.inr (0, [.ref c, .int (nI cols), .int (nI (rows + 1))])))) := by
  refine Ct.of (by decide +kernel) rfl (Nat.le_of_ble_eq_true rfl) ?_
  show WP (d + 1) mX0_addRow none 0 0 0 [.ref tb] [] h _
  refine w_aload_n (pc := 0) (i := 0) dX0_addRow_0 rfl rfl ?_
  refine w_vI (pc := 1) dX0_addRow_1 GX0_34 hT.1 (c_isFull hT hB) rfl rfl rfl rfl ?_
  rw [if_neg (Nat.not_lt.mpr hnf)]
  refine w_if_eq (pc := 4) (tgt := 9) dX0_addRow_4 (by decide) (fun c4 => ?_) (fun c4 => absurd rfl c4)
  refine w_aload_n (pc := 9) (i := 0) dX0_addRow_9 rfl rfl ?_
  refine w_dup (pc := 10) dX0_addRow_10 rfl ?_
  refine w_get (pc := 11) dX0_addRow_11 FX0_19 hT.1 rfl ?_
  refine w_iconst (pc := 14) (v := 1) dX0_addRow_14 (by decide) ?_
  refine w_iadd (pc := 15) dX0_addRow_15 ?_
  refine w_put (pc := 16) dX0_addRow_16 UX0_19 hT.1 (Nat.le_of_ble_eq_true rfl) nv_i (fun _ q => by cases q) ?_
  refine w_aload_n (pc := 19) (i := 0) dX0_addRow_19 rfl rfl ?_
  refine w_get (pc := 20) dX0_addRow_20 FX0_19 (gss hT.1) rfl ?_
  refine w_iconst (pc := 23) (v := 1) dX0_addRow_23 (by decide) ?_
  refine w_isub (pc := 24) dX0_addRow_24 ?_
  exact w_ireturn (pc := 25) dX0_addRow_25 ⟨_, rfl, rfl⟩ ⟨by rw [nI_1, nI_pred], by rw [nI_1]; rfl⟩
set_option maxHeartbeats 4000000 in
theorem c_sum_loop (j : Nat) (hT : TbO tb c N cols rows f h) (hB : TbB N cols rows) (hj : j < cols) {P : AO → AH → Prop} (hP : P (.inl (some (.int (tSum f cols j rows)))) h) : ∀ (m k : Nat), k + m = rows → WP (d + 1) mX0_sum none 0 0 4 [.ref tb, .int (nI j), .int (tSum f cols j k), .int (nI k)] [] h P := by
  have hr := hB.rows
  intro m
  induction m with
  | zero =>
    intro k hk
    have hk : k = rows := by omega
    subst hk
    refine w_iload_n (pc := 4) (i := 3) dX0_sum_4 rfl rfl ?_
    refine w_aload_n (pc := 5) (i := 0) dX0_sum_5 rfl rfl ?_
    refine w_get (pc := 6) dX0_sum_6 FX0_19 hT.1 rfl ?_
    refine w_icmp_ge (pc := 9) (tgt := 27) dX0_sum_9 (by decide) (fun c9 => ?_) (fun c9 => absurd (nI_le (Nat.le_refl _) (by omega)) c9)
    refine w_iload_n (pc := 27) (i := 2) dX0_sum_27 rfl rfl ?_
    exact w_ireturn (pc := 28) dX0_sum_28 ⟨_, rfl, rfl⟩ hP
  | succ m ih =>
    intro k hk
    refine w_iload_n (pc := 4) (i := 3) dX0_sum_4 rfl rfl ?_
    refine w_aload_n (pc := 5) (i := 0) dX0_sum_5 rfl rfl ?_
    refine w_get (pc := 6) dX0_sum_6 FX0_19 hT.1 rfl ?_
    refine w_icmp_ge (pc := 9) (tgt := 27) dX0_sum_9 (by decide) (fun c9 => absurd c9 (nI_ge (by omega) (by omega))) (fun c9 => ?_)
    refine w_iload_n (pc := 12) (i := 2) dX0_sum_12 rfl rfl ?_
    refine w_aload_n (pc := 13) (i := 0) dX0_sum_13 rfl rfl ?_
    refine w_iload_n (pc := 14) (i := 3) dX0_sum_14 rfl rfl ?_
    refine w_iload_n (pc := 15) (i := 1) dX0_sum_15 rfl rfl ?_
    refine w_vI (pc := 16) dX0_sum_16 GX0_38 hT.1 (c_at k j hT hB (by omega) hj) rfl rfl rfl rfl ?_
    refine w_iadd (pc := 19) dX0_sum_19 ?_
    refine w_topi (fun x20 e20 => ?_)
    refine w_istore_n (pc := 20) (i := 2) (ls' := [.ref tb, .int (nI j), .int x20, .int (nI k)]) dX0_sum_20 rfl (by decide) rfl rfl rfl ?_
    obtain ⟨x21, e21⟩ : ∃ y : Int32, y = (nI k) + 1 := ⟨_, rfl⟩
    refine w_iinc (pc := 21) (i := 3) (y := x21) (ls' := [.ref tb, .int (nI j), .int x20, .int x21]) dX0_sum_21 rfl (by rw [e21]; rfl) (by decide) rfl rfl rfl ?_
    refine w_goto (pc := 24) (tgt := 4) dX0_sum_24 (by decide) ?_
    obtain rfl : x20 = tSum f cols j (k + 1) := e20
    obtain rfl : x21 = nI (k + 1) := by rw [e21]; exact nI_1 k
    exact ih (k + 1) (by omega)
set_option maxHeartbeats 4000000 in
theorem c_sum (j : Nat) (hT : TbO tb c N cols rows f h) (hB : TbB N cols rows) (hj : j < cols) : Ct (d + 1) mX0_sum 0 0 [.ref tb, .int (nI j)] h (RI (tSum f cols j rows) h) := by
  refine Ct.of (by decide +kernel) rfl (Nat.le_of_ble_eq_true rfl) ?_
  show WP (d + 1) mX0_sum none 0 0 0 [.ref tb, .int (nI j), vU, vU] [] h _
  refine w_iconst (pc := 0) (v := 0) dX0_sum_0 (by decide) ?_
  refine w_topi (fun x1 e1 => ?_)
  refine w_istore_n (pc := 1) (i := 2) (ls' := [.ref tb, .int (nI j), .int x1, vU]) dX0_sum_1 rfl (by decide) rfl rfl rfl ?_
  refine w_iconst (pc := 2) (v := 0) dX0_sum_2 (by decide) ?_
  refine w_topi (fun x3 e3 => ?_)
  refine w_istore_n (pc := 3) (i := 3) (ls' := [.ref tb, .int (nI j), .int x1, .int x3]) dX0_sum_3 rfl (by decide) rfl rfl rfl ?_
  subst e1
  subst e3
  exact c_sum_loop j hT hB hj ⟨rfl, rfl⟩ rows 0 (Nat.zero_add _)
/-- the cells while the rows behind row i move up, those below k done -/
def tMv (f : Nat → Int32) (cols i k : Nat) : Nat → Int32 := fun q => if i * cols ≤ q ∧ q < k then f (q + cols) else f q
theorem tMv_0 {f : Nat → Int32} {cols i : Nat} : tMv f cols i (i * cols) = f := by
  funext q
  unfold tMv
  rw [if_neg (by omega)]
theorem tMv_1 {f : Nat → Int32} {cols i k : Nat} (h : i * cols ≤ k) : upd (tMv f cols i k) k (f (k + cols)) = tMv f cols i (k + 1) := by
  funext q
  unfold tMv upd
  by_cases e : q = k
  · subst e
    rw [if_pos rfl, if_pos ⟨h, Nat.lt_succ_self _⟩]
  · rw [if_neg e]
    dsimp only
    by_cases e2 : i * cols ≤ q ∧ q < k
    · rw [if_pos e2, if_pos (by omega)]
    · rw [if_neg e2, if_neg (by omega)]
theorem tMv_end {f : Nat → Int32} {cols rows i : Nat} : tMv f cols i ((rows - 1) * cols) = tRem f cols rows i := rfl
set_option maxHeartbeats 4000000 in
theorem c_removeRow_loop (i : Nat) {h1 : AH} (hT0 : TbO tb c N cols (rows - 1) f h1) (hne : c ≠ tb) (hB : TbB N cols rows) (hi : i < rows) : ∀ (m k : Nat), k + m = (rows - 1) * cols → i * cols ≤ k → WP d mX0_removeRow none 0 0 53 [.ref tb, .int (nI i), .int (nI ((rows - 1) * cols)), .int (nI k)] [] (h1.set c (.inl (N, .inl (tMv f cols i k)))) (RV (h1.set c (.inl (N, .inl (tRem f cols rows i))))) := by
  obtain ⟨b1, b2, b3, b4⟩ := hB
  have hrc : (rows - 1) * cols + cols = rows * cols := by rw [← Nat.succ_mul]; congr 1; omega
  intro m
  induction m with
  | zero =>
    intro k hk hk2
    have hk : k = (rows - 1) * cols := by omega
    subst hk
    refine w_iload_n (pc := 53) (i := 3) dX0_removeRow_53 rfl rfl ?_
    refine w_iload_n (pc := 54) (i := 2) dX0_removeRow_54 rfl rfl ?_
    refine w_icmp_ge (pc := 55) (tgt := 81) dX0_removeRow_55 (by decide) (fun c55 => ?_) (fun c55 => absurd (nI_le (Nat.le_refl _) (by omega)) c55)
    exact w_return (pc := 81) dX0_removeRow_81 rfl ⟨rfl, rfl⟩
  | succ m ih =>
    intro k hk hk2
    have hT1 : TbO tb c N cols (rows - 1) (tMv f cols i k) (h1.set c (.inl (N, .inl (tMv f cols i k)))) := ⟨by rw [gsn hne]; exact hT0.1, gss hT0.2⟩
    refine w_iload_n (pc := 53) (i := 3) dX0_removeRow_53 rfl rfl ?_
    refine w_iload_n (pc := 54) (i := 2) dX0_removeRow_54 rfl rfl ?_
    refine w_icmp_ge (pc := 55) (tgt := 81) dX0_removeRow_55 (by decide) (fun c55 => absurd c55 (nI_ge (by omega) (by omega))) (fun c55 => ?_)
    refine w_aload_n (pc := 58) (i := 0) dX0_removeRow_58 rfl rfl ?_
    refine w_get (pc := 59) dX0_removeRow_59 FX0_9 hT1.1 rfl ?_
    refine w_iload_n (pc := 62) (i := 3) dX0_removeRow_62 rfl rfl ?_
    refine w_aload_n (pc := 63) (i := 0) dX0_removeRow_63 rfl rfl ?_
    refine w_get (pc := 64) dX0_removeRow_64 FX0_9 hT1.1 rfl ?_
    refine w_iload_n (pc := 67) (i := 3) dX0_removeRow_67 rfl rfl ?_
    refine w_aload_n (pc := 68) (i := 0) dX0_removeRow_68 rfl rfl ?_
    refine w_get (pc := 69) dX0_removeRow_69 FX0_15 hT1.1 rfl ?_
    refine w_iadd (pc := 72) dX0_removeRow_72 ?_
    rw [nI_add]
    refine w_iald (pc := 73) dX0_removeRow_73 hT1.2 (vp_in_nI (by omega) (by omega)) ?_
    refine w_iast (pc := 74) dX0_removeRow_74 hT1.2 (vp_in_nI (by omega) (by omega)) ?_
    rw [nI_clamp (by omega), nI_clamp (by omega), List.set_set, show tMv f cols i k (k + cols) = f (k + cols) from if_neg (by omega), tMv_1 hk2]
    obtain ⟨x75, e75⟩ : ∃ y : Int32, y = (nI k) + 1 := ⟨_, rfl⟩
    refine w_iinc (pc := 75) (i := 3) (y := x75) (ls' := [.ref tb, .int (nI i), .int (nI ((rows - 1) * cols)), .int x75]) dX0_removeRow_75 rfl (by rw [e75]; rfl) (by decide) rfl rfl rfl ?_
    refine w_goto (pc := 78) (tgt := 53) dX0_removeRow_78 (by decide) ?_
    obtain rfl : x75 = nI (k + 1) := by rw [e75]; exact nI_1 k
    exact ih (k + 1) (by omega) (by omega)
set_option maxHeartbeats 4000000 in
theorem c_removeRow (i : Nat) (hT : TbO tb c N cols rows f h) (hne : c ≠ tb) (hB : TbB N cols rows) (hi : i < rows) (hd : 1 ≤ d) : Ct d mX0_removeRow 0 0 [.ref tb, .int (nI i)] h (RV ((h.set tb (.inr (0, [.ref c, .int (nI cols), .int (nI (rows - 1))]))).set c (.inl (N, .inl (tRem f cols rows i))))) := by
  refine Ct.of (by decide +kernel) rfl (Nat.le_of_ble_eq_true rfl) ?_
  show WP d mX0_removeRow none 0 0 0 [.ref tb, .int (nI i), vU, vU] [] h _
  have hr := hB.rows
  have hB0 := hB
  obtain ⟨b1, b2, b3, b4⟩ := hB
  have hrc : (rows - 1) * cols + cols = rows * cols := by rw [← Nat.succ_mul]; congr 1; omega
  have hic : i * cols ≤ (rows - 1) * cols := Nat.mul_le_mul_right _ (by omega)
  refine w_iload_n (pc := 0) (i := 1) dX0_removeRow_0 rfl rfl ?_
  refine w_if_lt (pc := 1) (tgt := 12) dX0_removeRow_1 (by decide) (fun c1 => absurd c1 (nI_pos (by omega))) (fun c1 => ?_)
  refine w_iload_n (pc := 4) (i := 1) dX0_removeRow_4 rfl rfl ?_
  refine w_aload_n (pc := 5) (i := 0) dX0_removeRow_5 rfl rfl ?_
  refine w_get (pc := 6) dX0_removeRow_6 FX0_19 hT.1 rfl ?_
  refine w_icmp_lt (pc := 9) (tgt := 13) dX0_removeRow_9 (by decide) (fun c9 => ?_) (fun c9 => absurd (nI_lt hi (by omega)) c9)
  refine w_aload_n (pc := 13) (i := 0) dX0_removeRow_13 rfl rfl ?_
  refine w_dup (pc := 14) dX0_removeRow_14 rfl ?_
  refine w_get (pc := 15) dX0_removeRow_15 FX0_19 hT.1 rfl ?_
  refine w_iconst (pc := 18) (v := 1) dX0_removeRow_18 (by decide) ?_
  refine w_isub (pc := 19) dX0_removeRow_19 ?_
  refine w_put (pc := 20) dX0_removeRow_20 UX0_19 hT.1 (Nat.le_of_ble_eq_true rfl) nv_i (fun _ q => by cases q) ?_
  rw [show nI rows - 1 = nI (rows - 1) from pk_sub (a := rows) (b := 1) (by omega)]
  have hT1 : TbO tb c N cols (rows - 1) f (h.set tb (.inr (0, [.ref c, .int (nI cols), .int (nI (rows - 1))]))) := ⟨gss hT.1, by rw [gsn (Ne.symm hne)]; exact hT.2⟩
  show WP d mX0_removeRow none 0 0 23 _ _ (h.set tb (.inr (0, [.ref c, .int (nI cols), .int (nI (rows - 1))]))) _
  refine w_aload_n (pc := 23) (i := 0) dX0_removeRow_23 rfl rfl ?_
  refine w_get (pc := 24) dX0_removeRow_24 FX0_19 hT1.1 rfl ?_
  refine w_aload_n (pc := 27) (i := 0) dX0_removeRow_27 rfl rfl ?_
  refine w_get (pc := 28) dX0_removeRow_28 FX0_15 hT1.1 rfl ?_
  refine w_imul (pc := 31) dX0_removeRow_31 ?_
  refine w_aload_n (pc := 32) (i := 0) dX0_removeRow_32 rfl rfl ?_
  refine w_get (pc := 33) dX0_removeRow_33 FX0_9 hT1.1 rfl ?_
  refine w_alen (pc := 36) dX0_removeRow_36 hT1.2 rfl ?_
  refine w_aload_n (pc := 37) (i := 0) dX0_removeRow_37 rfl rfl ?_
  refine w_get (pc := 38) dX0_removeRow_38 FX0_15 hT1.1 rfl ?_
  refine w_isub (pc := 41) dX0_removeRow_41 ?_
  refine w_min (pc := 42) dX0_removeRow_42 LX0_22 hd rfl (Nat.le_of_ble_eq_true rfl) ?_
  rw [pk_mul, show Int32.ofNat (N, (Sum.inl f : (Nat → Int32) ⊕ _)).1 - nI cols = nI (N - cols) from pk_sub (by omega), if_neg (nI_nlt (by omega) (by omega))]
  refine w_topi (fun x45 e45 => ?_)
  refine w_istore_n (pc := 45) (i := 2) (ls' := [.ref tb, .int (nI i), .int x45, vU]) dX0_removeRow_45 rfl (by decide) rfl rfl rfl ?_
  refine w_iload_n (pc := 46) (i := 1) dX0_removeRow_46 rfl rfl ?_
  refine w_aload_n (pc := 47) (i := 0) dX0_removeRow_47 rfl rfl ?_
  refine w_get (pc := 48) dX0_removeRow_48 FX0_15 hT1.1 rfl ?_
  refine w_imul (pc := 51) dX0_removeRow_51 ?_
  rw [pk_mul]
  refine w_topi (fun x52 e52 => ?_)
  refine w_istore_n (pc := 52) (i := 3) (ls' := [.ref tb, .int (nI i), .int x45, .int x52]) dX0_removeRow_52 rfl (by decide) rfl rfl rfl ?_
  subst e45
  subst e52
  have hL := c_removeRow_loop (d := d) i hT1 hne hB0 hi ((rows - 1) * cols - i * cols) (i * cols) (by omega) (Nat.le_refl _)
  rw [tMv_0, gself hT1.2] at hL
  exact hL
set_option maxHeartbeats 4000000 in
theorem c_copyFrom {ub uc urows : Nat} {g : Nat → Int32} (hT : TbO tb c N cols rows f h) (hU : TbO ub uc N cols urows g h) (hB : TbB N cols rows) (h1 : ub ≠ c) (h2 : tb ≠ c) (hd : 2 ≤ d) : Ct d mX0_copyFrom 0 0 [.ref tb, .ref ub] h (RV ((h.set c (.inl (N, .inl (va_cpy g f 0 0 N)))).set tb (.inr (0, [.ref c, .int (nI cols), .int (nI urows)])))) := by
  refine Ct.of (by decide +kernel) rfl (Nat.le_of_ble_eq_true rfl) ?_
  show WP d mX0_copyFrom none 0 0 0 [.ref tb, .ref ub] [] h _
  have hr := hB.rows
  obtain ⟨b1, b2, b3, b4⟩ := hB
  refine w_aload_n (pc := 0) (i := 1) dX0_copyFrom_0 rfl rfl ?_
  refine w_get (pc := 1) dX0_copyFrom_1 FX0_9 hU.1 rfl ?_
  refine w_iconst (pc := 4) (v := 0) dX0_copyFrom_4 (by decide) ?_
  refine w_aload_n (pc := 5) (i := 0) dX0_copyFrom_5 rfl rfl ?_
  refine w_get (pc := 6) dX0_copyFrom_6 FX0_9 hT.1 rfl ?_
  refine w_iconst (pc := 9) (v := 0) dX0_copyFrom_9 (by decide) ?_
  refine w_aload_n (pc := 10) (i := 0) dX0_copyFrom_10 rfl rfl ?_
  refine w_get (pc := 11) dX0_copyFrom_11 FX0_9 hT.1 rfl ?_
  refine w_alen (pc := 14) dX0_copyFrom_14 hT.2 rfl ?_
  refine w_aload_n (pc := 15) (i := 1) dX0_copyFrom_15 rfl rfl ?_
  refine w_get (pc := 16) dX0_copyFrom_16 FX0_9 hU.1 rfl ?_
  refine w_alen (pc := 19) dX0_copyFrom_19 hU.2 rfl ?_
  refine w_min (pc := 20) dX0_copyFrom_20 LX0_22 (by omega) rfl (Nat.le_of_ble_eq_true rfl) ?_
  rw [if_neg (show ¬ Int32.ofNat (N, (Sum.inl g : (Nat → Int32) ⊕ _)).1 < Int32.ofNat (N, (Sum.inl f : (Nat → Int32) ⊕ _)).1 from nI_nlt (Nat.le_refl _) (by show N < 2 ^ 31; omega))]
  refine w_copy (pc := 23) (sp := 0) (dp := 0) (cn := N) dX0_copyFrom_23 LX0_28 hd rfl (Nat.le_of_ble_eq_true rfl) hU.2 hT.2 (by omega) (by omega) (by omega) (by omega) ?_
  refine w_aload_n (pc := 26) (i := 0) dX0_copyFrom_26 rfl rfl ?_
  refine w_aload_n (pc := 27) (i := 1) dX0_copyFrom_27 rfl rfl ?_
  refine w_get (pc := 28) dX0_copyFrom_28 FX0_19 (by rw [gsn (Ne.symm h1)]; exact hU.1) rfl ?_
  refine w_put (pc := 31) dX0_copyFrom_31 UX0_19 (by rw [gsn (Ne.symm h2)]; exact hT.1) (Nat.le_of_ble_eq_true rfl) nv_i (fun _ q => by cases q) ?_
  exact w_return (pc := 34) dX0_copyFrom_34 rfl ⟨rfl, rfl⟩
set_option maxHeartbeats 4000000 in
theorem c_Table_init (x y : Int32) (hh : h[tb]? = some (.inr (0, [.null, .int 0, .int 0]))) (hd : 1 ≤ d) : Ct d mX0_init 0 0 [.ref tb, .ref c, .int x, .int y] h (NT (fun v h1 => v = none ∧ h1 = h.set tb (.inr (0, [.ref c, .int x, .int y])))) := by
  refine Ct.of (by decide +kernel) rfl (Nat.le_of_ble_eq_true rfl) ?_
  show WP d mX0_init none 0 0 0 [.ref tb, .ref c, .int x, .int y] [] h _
  refine w_aload_n (pc := 0) (i := 0) dX0_init_0 rfl rfl ?_
  refine w_objInit (pc := 1) dX0_init_1 LX0_3 hd rfl ?_
  refine w_aload_n (pc := 4) (i := 0) dX0_init_4 rfl rfl ?_
  refine w_aload_n (pc := 5) (i := 1) dX0_init_5 rfl rfl ?_
  refine w_putF (pc := 6) dX0_init_6 UX0_9 rfl hh (Nat.le_of_ble_eq_true rfl) nv_a (fun _ q => by cases q) ?_
  refine w_aload_n (pc := 9) (i := 0) dX0_init_9 rfl rfl ?_
  refine w_iload_n (pc := 10) (i := 2) dX0_init_10 rfl rfl ?_
  refine w_putF (pc := 11) dX0_init_11 UX0_15 rfl (gss hh) (Nat.le_of_ble_eq_true rfl) nv_i (fun _ q => by cases q) ?_
  rw [List.set_set]
  refine w_aload_n (pc := 14) (i := 0) dX0_init_14 rfl rfl ?_
  refine w_iload_n (pc := 15) (i := 3) dX0_init_15 rfl rfl ?_
  refine w_put (pc := 16) dX0_init_16 UX0_19 (gss hh) (Nat.le_of_ble_eq_true rfl) nv_i (fun _ q => by cases q) ?_
  rw [List.set_set]
  exact w_return (pc := 19) dX0_init_19 rfl ⟨none, rfl, rfl, rfl⟩
end TABLE
end
section
/-! Works: the state, and what reads it -/
/-- the cells of the tables (0 moulds, 1 makers, 2 boards, 3 saggars, 4 orders), of the drying (5) and the whole ones (6); the tables' rows; the numbers (0 day, 1 clay, 2 coals, 3 coins, 4 made, 5 broken, 6 served, 7 lost, 8 watched, 9 isWatchedServed) -/
abbrev WS : Type := (Nat → Nat → Int32) × (Nat → Nat) × (Nat → Int32)
def uA (σ : WS) (t : Nat) (f : Nat → Int32) : WS := (fun a => if a = t then f else σ.1 a, σ.2.1, σ.2.2)
def uR (σ : WS) (t r : Nat) : WS := (σ.1, fun a => if a = t then r else σ.2.1 a, σ.2.2)
def uS (σ : WS) (k : Nat) (x : Int32) : WS := (σ.1, σ.2.1, fun a => if a = k then x else σ.2.2 a)
def wkF (b : Nat) (σ : WS) : List Value := [.ref (b + 1), .ref (b + 3), .ref (b + 5), .ref (b + 7), .ref (b + 9), .ref (b + 11), .ref (b + 12), .int (σ.2.2 0), .int (σ.2.2 1), .int (σ.2.2 2), .int (σ.2.2 3), .int (σ.2.2 4), .int (σ.2.2 5), .int (σ.2.2 6), .int (σ.2.2 7), .int (σ.2.2 8), .int (σ.2.2 9)]
def Wk (b : Nat) (σ : WS) (h : AH) : Prop :=
  h[b]? = some (.inr (1, wkF b σ)) ∧ TbO (b + 1) (b + 2) 18 3 (σ.2.1 0) (σ.1 0) h ∧ TbO (b + 3) (b + 4) 10 2 (σ.2.1 1) (σ.1 1) h ∧ TbO (b + 5) (b + 6) 40 4 (σ.2.1 2) (σ.1 2) h ∧ TbO (b + 7) (b + 8) 24 4 (σ.2.1 3) (σ.1 3) h ∧ TbO (b + 9) (b + 10) 32 4 (σ.2.1 4) (σ.1 4) h ∧ h[b + 11]? = some (.inl (7, .inl (σ.1 5))) ∧ h[b + 12]? = some (.inl (25, .inl (σ.1 6)))
def WB (σ : WS) : Prop := σ.2.1 0 ≤ 6 ∧ σ.2.1 1 ≤ 5 ∧ σ.2.1 2 ≤ 10 ∧ σ.2.1 3 = 6 ∧ σ.2.1 4 ≤ 8
theorem WB.b0 {σ : WS} (h : WB σ) : TbB 18 3 (σ.2.1 0) := ⟨by have := h.1; omega, by omega, by omega, by omega⟩
theorem WB.b1 {σ : WS} (h : WB σ) : TbB 10 2 (σ.2.1 1) := ⟨by have := h.2.1; omega, by omega, by omega, by omega⟩
theorem WB.b2 {σ : WS} (h : WB σ) : TbB 40 4 (σ.2.1 2) := ⟨by have := h.2.2.1; omega, by omega, by omega, by omega⟩
theorem WB.b3 {σ : WS} (h : WB σ) : TbB 24 4 (σ.2.1 3) := ⟨by have := h.2.2.2.1; omega, by omega, by omega, by omega⟩
theorem WB.b4 {σ : WS} (h : WB σ) : TbB 32 4 (σ.2.1 4) := ⟨by have := h.2.2.2.2; omega, by omega, by omega, by omega⟩
theorem Wk.t0 {b : Nat} {σ : WS} {h1 : AH} (h : Wk b σ h1) : TbO (b + 1) (b + 2) 18 3 (σ.2.1 0) (σ.1 0) h1 := h.2.1
theorem Wk.t1 {b : Nat} {σ : WS} {h1 : AH} (h : Wk b σ h1) : TbO (b + 3) (b + 4) 10 2 (σ.2.1 1) (σ.1 1) h1 := h.2.2.1
theorem Wk.t2 {b : Nat} {σ : WS} {h1 : AH} (h : Wk b σ h1) : TbO (b + 5) (b + 6) 40 4 (σ.2.1 2) (σ.1 2) h1 := h.2.2.2.1
theorem Wk.t3 {b : Nat} {σ : WS} {h1 : AH} (h : Wk b σ h1) : TbO (b + 7) (b + 8) 24 4 (σ.2.1 3) (σ.1 3) h1 := h.2.2.2.2.1
theorem Wk.t4 {b : Nat} {σ : WS} {h1 : AH} (h : Wk b σ h1) : TbO (b + 9) (b + 10) 32 4 (σ.2.1 4) (σ.1 4) h1 := h.2.2.2.2.2.1
theorem Wk.dr {b : Nat} {σ : WS} {h1 : AH} (h : Wk b σ h1) : h1[b + 11]? = some (.inl (7, .inl (σ.1 5))) := h.2.2.2.2.2.2.1
theorem Wk.wh {b : Nat} {σ : WS} {h1 : AH} (h : Wk b σ h1) : h1[b + 12]? = some (.inl (25, .inl (σ.1 6))) := h.2.2.2.2.2.2.2
theorem Wk.c0 {b : Nat} {σ : WS} {h1 : AH} (h : Wk b σ h1) (f : Nat → Int32) : Wk b (uA σ 0 f) (h1.set (b + 2) (.inl (18, .inl f))) := ⟨(by rw [gsn (by omega)]; exact h.1), ⟨(by rw [gsn (by omega)]; exact h.2.1.1), (gss h.2.1.2)⟩, ⟨(by rw [gsn (by omega)]; exact h.2.2.1.1), (by rw [gsn (by omega)]; exact h.2.2.1.2)⟩, ⟨(by rw [gsn (by omega)]; exact h.2.2.2.1.1), (by rw [gsn (by omega)]; exact h.2.2.2.1.2)⟩, ⟨(by rw [gsn (by omega)]; exact h.2.2.2.2.1.1), (by rw [gsn (by omega)]; exact h.2.2.2.2.1.2)⟩, ⟨(by rw [gsn (by omega)]; exact h.2.2.2.2.2.1.1), (by rw [gsn (by omega)]; exact h.2.2.2.2.2.1.2)⟩, (by rw [gsn (by omega)]; exact h.2.2.2.2.2.2.1), (by rw [gsn (by omega)]; exact h.2.2.2.2.2.2.2)⟩
theorem Wk.r0 {b : Nat} {σ : WS} {h1 : AH} (h : Wk b σ h1) (r : Nat) : Wk b (uR σ 0 r) (h1.set (b + 1) (.inr (0, [.ref (b + 2), .int (nI 3), .int (nI r)]))) := ⟨(by rw [gsn (by omega)]; exact h.1), ⟨(gss h.2.1.1), (by rw [gsn (by omega)]; exact h.2.1.2)⟩, ⟨(by rw [gsn (by omega)]; exact h.2.2.1.1), (by rw [gsn (by omega)]; exact h.2.2.1.2)⟩, ⟨(by rw [gsn (by omega)]; exact h.2.2.2.1.1), (by rw [gsn (by omega)]; exact h.2.2.2.1.2)⟩, ⟨(by rw [gsn (by omega)]; exact h.2.2.2.2.1.1), (by rw [gsn (by omega)]; exact h.2.2.2.2.1.2)⟩, ⟨(by rw [gsn (by omega)]; exact h.2.2.2.2.2.1.1), (by rw [gsn (by omega)]; exact h.2.2.2.2.2.1.2)⟩, (by rw [gsn (by omega)]; exact h.2.2.2.2.2.2.1), (by rw [gsn (by omega)]; exact h.2.2.2.2.2.2.2)⟩
theorem Wk.c1 {b : Nat} {σ : WS} {h1 : AH} (h : Wk b σ h1) (f : Nat → Int32) : Wk b (uA σ 1 f) (h1.set (b + 4) (.inl (10, .inl f))) := ⟨(by rw [gsn (by omega)]; exact h.1), ⟨(by rw [gsn (by omega)]; exact h.2.1.1), (by rw [gsn (by omega)]; exact h.2.1.2)⟩, ⟨(by rw [gsn (by omega)]; exact h.2.2.1.1), (gss h.2.2.1.2)⟩, ⟨(by rw [gsn (by omega)]; exact h.2.2.2.1.1), (by rw [gsn (by omega)]; exact h.2.2.2.1.2)⟩, ⟨(by rw [gsn (by omega)]; exact h.2.2.2.2.1.1), (by rw [gsn (by omega)]; exact h.2.2.2.2.1.2)⟩, ⟨(by rw [gsn (by omega)]; exact h.2.2.2.2.2.1.1), (by rw [gsn (by omega)]; exact h.2.2.2.2.2.1.2)⟩, (by rw [gsn (by omega)]; exact h.2.2.2.2.2.2.1), (by rw [gsn (by omega)]; exact h.2.2.2.2.2.2.2)⟩
theorem Wk.r1 {b : Nat} {σ : WS} {h1 : AH} (h : Wk b σ h1) (r : Nat) : Wk b (uR σ 1 r) (h1.set (b + 3) (.inr (0, [.ref (b + 4), .int (nI 2), .int (nI r)]))) := ⟨(by rw [gsn (by omega)]; exact h.1), ⟨(by rw [gsn (by omega)]; exact h.2.1.1), (by rw [gsn (by omega)]; exact h.2.1.2)⟩, ⟨(gss h.2.2.1.1), (by rw [gsn (by omega)]; exact h.2.2.1.2)⟩, ⟨(by rw [gsn (by omega)]; exact h.2.2.2.1.1), (by rw [gsn (by omega)]; exact h.2.2.2.1.2)⟩, ⟨(by rw [gsn (by omega)]; exact h.2.2.2.2.1.1), (by rw [gsn (by omega)]; exact h.2.2.2.2.1.2)⟩, ⟨(by rw [gsn (by omega)]; exact h.2.2.2.2.2.1.1), (by rw [gsn (by omega)]; exact h.2.2.2.2.2.1.2)⟩, (by rw [gsn (by omega)]; exact h.2.2.2.2.2.2.1), (by rw [gsn (by omega)]; exact h.2.2.2.2.2.2.2)⟩
theorem Wk.c2 {b : Nat} {σ : WS} {h1 : AH} (h : Wk b σ h1) (f : Nat → Int32) : Wk b (uA σ 2 f) (h1.set (b + 6) (.inl (40, .inl f))) := ⟨(by rw [gsn (by omega)]; exact h.1), ⟨(by rw [gsn (by omega)]; exact h.2.1.1), (by rw [gsn (by omega)]; exact h.2.1.2)⟩, ⟨(by rw [gsn (by omega)]; exact h.2.2.1.1), (by rw [gsn (by omega)]; exact h.2.2.1.2)⟩, ⟨(by rw [gsn (by omega)]; exact h.2.2.2.1.1), (gss h.2.2.2.1.2)⟩, ⟨(by rw [gsn (by omega)]; exact h.2.2.2.2.1.1), (by rw [gsn (by omega)]; exact h.2.2.2.2.1.2)⟩, ⟨(by rw [gsn (by omega)]; exact h.2.2.2.2.2.1.1), (by rw [gsn (by omega)]; exact h.2.2.2.2.2.1.2)⟩, (by rw [gsn (by omega)]; exact h.2.2.2.2.2.2.1), (by rw [gsn (by omega)]; exact h.2.2.2.2.2.2.2)⟩
theorem Wk.r2 {b : Nat} {σ : WS} {h1 : AH} (h : Wk b σ h1) (r : Nat) : Wk b (uR σ 2 r) (h1.set (b + 5) (.inr (0, [.ref (b + 6), .int (nI 4), .int (nI r)]))) := ⟨(by rw [gsn (by omega)]; exact h.1), ⟨(by rw [gsn (by omega)]; exact h.2.1.1), (by rw [gsn (by omega)]; exact h.2.1.2)⟩, ⟨(by rw [gsn (by omega)]; exact h.2.2.1.1), (by rw [gsn (by omega)]; exact h.2.2.1.2)⟩, ⟨(gss h.2.2.2.1.1), (by rw [gsn (by omega)]; exact h.2.2.2.1.2)⟩, ⟨(by rw [gsn (by omega)]; exact h.2.2.2.2.1.1), (by rw [gsn (by omega)]; exact h.2.2.2.2.1.2)⟩, ⟨(by rw [gsn (by omega)]; exact h.2.2.2.2.2.1.1), (by rw [gsn (by omega)]; exact h.2.2.2.2.2.1.2)⟩, (by rw [gsn (by omega)]; exact h.2.2.2.2.2.2.1), (by rw [gsn (by omega)]; exact h.2.2.2.2.2.2.2)⟩
theorem Wk.c3 {b : Nat} {σ : WS} {h1 : AH} (h : Wk b σ h1) (f : Nat → Int32) : Wk b (uA σ 3 f) (h1.set (b + 8) (.inl (24, .inl f))) := ⟨(by rw [gsn (by omega)]; exact h.1), ⟨(by rw [gsn (by omega)]; exact h.2.1.1), (by rw [gsn (by omega)]; exact h.2.1.2)⟩, ⟨(by rw [gsn (by omega)]; exact h.2.2.1.1), (by rw [gsn (by omega)]; exact h.2.2.1.2)⟩, ⟨(by rw [gsn (by omega)]; exact h.2.2.2.1.1), (by rw [gsn (by omega)]; exact h.2.2.2.1.2)⟩, ⟨(by rw [gsn (by omega)]; exact h.2.2.2.2.1.1), (gss h.2.2.2.2.1.2)⟩, ⟨(by rw [gsn (by omega)]; exact h.2.2.2.2.2.1.1), (by rw [gsn (by omega)]; exact h.2.2.2.2.2.1.2)⟩, (by rw [gsn (by omega)]; exact h.2.2.2.2.2.2.1), (by rw [gsn (by omega)]; exact h.2.2.2.2.2.2.2)⟩
theorem Wk.r3 {b : Nat} {σ : WS} {h1 : AH} (h : Wk b σ h1) (r : Nat) : Wk b (uR σ 3 r) (h1.set (b + 7) (.inr (0, [.ref (b + 8), .int (nI 4), .int (nI r)]))) := ⟨(by rw [gsn (by omega)]; exact h.1), ⟨(by rw [gsn (by omega)]; exact h.2.1.1), (by rw [gsn (by omega)]; exact h.2.1.2)⟩, ⟨(by rw [gsn (by omega)]; exact h.2.2.1.1), (by rw [gsn (by omega)]; exact h.2.2.1.2)⟩, ⟨(by rw [gsn (by omega)]; exact h.2.2.2.1.1), (by rw [gsn (by omega)]; exact h.2.2.2.1.2)⟩, ⟨(gss h.2.2.2.2.1.1), (by rw [gsn (by omega)]; exact h.2.2.2.2.1.2)⟩, ⟨(by rw [gsn (by omega)]; exact h.2.2.2.2.2.1.1), (by rw [gsn (by omega)]; exact h.2.2.2.2.2.1.2)⟩, (by rw [gsn (by omega)]; exact h.2.2.2.2.2.2.1), (by rw [gsn (by omega)]; exact h.2.2.2.2.2.2.2)⟩
theorem Wk.c4 {b : Nat} {σ : WS} {h1 : AH} (h : Wk b σ h1) (f : Nat → Int32) : Wk b (uA σ 4 f) (h1.set (b + 10) (.inl (32, .inl f))) := ⟨(by rw [gsn (by omega)]; exact h.1), ⟨(by rw [gsn (by omega)]; exact h.2.1.1), (by rw [gsn (by omega)]; exact h.2.1.2)⟩, ⟨(by rw [gsn (by omega)]; exact h.2.2.1.1), (by rw [gsn (by omega)]; exact h.2.2.1.2)⟩, ⟨(by rw [gsn (by omega)]; exact h.2.2.2.1.1), (by rw [gsn (by omega)]; exact h.2.2.2.1.2)⟩, ⟨(by rw [gsn (by omega)]; exact h.2.2.2.2.1.1), (by rw [gsn (by omega)]; exact h.2.2.2.2.1.2)⟩, ⟨(by rw [gsn (by omega)]; exact h.2.2.2.2.2.1.1), (gss h.2.2.2.2.2.1.2)⟩, (by rw [gsn (by omega)]; exact h.2.2.2.2.2.2.1), (by rw [gsn (by omega)]; exact h.2.2.2.2.2.2.2)⟩
theorem Wk.r4 {b : Nat} {σ : WS} {h1 : AH} (h : Wk b σ h1) (r : Nat) : Wk b (uR σ 4 r) (h1.set (b + 9) (.inr (0, [.ref (b + 10), .int (nI 4), .int (nI r)]))) := ⟨(by rw [gsn (by omega)]; exact h.1), ⟨(by rw [gsn (by omega)]; exact h.2.1.1), (by rw [gsn (by omega)]; exact h.2.1.2)⟩, ⟨(by rw [gsn (by omega)]; exact h.2.2.1.1), (by rw [gsn (by omega)]; exact h.2.2.1.2)⟩, ⟨(by rw [gsn (by omega)]; exact h.2.2.2.1.1), (by rw [gsn (by omega)]; exact h.2.2.2.1.2)⟩, ⟨(by rw [gsn (by omega)]; exact h.2.2.2.2.1.1), (by rw [gsn (by omega)]; exact h.2.2.2.2.1.2)⟩, ⟨(gss h.2.2.2.2.2.1.1), (by rw [gsn (by omega)]; exact h.2.2.2.2.2.1.2)⟩, (by rw [gsn (by omega)]; exact h.2.2.2.2.2.2.1), (by rw [gsn (by omega)]; exact h.2.2.2.2.2.2.2)⟩
theorem Wk.cdr {b : Nat} {σ : WS} {h1 : AH} (h : Wk b σ h1) (f : Nat → Int32) : Wk b (uA σ 5 f) (h1.set (b + 11) (.inl (7, .inl f))) := ⟨(by rw [gsn (by omega)]; exact h.1), ⟨(by rw [gsn (by omega)]; exact h.2.1.1), (by rw [gsn (by omega)]; exact h.2.1.2)⟩, ⟨(by rw [gsn (by omega)]; exact h.2.2.1.1), (by rw [gsn (by omega)]; exact h.2.2.1.2)⟩, ⟨(by rw [gsn (by omega)]; exact h.2.2.2.1.1), (by rw [gsn (by omega)]; exact h.2.2.2.1.2)⟩, ⟨(by rw [gsn (by omega)]; exact h.2.2.2.2.1.1), (by rw [gsn (by omega)]; exact h.2.2.2.2.1.2)⟩, ⟨(by rw [gsn (by omega)]; exact h.2.2.2.2.2.1.1), (by rw [gsn (by omega)]; exact h.2.2.2.2.2.1.2)⟩, (gss h.2.2.2.2.2.2.1), (by rw [gsn (by omega)]; exact h.2.2.2.2.2.2.2)⟩
theorem Wk.cwh {b : Nat} {σ : WS} {h1 : AH} (h : Wk b σ h1) (f : Nat → Int32) : Wk b (uA σ 6 f) (h1.set (b + 12) (.inl (25, .inl f))) := ⟨(by rw [gsn (by omega)]; exact h.1), ⟨(by rw [gsn (by omega)]; exact h.2.1.1), (by rw [gsn (by omega)]; exact h.2.1.2)⟩, ⟨(by rw [gsn (by omega)]; exact h.2.2.1.1), (by rw [gsn (by omega)]; exact h.2.2.1.2)⟩, ⟨(by rw [gsn (by omega)]; exact h.2.2.2.1.1), (by rw [gsn (by omega)]; exact h.2.2.2.1.2)⟩, ⟨(by rw [gsn (by omega)]; exact h.2.2.2.2.1.1), (by rw [gsn (by omega)]; exact h.2.2.2.2.1.2)⟩, ⟨(by rw [gsn (by omega)]; exact h.2.2.2.2.2.1.1), (by rw [gsn (by omega)]; exact h.2.2.2.2.2.1.2)⟩, (by rw [gsn (by omega)]; exact h.2.2.2.2.2.2.1), (gss h.2.2.2.2.2.2.2)⟩
theorem Wk.s0 {b : Nat} {σ : WS} {h1 : AH} (h : Wk b σ h1) (x : Int32) : Wk b (uS σ 0 x) (h1.set b (.inr (1, (wkF b σ).set 7 (.int x)))) := ⟨(gss h.1), ⟨(by rw [gsn (by omega)]; exact h.2.1.1), (by rw [gsn (by omega)]; exact h.2.1.2)⟩, ⟨(by rw [gsn (by omega)]; exact h.2.2.1.1), (by rw [gsn (by omega)]; exact h.2.2.1.2)⟩, ⟨(by rw [gsn (by omega)]; exact h.2.2.2.1.1), (by rw [gsn (by omega)]; exact h.2.2.2.1.2)⟩, ⟨(by rw [gsn (by omega)]; exact h.2.2.2.2.1.1), (by rw [gsn (by omega)]; exact h.2.2.2.2.1.2)⟩, ⟨(by rw [gsn (by omega)]; exact h.2.2.2.2.2.1.1), (by rw [gsn (by omega)]; exact h.2.2.2.2.2.1.2)⟩, (by rw [gsn (by omega)]; exact h.2.2.2.2.2.2.1), (by rw [gsn (by omega)]; exact h.2.2.2.2.2.2.2)⟩
theorem Wk.s1 {b : Nat} {σ : WS} {h1 : AH} (h : Wk b σ h1) (x : Int32) : Wk b (uS σ 1 x) (h1.set b (.inr (1, (wkF b σ).set 8 (.int x)))) := ⟨(gss h.1), ⟨(by rw [gsn (by omega)]; exact h.2.1.1), (by rw [gsn (by omega)]; exact h.2.1.2)⟩, ⟨(by rw [gsn (by omega)]; exact h.2.2.1.1), (by rw [gsn (by omega)]; exact h.2.2.1.2)⟩, ⟨(by rw [gsn (by omega)]; exact h.2.2.2.1.1), (by rw [gsn (by omega)]; exact h.2.2.2.1.2)⟩, ⟨(by rw [gsn (by omega)]; exact h.2.2.2.2.1.1), (by rw [gsn (by omega)]; exact h.2.2.2.2.1.2)⟩, ⟨(by rw [gsn (by omega)]; exact h.2.2.2.2.2.1.1), (by rw [gsn (by omega)]; exact h.2.2.2.2.2.1.2)⟩, (by rw [gsn (by omega)]; exact h.2.2.2.2.2.2.1), (by rw [gsn (by omega)]; exact h.2.2.2.2.2.2.2)⟩
theorem Wk.s2 {b : Nat} {σ : WS} {h1 : AH} (h : Wk b σ h1) (x : Int32) : Wk b (uS σ 2 x) (h1.set b (.inr (1, (wkF b σ).set 9 (.int x)))) := ⟨(gss h.1), ⟨(by rw [gsn (by omega)]; exact h.2.1.1), (by rw [gsn (by omega)]; exact h.2.1.2)⟩, ⟨(by rw [gsn (by omega)]; exact h.2.2.1.1), (by rw [gsn (by omega)]; exact h.2.2.1.2)⟩, ⟨(by rw [gsn (by omega)]; exact h.2.2.2.1.1), (by rw [gsn (by omega)]; exact h.2.2.2.1.2)⟩, ⟨(by rw [gsn (by omega)]; exact h.2.2.2.2.1.1), (by rw [gsn (by omega)]; exact h.2.2.2.2.1.2)⟩, ⟨(by rw [gsn (by omega)]; exact h.2.2.2.2.2.1.1), (by rw [gsn (by omega)]; exact h.2.2.2.2.2.1.2)⟩, (by rw [gsn (by omega)]; exact h.2.2.2.2.2.2.1), (by rw [gsn (by omega)]; exact h.2.2.2.2.2.2.2)⟩
theorem Wk.s3 {b : Nat} {σ : WS} {h1 : AH} (h : Wk b σ h1) (x : Int32) : Wk b (uS σ 3 x) (h1.set b (.inr (1, (wkF b σ).set 10 (.int x)))) := ⟨(gss h.1), ⟨(by rw [gsn (by omega)]; exact h.2.1.1), (by rw [gsn (by omega)]; exact h.2.1.2)⟩, ⟨(by rw [gsn (by omega)]; exact h.2.2.1.1), (by rw [gsn (by omega)]; exact h.2.2.1.2)⟩, ⟨(by rw [gsn (by omega)]; exact h.2.2.2.1.1), (by rw [gsn (by omega)]; exact h.2.2.2.1.2)⟩, ⟨(by rw [gsn (by omega)]; exact h.2.2.2.2.1.1), (by rw [gsn (by omega)]; exact h.2.2.2.2.1.2)⟩, ⟨(by rw [gsn (by omega)]; exact h.2.2.2.2.2.1.1), (by rw [gsn (by omega)]; exact h.2.2.2.2.2.1.2)⟩, (by rw [gsn (by omega)]; exact h.2.2.2.2.2.2.1), (by rw [gsn (by omega)]; exact h.2.2.2.2.2.2.2)⟩
theorem Wk.s4 {b : Nat} {σ : WS} {h1 : AH} (h : Wk b σ h1) (x : Int32) : Wk b (uS σ 4 x) (h1.set b (.inr (1, (wkF b σ).set 11 (.int x)))) := ⟨(gss h.1), ⟨(by rw [gsn (by omega)]; exact h.2.1.1), (by rw [gsn (by omega)]; exact h.2.1.2)⟩, ⟨(by rw [gsn (by omega)]; exact h.2.2.1.1), (by rw [gsn (by omega)]; exact h.2.2.1.2)⟩, ⟨(by rw [gsn (by omega)]; exact h.2.2.2.1.1), (by rw [gsn (by omega)]; exact h.2.2.2.1.2)⟩, ⟨(by rw [gsn (by omega)]; exact h.2.2.2.2.1.1), (by rw [gsn (by omega)]; exact h.2.2.2.2.1.2)⟩, ⟨(by rw [gsn (by omega)]; exact h.2.2.2.2.2.1.1), (by rw [gsn (by omega)]; exact h.2.2.2.2.2.1.2)⟩, (by rw [gsn (by omega)]; exact h.2.2.2.2.2.2.1), (by rw [gsn (by omega)]; exact h.2.2.2.2.2.2.2)⟩
theorem Wk.s5 {b : Nat} {σ : WS} {h1 : AH} (h : Wk b σ h1) (x : Int32) : Wk b (uS σ 5 x) (h1.set b (.inr (1, (wkF b σ).set 12 (.int x)))) := ⟨(gss h.1), ⟨(by rw [gsn (by omega)]; exact h.2.1.1), (by rw [gsn (by omega)]; exact h.2.1.2)⟩, ⟨(by rw [gsn (by omega)]; exact h.2.2.1.1), (by rw [gsn (by omega)]; exact h.2.2.1.2)⟩, ⟨(by rw [gsn (by omega)]; exact h.2.2.2.1.1), (by rw [gsn (by omega)]; exact h.2.2.2.1.2)⟩, ⟨(by rw [gsn (by omega)]; exact h.2.2.2.2.1.1), (by rw [gsn (by omega)]; exact h.2.2.2.2.1.2)⟩, ⟨(by rw [gsn (by omega)]; exact h.2.2.2.2.2.1.1), (by rw [gsn (by omega)]; exact h.2.2.2.2.2.1.2)⟩, (by rw [gsn (by omega)]; exact h.2.2.2.2.2.2.1), (by rw [gsn (by omega)]; exact h.2.2.2.2.2.2.2)⟩
theorem Wk.s6 {b : Nat} {σ : WS} {h1 : AH} (h : Wk b σ h1) (x : Int32) : Wk b (uS σ 6 x) (h1.set b (.inr (1, (wkF b σ).set 13 (.int x)))) := ⟨(gss h.1), ⟨(by rw [gsn (by omega)]; exact h.2.1.1), (by rw [gsn (by omega)]; exact h.2.1.2)⟩, ⟨(by rw [gsn (by omega)]; exact h.2.2.1.1), (by rw [gsn (by omega)]; exact h.2.2.1.2)⟩, ⟨(by rw [gsn (by omega)]; exact h.2.2.2.1.1), (by rw [gsn (by omega)]; exact h.2.2.2.1.2)⟩, ⟨(by rw [gsn (by omega)]; exact h.2.2.2.2.1.1), (by rw [gsn (by omega)]; exact h.2.2.2.2.1.2)⟩, ⟨(by rw [gsn (by omega)]; exact h.2.2.2.2.2.1.1), (by rw [gsn (by omega)]; exact h.2.2.2.2.2.1.2)⟩, (by rw [gsn (by omega)]; exact h.2.2.2.2.2.2.1), (by rw [gsn (by omega)]; exact h.2.2.2.2.2.2.2)⟩
theorem Wk.s7 {b : Nat} {σ : WS} {h1 : AH} (h : Wk b σ h1) (x : Int32) : Wk b (uS σ 7 x) (h1.set b (.inr (1, (wkF b σ).set 14 (.int x)))) := ⟨(gss h.1), ⟨(by rw [gsn (by omega)]; exact h.2.1.1), (by rw [gsn (by omega)]; exact h.2.1.2)⟩, ⟨(by rw [gsn (by omega)]; exact h.2.2.1.1), (by rw [gsn (by omega)]; exact h.2.2.1.2)⟩, ⟨(by rw [gsn (by omega)]; exact h.2.2.2.1.1), (by rw [gsn (by omega)]; exact h.2.2.2.1.2)⟩, ⟨(by rw [gsn (by omega)]; exact h.2.2.2.2.1.1), (by rw [gsn (by omega)]; exact h.2.2.2.2.1.2)⟩, ⟨(by rw [gsn (by omega)]; exact h.2.2.2.2.2.1.1), (by rw [gsn (by omega)]; exact h.2.2.2.2.2.1.2)⟩, (by rw [gsn (by omega)]; exact h.2.2.2.2.2.2.1), (by rw [gsn (by omega)]; exact h.2.2.2.2.2.2.2)⟩
theorem Wk.s8 {b : Nat} {σ : WS} {h1 : AH} (h : Wk b σ h1) (x : Int32) : Wk b (uS σ 8 x) (h1.set b (.inr (1, (wkF b σ).set 15 (.int x)))) := ⟨(gss h.1), ⟨(by rw [gsn (by omega)]; exact h.2.1.1), (by rw [gsn (by omega)]; exact h.2.1.2)⟩, ⟨(by rw [gsn (by omega)]; exact h.2.2.1.1), (by rw [gsn (by omega)]; exact h.2.2.1.2)⟩, ⟨(by rw [gsn (by omega)]; exact h.2.2.2.1.1), (by rw [gsn (by omega)]; exact h.2.2.2.1.2)⟩, ⟨(by rw [gsn (by omega)]; exact h.2.2.2.2.1.1), (by rw [gsn (by omega)]; exact h.2.2.2.2.1.2)⟩, ⟨(by rw [gsn (by omega)]; exact h.2.2.2.2.2.1.1), (by rw [gsn (by omega)]; exact h.2.2.2.2.2.1.2)⟩, (by rw [gsn (by omega)]; exact h.2.2.2.2.2.2.1), (by rw [gsn (by omega)]; exact h.2.2.2.2.2.2.2)⟩
theorem Wk.s9 {b : Nat} {σ : WS} {h1 : AH} (h : Wk b σ h1) (x : Int32) : Wk b (uS σ 9 x) (h1.set b (.inr (1, (wkF b σ).set 16 (.int x)))) := ⟨(gss h.1), ⟨(by rw [gsn (by omega)]; exact h.2.1.1), (by rw [gsn (by omega)]; exact h.2.1.2)⟩, ⟨(by rw [gsn (by omega)]; exact h.2.2.1.1), (by rw [gsn (by omega)]; exact h.2.2.1.2)⟩, ⟨(by rw [gsn (by omega)]; exact h.2.2.2.1.1), (by rw [gsn (by omega)]; exact h.2.2.2.1.2)⟩, ⟨(by rw [gsn (by omega)]; exact h.2.2.2.2.1.1), (by rw [gsn (by omega)]; exact h.2.2.2.2.1.2)⟩, ⟨(by rw [gsn (by omega)]; exact h.2.2.2.2.2.1.1), (by rw [gsn (by omega)]; exact h.2.2.2.2.2.1.2)⟩, (by rw [gsn (by omega)]; exact h.2.2.2.2.2.2.1), (by rw [gsn (by omega)]; exact h.2.2.2.2.2.2.2)⟩
/-- nothing else has changed -/
def Out (b w : Nat) (h h1 : AH) : Prop := h1.length = h.length ∧ ∀ i : Nat, (i < b ∨ b + w ≤ i) → h1[i]? = h[i]?
theorem Out.rf {b w : Nat} {h : AH} : Out b w h h := ⟨rfl, fun _ _ => rfl⟩
theorem Out.tr {b w : Nat} {h h1 h2 : AH} (a : Out b w h h1) (c : Out b w h1 h2) : Out b w h h2 := ⟨c.1.trans a.1, fun i hi => (c.2 i hi).trans (a.2 i hi)⟩
theorem Out.set {b w i : Nat} {h h1 : AH} {x : AC} (a : Out b w h h1) (h0 : b ≤ i) (h2 : i < b + w) : Out b w h (h1.set i x) := ⟨by rw [List.length_set]; exact a.1, fun j hj => by rw [gsn (by omega)]; exact a.2 j hj⟩
theorem vin {x : Int32} {n : Nat} (h1 : ¬ x < 0) (h2 : ¬ nI n ≤ x) (hn : n < 2 ^ 31) : vp_in x n := by
  rcases pk_ix x hn with h | h | ⟨j, hj, rfl⟩
  · exact absurd h h1
  · exact absurd h h2
  · exact vp_in_nI hj hn
def kWholeOf (σ : WS) (x : Int32) : Int32 := if x < 0 ∨ (25 : Int32) ≤ x then 0 else σ.1 6 x.toNatClampNeg
def kDries (σ : WS) (x : Int32) : Int32 := if x < 0 ∨ (7 : Int32) ≤ x then 0 else σ.1 5 x.toNatClampNeg
def kWh (f : Nat → Int32) : Nat → Int32
  | 0 => 0
  | n + 1 => kWh f n + f (4 + n)
def kFlaw (σ : WS) (i : Nat) : Int32 := σ.1 0 (i * 3 + 2) / 10 + 9 - σ.1 0 (i * 3 + 1)
def kClay (σ : WS) (i : Nat) : Int32 := (σ.1 0 (i * 3 + 0) + 7) / 8
def kMk (f : Nat → Int32) (x : Int32) : Nat → Nat → Int32
  | 0, _ => -1
  | m + 1, k => if f (k * 2 + 1) = x then nI k else kMk f x m (k + 1)
def kMaker (σ : WS) (x : Int32) : Int32 := kMk (σ.1 1) x (σ.2.1 1) 0
def kAnother (σ : WS) (x y : Int32) : Int32 := if x = -1 then 0 else if kMaker σ x = -1 ∨ kMaker σ x = y then 0 else 1
def kAbout (σ : WS) (i j : Nat) : Int32 := if j = 3 then kFlaw σ i else if j = 4 then kClay σ i else if j = 5 then kMaker σ (nI i) else σ.1 0 (i * 3 + j)
def kCount (σ : WS) (j : Nat) : Int32 := match j with
  | 0 => σ.2.2 0
  | 1 => σ.2.2 1
  | 2 => σ.2.2 2
  | 3 => σ.2.2 3
  | 4 => σ.2.2 4
  | 5 => σ.2.2 5
  | 6 => tSum (σ.1 2) 4 1 (σ.2.1 2)
  | 7 => tSum (σ.1 3) 4 1 (σ.2.1 3)
  | 8 => kWh (σ.1 6) 21
  | 9 => nI (σ.2.1 4)
  | 10 => σ.2.2 6
  | _ => σ.2.2 7
def kOff (len burnt : Int32) : Int32 := (if 0 ≤ 4 * burnt - (20 + 2 * len) then 4 * burnt - (20 + 2 * len) else 0 - (4 * burnt - (20 + 2 * len))) / 2
def kShare (σ : WS) (s : Nat) (burnt : Int32) : Int32 := 8 * σ.1 3 (s * 4 + 2) + 2 * σ.1 3 (s * 4 + 3) + kOff (σ.1 3 (s * 4 + 0)) burnt + (if s = 0 ∨ s = 5 then 5 else 0)
def kStems (σ : WS) (s : Nat) (burnt : Int32) : Int32 := ((if 100 < kShare σ s burnt then 100 else kShare σ s burnt) * σ.1 3 (s * 4 + 1) + 99) / 100
def kStN (σ : WS) (burnt : Int32) : Nat → Int32
  | 0 => 0
  | n + 1 => kStN σ burnt n + kStems σ n burnt
def kBs (σ : WS) : Nat → Int32 × Int32
  | 0 => (1, kStN σ 1 6)
  | n + 1 => if kStN σ (nI (2 + n)) 6 < (kBs σ n).2 then (nI (2 + n), kStN σ (nI (2 + n)) 6) else kBs σ n
section WORKS
variable {d b : Nat} {σ : WS} {h : AH}
set_option maxHeartbeats 4000000 in
theorem c_driesBy (x : Int32) (hw : Wk b σ h) : Ct d mX1_driesBy 0 0 [.ref b, .int x] h (RI (kDries σ x) h) := by
  refine Ct.of (by decide +kernel) rfl (Nat.le_of_ble_eq_true rfl) ?_
  show WP d mX1_driesBy none 0 0 0 [.ref b, .int x] [] h _
  refine w_iload_n (pc := 0) (i := 1) dX1_driesBy_0 rfl rfl ?_
  refine w_if_lt (pc := 1) (tgt := 22) dX1_driesBy_1 (by decide) (fun c1 => ?_) (fun c1 => ?_)
  · refine w_iconst (pc := 22) (v := 0) dX1_driesBy_22 (by decide) ?_
    exact w_ireturn (pc := 23) dX1_driesBy_23 ⟨_, rfl, rfl⟩ ⟨by unfold kDries; rw [if_pos (Or.inl c1)], rfl⟩
  · refine w_iload_n (pc := 4) (i := 1) dX1_driesBy_4 rfl rfl ?_
    refine w_aload_n (pc := 5) (i := 0) dX1_driesBy_5 rfl rfl ?_
    refine w_get (pc := 6) dX1_driesBy_6 FX1_32 hw.1 rfl ?_
    refine w_alen (pc := 9) (v := 7) dX1_driesBy_9 hw.dr rfl ?_
    refine w_icmp_ge (pc := 10) (tgt := 22) dX1_driesBy_10 (by decide) (fun c10 => ?_) (fun c10 => ?_)
    · refine w_iconst (pc := 22) (v := 0) dX1_driesBy_22 (by decide) ?_
      exact w_ireturn (pc := 23) dX1_driesBy_23 ⟨_, rfl, rfl⟩ ⟨by unfold kDries; rw [if_pos (Or.inr c10)], rfl⟩
    · refine w_aload_n (pc := 13) (i := 0) dX1_driesBy_13 rfl rfl ?_
      refine w_get (pc := 14) dX1_driesBy_14 FX1_32 hw.1 rfl ?_
      refine w_iload_n (pc := 17) (i := 1) dX1_driesBy_17 rfl rfl ?_
      refine w_iald (pc := 18) dX1_driesBy_18 hw.dr (vin c1 c10 (by omega)) ?_
      refine w_goto (pc := 19) (tgt := 23) dX1_driesBy_19 (by decide) ?_
      exact w_ireturn (pc := 23) dX1_driesBy_23 ⟨_, rfl, rfl⟩ ⟨by unfold kDries; rw [if_neg (fun q => q.elim c1 c10)], rfl⟩
set_option maxHeartbeats 4000000 in
theorem c_wholeOf (x : Int32) (hw : Wk b σ h) : Ct d mX1_wholeOf 0 0 [.ref b, .int x] h (RI (kWholeOf σ x) h) := by
  refine Ct.of (by decide +kernel) rfl (Nat.le_of_ble_eq_true rfl) ?_
  show WP d mX1_wholeOf none 0 0 0 [.ref b, .int x] [] h _
  refine w_iload_n (pc := 0) (i := 1) dX1_wholeOf_0 rfl rfl ?_
  refine w_if_lt (pc := 1) (tgt := 22) dX1_wholeOf_1 (by decide) (fun c1 => ?_) (fun c1 => ?_)
  · refine w_iconst (pc := 22) (v := 0) dX1_wholeOf_22 (by decide) ?_
    exact w_ireturn (pc := 23) dX1_wholeOf_23 ⟨_, rfl, rfl⟩ ⟨by unfold kWholeOf; rw [if_pos (Or.inl c1)], rfl⟩
  · refine w_iload_n (pc := 4) (i := 1) dX1_wholeOf_4 rfl rfl ?_
    refine w_aload_n (pc := 5) (i := 0) dX1_wholeOf_5 rfl rfl ?_
    refine w_get (pc := 6) dX1_wholeOf_6 FX1_36 hw.1 rfl ?_
    refine w_alen (pc := 9) (v := 25) dX1_wholeOf_9 hw.wh rfl ?_
    refine w_icmp_ge (pc := 10) (tgt := 22) dX1_wholeOf_10 (by decide) (fun c10 => ?_) (fun c10 => ?_)
    · refine w_iconst (pc := 22) (v := 0) dX1_wholeOf_22 (by decide) ?_
      exact w_ireturn (pc := 23) dX1_wholeOf_23 ⟨_, rfl, rfl⟩ ⟨by unfold kWholeOf; rw [if_pos (Or.inr c10)], rfl⟩
    · refine w_aload_n (pc := 13) (i := 0) dX1_wholeOf_13 rfl rfl ?_
      refine w_get (pc := 14) dX1_wholeOf_14 FX1_36 hw.1 rfl ?_
      refine w_iload_n (pc := 17) (i := 1) dX1_wholeOf_17 rfl rfl ?_
      refine w_iald (pc := 18) dX1_wholeOf_18 hw.wh (vin c1 c10 (by omega)) ?_
      refine w_goto (pc := 19) (tgt := 23) dX1_wholeOf_19 (by decide) ?_
      exact w_ireturn (pc := 23) dX1_wholeOf_23 ⟨_, rfl, rfl⟩ ⟨by unfold kWholeOf; rw [if_neg (fun q => q.elim c1 c10)], rfl⟩
set_option maxHeartbeats 4000000 in
theorem c_wholeInAll_loop (hw : Wk b σ h) : ∀ (m k : Nat), k + m = 21 → WP (d + 1) mX1_wholeInAll none 0 0 4 [.ref b, .int (kWh (σ.1 6) k), .int (nI (4 + k))] [] h (RI (kWh (σ.1 6) 21) h) := by
  intro m
  induction m with
  | zero =>
    intro k hk
    have hk : k = 21 := by omega
    subst hk
    refine w_iload_n (pc := 4) (i := 2) dX1_wholeInAll_4 rfl rfl ?_
    refine w_bipush (pc := 5) (v := 24) dX1_wholeInAll_5 (by decide) ?_
    refine w_icmp_gt (pc := 7) (tgt := 24) dX1_wholeInAll_7 (by decide) (fun c7 => ?_) (fun c7 => absurd (by decide +kernel) c7)
    refine w_iload_n (pc := 24) (i := 1) dX1_wholeInAll_24 rfl rfl ?_
    exact w_ireturn (pc := 25) dX1_wholeInAll_25 ⟨_, rfl, rfl⟩ ⟨rfl, rfl⟩
  | succ m ih =>
    intro k hk
    refine w_iload_n (pc := 4) (i := 2) dX1_wholeInAll_4 rfl rfl ?_
    refine w_bipush (pc := 5) (v := 24) dX1_wholeInAll_5 (by decide) ?_
    refine w_icmp_gt (pc := 7) (tgt := 24) dX1_wholeInAll_7 (by decide) (fun c7 => absurd (show nI 24 < nI (4 + k) from c7) (nI_nlt (by omega) (by omega))) (fun c7 => ?_)
    refine w_iload_n (pc := 10) (i := 1) dX1_wholeInAll_10 rfl rfl ?_
    refine w_aload_n (pc := 11) (i := 0) dX1_wholeInAll_11 rfl rfl ?_
    refine w_iload_n (pc := 12) (i := 2) dX1_wholeInAll_12 rfl rfl ?_
    refine w_vI (pc := 13) dX1_wholeInAll_13 GX1_92 hw.1 (c_wholeOf (nI (4 + k)) hw) rfl rfl rfl rfl ?_
    rw [show kWholeOf σ (nI (4 + k)) = σ.1 6 (4 + k) from by unfold kWholeOf; rw [if_neg (by rintro (q | q); exact nI_pos (by omega) q; exact nI_ge (b := 25) (by omega) (by omega) q), nI_clamp (by omega)]]
    refine w_iadd (pc := 16) dX1_wholeInAll_16 ?_
    refine w_topi (fun x17 e17 => ?_)
    refine w_istore_n (pc := 17) (i := 1) (ls' := [.ref b, .int x17, .int (nI (4 + k))]) dX1_wholeInAll_17 rfl (by decide) rfl rfl rfl ?_
    obtain ⟨x18, e18⟩ : ∃ y : Int32, y = (nI (4 + k)) + 1 := ⟨_, rfl⟩
    refine w_iinc (pc := 18) (i := 2) (y := x18) (ls' := [.ref b, .int x17, .int x18]) dX1_wholeInAll_18 rfl (by rw [e18]; rfl) (by decide) rfl rfl rfl ?_
    refine w_goto (pc := 21) (tgt := 4) dX1_wholeInAll_21 (by decide) ?_
    obtain rfl : x17 = kWh (σ.1 6) (k + 1) := e17
    obtain rfl : x18 = nI (4 + (k + 1)) := by rw [e18]; exact nI_1 (4 + k)
    exact ih (k + 1) (by omega)
set_option maxHeartbeats 4000000 in
theorem c_wholeInAll (hw : Wk b σ h) : Ct (d + 1) mX1_wholeInAll 0 0 [.ref b] h (RI (kWh (σ.1 6) 21) h) := by
  refine Ct.of (by decide +kernel) rfl (Nat.le_of_ble_eq_true rfl) ?_
  show WP (d + 1) mX1_wholeInAll none 0 0 0 [.ref b, vU, vU] [] h _
  refine w_iconst (pc := 0) (v := 0) dX1_wholeInAll_0 (by decide) ?_
  refine w_topi (fun x1 e1 => ?_)
  refine w_istore_n (pc := 1) (i := 1) (ls' := [.ref b, .int x1, vU]) dX1_wholeInAll_1 rfl (by decide) rfl rfl rfl ?_
  refine w_iconst (pc := 2) (v := 4) dX1_wholeInAll_2 (by decide) ?_
  refine w_topi (fun x3 e3 => ?_)
  refine w_istore_n (pc := 3) (i := 2) (ls' := [.ref b, .int x1, .int x3]) dX1_wholeInAll_3 rfl (by decide) rfl rfl rfl ?_
  subst e1
  subst e3
  exact c_wholeInAll_loop hw 21 0 rfl
set_option maxHeartbeats 4000000 in
theorem c_flawOf (i : Nat) (hw : Wk b σ h) (hB : WB σ) (hi : i < σ.2.1 0) : Ct (d + 1) mX1_flawOf 0 0 [.ref b, .int (nI i)] h (RI (kFlaw σ i) h) := by
  refine Ct.of (by decide +kernel) rfl (Nat.le_of_ble_eq_true rfl) ?_
  show WP (d + 1) mX1_flawOf none 0 0 0 [.ref b, .int (nI i)] [] h _
  refine w_aload_n (pc := 0) (i := 0) dX1_flawOf_0 rfl rfl ?_
  refine w_get (pc := 1) dX1_flawOf_1 FX1_14 hw.1 rfl ?_
  refine w_iload_n (pc := 4) (i := 1) dX1_flawOf_4 rfl rfl ?_
  refine w_iconst (pc := 5) (v := 2) dX1_flawOf_5 (by decide) ?_
  refine w_vI (pc := 6) dX1_flawOf_6 GX1_96 hw.t0.1 (c_at i 2 hw.t0 hB.b0 hi (by omega)) rfl rfl rfl rfl ?_
  refine w_bipush (pc := 9) (v := 10) dX1_flawOf_9 (by decide) ?_
  refine w_idiv (pc := 11) dX1_flawOf_11 (by decide) ?_
  refine w_bipush (pc := 12) (v := 9) dX1_flawOf_12 (by decide) ?_
  refine w_iadd (pc := 14) dX1_flawOf_14 ?_
  refine w_aload_n (pc := 15) (i := 0) dX1_flawOf_15 rfl rfl ?_
  refine w_get (pc := 16) dX1_flawOf_16 FX1_14 hw.1 rfl ?_
  refine w_iload_n (pc := 19) (i := 1) dX1_flawOf_19 rfl rfl ?_
  refine w_iconst (pc := 20) (v := 1) dX1_flawOf_20 (by decide) ?_
  refine w_vI (pc := 21) dX1_flawOf_21 GX1_96 hw.t0.1 (c_at i 1 hw.t0 hB.b0 hi (by omega)) rfl rfl rfl rfl ?_
  refine w_isub (pc := 24) dX1_flawOf_24 ?_
  exact w_ireturn (pc := 25) dX1_flawOf_25 ⟨_, rfl, rfl⟩ ⟨rfl, rfl⟩
set_option maxHeartbeats 4000000 in
theorem c_clayOf (i : Nat) (hw : Wk b σ h) (hB : WB σ) (hi : i < σ.2.1 0) : Ct (d + 1) mX1_clayOf 0 0 [.ref b, .int (nI i)] h (RI (kClay σ i) h) := by
  refine Ct.of (by decide +kernel) rfl (Nat.le_of_ble_eq_true rfl) ?_
  show WP (d + 1) mX1_clayOf none 0 0 0 [.ref b, .int (nI i)] [] h _
  refine w_aload_n (pc := 0) (i := 0) dX1_clayOf_0 rfl rfl ?_
  refine w_get (pc := 1) dX1_clayOf_1 FX1_14 hw.1 rfl ?_
  refine w_iload_n (pc := 4) (i := 1) dX1_clayOf_4 rfl rfl ?_
  refine w_iconst (pc := 5) (v := 0) dX1_clayOf_5 (by decide) ?_
  refine w_vI (pc := 6) dX1_clayOf_6 GX1_96 hw.t0.1 (c_at i 0 hw.t0 hB.b0 hi (by omega)) rfl rfl rfl rfl ?_
  refine w_bipush (pc := 9) (v := 7) dX1_clayOf_9 (by decide) ?_
  refine w_iadd (pc := 11) dX1_clayOf_11 ?_
  refine w_bipush (pc := 12) (v := 8) dX1_clayOf_12 (by decide) ?_
  refine w_idiv (pc := 14) dX1_clayOf_14 (by decide) ?_
  exact w_ireturn (pc := 15) dX1_clayOf_15 ⟨_, rfl, rfl⟩ ⟨rfl, rfl⟩
set_option maxHeartbeats 4000000 in
theorem c_makerAt_loop (x : Int32) (hw : Wk b σ h) (hB : WB σ) : ∀ (m k : Nat), k + m = σ.2.1 1 → WP (d + 1) mX1_makerAt none 0 0 2 [.ref b, .int x, .int (nI k)] [] h (RI (kMk (σ.1 1) x m k) h) := by
  have hr := hB.b1.rows
  intro m
  induction m with
  | zero =>
    intro k hk
    refine w_iload_n (pc := 2) (i := 2) dX1_makerAt_2 rfl rfl ?_
    refine w_aload_n (pc := 3) (i := 0) dX1_makerAt_3 rfl rfl ?_
    refine w_get (pc := 4) dX1_makerAt_4 FX1_20 hw.1 rfl ?_
    refine w_vI (pc := 7) dX1_makerAt_7 GX1_89 hw.t1.1 (c_size hw.t1) rfl rfl rfl rfl ?_
    refine w_icmp_ge (pc := 10) (tgt := 34) dX1_makerAt_10 (by decide) (fun c10 => ?_) (fun c10 => absurd (nI_le (by omega) (by omega)) c10)
    refine w_iconst (pc := 34) (v := -1) dX1_makerAt_34 (by decide) ?_
    exact w_ireturn (pc := 35) dX1_makerAt_35 ⟨_, rfl, rfl⟩ ⟨rfl, rfl⟩
  | succ m ih =>
    intro k hk
    refine w_iload_n (pc := 2) (i := 2) dX1_makerAt_2 rfl rfl ?_
    refine w_aload_n (pc := 3) (i := 0) dX1_makerAt_3 rfl rfl ?_
    refine w_get (pc := 4) dX1_makerAt_4 FX1_20 hw.1 rfl ?_
    refine w_vI (pc := 7) dX1_makerAt_7 GX1_89 hw.t1.1 (c_size hw.t1) rfl rfl rfl rfl ?_
    refine w_icmp_ge (pc := 10) (tgt := 34) dX1_makerAt_10 (by decide) (fun c10 => absurd c10 (nI_ge (by omega) (by omega))) (fun c10 => ?_)
    refine w_aload_n (pc := 13) (i := 0) dX1_makerAt_13 rfl rfl ?_
    refine w_get (pc := 14) dX1_makerAt_14 FX1_20 hw.1 rfl ?_
    refine w_iload_n (pc := 17) (i := 2) dX1_makerAt_17 rfl rfl ?_
    refine w_iconst (pc := 18) (v := 1) dX1_makerAt_18 (by decide) ?_
    refine w_vI (pc := 19) dX1_makerAt_19 GX1_96 hw.t1.1 (c_at k 1 hw.t1 hB.b1 (by omega) (by omega)) rfl rfl rfl rfl ?_
    refine w_iload_n (pc := 22) (i := 1) dX1_makerAt_22 rfl rfl ?_
    refine w_icmp_ne (pc := 23) (tgt := 28) dX1_makerAt_23 (by decide) (fun c23 => ?_) (fun c23 => ?_)
    · obtain ⟨x28, e28⟩ : ∃ y : Int32, y = (nI k) + 1 := ⟨_, rfl⟩
      refine w_iinc (pc := 28) (i := 2) (y := x28) (ls' := [.ref b, .int x, .int x28]) dX1_makerAt_28 rfl (by rw [e28]; rfl) (by decide) rfl rfl rfl ?_
      refine w_goto (pc := 31) (tgt := 2) dX1_makerAt_31 (by decide) ?_
      obtain rfl : x28 = nI (k + 1) := by rw [e28]; exact nI_1 k
      have h2 := ih (k + 1) (by omega)
      rw [show kMk (σ.1 1) x (m + 1) k = kMk (σ.1 1) x m (k + 1) from if_neg c23]
      exact h2
    · refine w_iload_n (pc := 26) (i := 2) dX1_makerAt_26 rfl rfl ?_
      exact w_ireturn (pc := 27) dX1_makerAt_27 ⟨_, rfl, rfl⟩ ⟨by rw [show kMk (σ.1 1) x (m + 1) k = nI k from if_pos c23], rfl⟩
set_option maxHeartbeats 4000000 in
theorem c_makerAt (x : Int32) (hw : Wk b σ h) (hB : WB σ) : Ct (d + 1) mX1_makerAt 0 0 [.ref b, .int x] h (RI (kMaker σ x) h) := by
  refine Ct.of (by decide +kernel) rfl (Nat.le_of_ble_eq_true rfl) ?_
  show WP (d + 1) mX1_makerAt none 0 0 0 [.ref b, .int x, vU] [] h _
  refine w_iconst (pc := 0) (v := 0) dX1_makerAt_0 (by decide) ?_
  refine w_topi (fun x1 e1 => ?_)
  refine w_istore_n (pc := 1) (i := 2) (ls' := [.ref b, .int x, .int x1]) dX1_makerAt_1 rfl (by decide) rfl rfl rfl ?_
  subst e1
  exact c_makerAt_loop x hw hB _ 0 (Nat.zero_add _)
set_option maxHeartbeats 4000000 in
theorem c_isAnotherAt (x y : Int32) (hw : Wk b σ h) (hB : WB σ) : Ct (d + 2) mX1_isAnotherAt 0 0 [.ref b, .int x, .int y] h (RI (kAnother σ x y) h) := by
  refine Ct.of (by decide +kernel) rfl (Nat.le_of_ble_eq_true rfl) ?_
  show WP (d + 2) mX1_isAnotherAt none 0 0 0 [.ref b, .int x, .int y, vU] [] h _
  refine w_iload_n (pc := 0) (i := 1) dX1_isAnotherAt_0 rfl rfl ?_
  refine w_iconst (pc := 1) (v := -1) dX1_isAnotherAt_1 (by decide) ?_
  refine w_icmp_ne (pc := 2) (tgt := 7) dX1_isAnotherAt_2 (by decide) (fun c2 => ?_) (fun c2 => ?_)
  · refine w_aload_n (pc := 7) (i := 0) dX1_isAnotherAt_7 rfl rfl ?_
    refine w_iload_n (pc := 8) (i := 1) dX1_isAnotherAt_8 rfl rfl ?_
    refine w_vI (pc := 9) dX1_isAnotherAt_9 GX1_100 hw.1 (c_makerAt x hw hB) rfl rfl rfl rfl ?_
    refine w_topi (fun x12 e12 => ?_)
    refine w_istore_n (pc := 12) (i := 3) (ls' := [.ref b, .int x, .int y, .int x12]) dX1_isAnotherAt_12 rfl (by decide) rfl rfl rfl ?_
    refine w_iload_n (pc := 13) (i := 3) dX1_isAnotherAt_13 rfl rfl ?_
    refine w_iconst (pc := 14) (v := -1) dX1_isAnotherAt_14 (by decide) ?_
    subst e12
    refine w_icmp_eq (pc := 15) (tgt := 27) dX1_isAnotherAt_15 (by decide) (fun c15 => ?_) (fun c15 => ?_)
    · refine w_iconst (pc := 27) (v := 0) dX1_isAnotherAt_27 (by decide) ?_
      exact w_ireturn (pc := 28) dX1_isAnotherAt_28 ⟨_, rfl, rfl⟩ ⟨by unfold kAnother; rw [if_neg c2, if_pos (Or.inl c15)], rfl⟩
    · refine w_iload_n (pc := 18) (i := 3) dX1_isAnotherAt_18 rfl rfl ?_
      refine w_iload_n (pc := 19) (i := 2) dX1_isAnotherAt_19 rfl rfl ?_
      refine w_icmp_eq (pc := 20) (tgt := 27) dX1_isAnotherAt_20 (by decide) (fun c20 => ?_) (fun c20 => ?_)
      · refine w_iconst (pc := 27) (v := 0) dX1_isAnotherAt_27 (by decide) ?_
        exact w_ireturn (pc := 28) dX1_isAnotherAt_28 ⟨_, rfl, rfl⟩ ⟨by unfold kAnother; rw [if_neg c2, if_pos (Or.inr c20)], rfl⟩
      · refine w_iconst (pc := 23) (v := 1) dX1_isAnotherAt_23 (by decide) ?_
        refine w_goto (pc := 24) (tgt := 28) dX1_isAnotherAt_24 (by decide) ?_
        exact w_ireturn (pc := 28) dX1_isAnotherAt_28 ⟨_, rfl, rfl⟩ ⟨by unfold kAnother; rw [if_neg c2, if_neg (fun q => q.elim c15 c20)], rfl⟩
  · refine w_iconst (pc := 5) (v := 0) dX1_isAnotherAt_5 (by decide) ?_
    exact w_ireturn (pc := 6) dX1_isAnotherAt_6 ⟨_, rfl, rfl⟩ ⟨by unfold kAnother; rw [if_pos c2], rfl⟩
set_option maxHeartbeats 4000000 in
theorem c_aboutMould (i j : Nat) (hw : Wk b σ h) (hB : WB σ) (hi : i < σ.2.1 0) (hj : j < 6) : Ct (d + 2) mX1_aboutMould 0 0 [.ref b, .int (nI i), .int (nI j)] h (RI (kAbout σ i j) h) := by
  refine Ct.of (by decide +kernel) rfl (Nat.le_of_ble_eq_true rfl) ?_
  show WP (d + 2) mX1_aboutMould none 0 0 0 [.ref b, .int (nI i), .int (nI j)] [] h _
  refine w_iload_n (pc := 0) (i := 2) dX1_aboutMould_0 rfl rfl ?_
  by_cases h3 : j = 3
  · subst h3
    refine w_tableIn (pc := 1) (tgt := 28) dX1_aboutMould_1 (by decide +kernel) (by decide +kernel) (off := 27) (by decide +kernel) (by decide) ?_
    refine w_aload_n (pc := 28) (i := 0) dX1_aboutMould_28 rfl rfl ?_
    refine w_iload_n (pc := 29) (i := 1) dX1_aboutMould_29 rfl rfl ?_
    refine w_vI (pc := 30) dX1_aboutMould_30 GX1_103 hw.1 (c_flawOf i hw hB hi) rfl rfl rfl rfl ?_
    exact w_ireturn (pc := 33) dX1_aboutMould_33 ⟨_, rfl, rfl⟩ ⟨rfl, rfl⟩
  by_cases h4 : j = 4
  · subst h4
    refine w_tableIn (pc := 1) (tgt := 34) dX1_aboutMould_1 (by decide +kernel) (by decide +kernel) (off := 33) (by decide +kernel) (by decide) ?_
    refine w_aload_n (pc := 34) (i := 0) dX1_aboutMould_34 rfl rfl ?_
    refine w_iload_n (pc := 35) (i := 1) dX1_aboutMould_35 rfl rfl ?_
    refine w_vI (pc := 36) dX1_aboutMould_36 GX1_106 hw.1 (c_clayOf i hw hB hi) rfl rfl rfl rfl ?_
    exact w_ireturn (pc := 39) dX1_aboutMould_39 ⟨_, rfl, rfl⟩ ⟨rfl, rfl⟩
  by_cases h5 : j = 5
  · subst h5
    refine w_tableIn (pc := 1) (tgt := 40) dX1_aboutMould_1 (by decide +kernel) (by decide +kernel) (off := 39) (by decide +kernel) (by decide) ?_
    refine w_aload_n (pc := 40) (i := 0) dX1_aboutMould_40 rfl rfl ?_
    refine w_iload_n (pc := 41) (i := 1) dX1_aboutMould_41 rfl rfl ?_
    refine w_vI (pc := 42) dX1_aboutMould_42 GX1_100 hw.1 (c_makerAt (nI i) hw hB) rfl rfl rfl rfl ?_
    exact w_ireturn (pc := 45) dX1_aboutMould_45 ⟨_, rfl, rfl⟩ ⟨rfl, rfl⟩
  refine w_tableOut (pc := 1) (tgt := 46) dX1_aboutMould_1 (Or.inl (by rw [nI_toInt (by omega)]; omega)) (by decide) ?_
  refine w_aload_n (pc := 46) (i := 0) dX1_aboutMould_46 rfl rfl ?_
  refine w_get (pc := 47) dX1_aboutMould_47 FX1_14 hw.1 rfl ?_
  refine w_iload_n (pc := 50) (i := 1) dX1_aboutMould_50 rfl rfl ?_
  refine w_iload_n (pc := 51) (i := 2) dX1_aboutMould_51 rfl rfl ?_
  refine w_vI (pc := 52) dX1_aboutMould_52 GX1_96 hw.t0.1 (c_at i j hw.t0 hB.b0 hi (by omega)) rfl rfl rfl rfl ?_
  exact w_ireturn (pc := 55) dX1_aboutMould_55 ⟨_, rfl, rfl⟩ ⟨by unfold kAbout; rw [if_neg h3, if_neg h4, if_neg h5], rfl⟩
set_option maxHeartbeats 4000000 in
theorem c_counted (j : Nat) (hw : Wk b σ h) (hB : WB σ) (hj : j < 12) : Ct (d + 2) mX1_counted 0 0 [.ref b, .int (nI j)] h (RI (kCount σ j) h) := by
  refine Ct.of (by decide +kernel) rfl (Nat.le_of_ble_eq_true rfl) ?_
  show WP (d + 2) mX1_counted none 0 0 0 [.ref b, .int (nI j)] [] h _
  refine w_iload_n (pc := 0) (i := 1) dX1_counted_0 rfl rfl ?_
  match j, hj with
  | 0, _ =>
    refine w_tableIn (pc := 1) (tgt := 60) dX1_counted_1 (by decide +kernel) (by decide +kernel) (off := 59) (by decide +kernel) (by decide) ?_
    refine w_aload_n (pc := 60) (i := 0) dX1_counted_60 rfl rfl ?_
    refine w_get (pc := 61) dX1_counted_61 FX1_62 hw.1 rfl ?_
    exact w_ireturn (pc := 64) dX1_counted_64 ⟨_, rfl, rfl⟩ ⟨rfl, rfl⟩
  | 1, _ =>
    refine w_tableIn (pc := 1) (tgt := 65) dX1_counted_1 (by decide +kernel) (by decide +kernel) (off := 64) (by decide +kernel) (by decide) ?_
    refine w_aload_n (pc := 65) (i := 0) dX1_counted_65 rfl rfl ?_
    refine w_get (pc := 66) dX1_counted_66 FX1_39 hw.1 rfl ?_
    exact w_ireturn (pc := 69) dX1_counted_69 ⟨_, rfl, rfl⟩ ⟨rfl, rfl⟩
  | 2, _ =>
    refine w_tableIn (pc := 1) (tgt := 70) dX1_counted_1 (by decide +kernel) (by decide +kernel) (off := 69) (by decide +kernel) (by decide) ?_
    refine w_aload_n (pc := 70) (i := 0) dX1_counted_70 rfl rfl ?_
    refine w_get (pc := 71) dX1_counted_71 FX1_43 hw.1 rfl ?_
    exact w_ireturn (pc := 74) dX1_counted_74 ⟨_, rfl, rfl⟩ ⟨rfl, rfl⟩
  | 3, _ =>
    refine w_tableIn (pc := 1) (tgt := 75) dX1_counted_1 (by decide +kernel) (by decide +kernel) (off := 74) (by decide +kernel) (by decide) ?_
    refine w_aload_n (pc := 75) (i := 0) dX1_counted_75 rfl rfl ?_
    refine w_get (pc := 76) dX1_counted_76 FX1_46 hw.1 rfl ?_
    exact w_ireturn (pc := 79) dX1_counted_79 ⟨_, rfl, rfl⟩ ⟨rfl, rfl⟩
  | 4, _ =>
    refine w_tableIn (pc := 1) (tgt := 80) dX1_counted_1 (by decide +kernel) (by decide +kernel) (off := 79) (by decide +kernel) (by decide) ?_
    refine w_aload_n (pc := 80) (i := 0) dX1_counted_80 rfl rfl ?_
    refine w_get (pc := 81) dX1_counted_81 FX1_65 hw.1 rfl ?_
    exact w_ireturn (pc := 84) dX1_counted_84 ⟨_, rfl, rfl⟩ ⟨rfl, rfl⟩
  | 5, _ =>
    refine w_tableIn (pc := 1) (tgt := 85) dX1_counted_1 (by decide +kernel) (by decide +kernel) (off := 84) (by decide +kernel) (by decide) ?_
    refine w_aload_n (pc := 85) (i := 0) dX1_counted_85 rfl rfl ?_
    refine w_get (pc := 86) dX1_counted_86 FX1_68 hw.1 rfl ?_
    exact w_ireturn (pc := 89) dX1_counted_89 ⟨_, rfl, rfl⟩ ⟨rfl, rfl⟩
  | 6, _ =>
    refine w_tableIn (pc := 1) (tgt := 90) dX1_counted_1 (by decide +kernel) (by decide +kernel) (off := 89) (by decide +kernel) (by decide) ?_
    refine w_aload_n (pc := 90) (i := 0) dX1_counted_90 rfl rfl ?_
    refine w_get (pc := 91) dX1_counted_91 FX1_23 hw.1 rfl ?_
    refine w_iconst (pc := 94) (v := 1) dX1_counted_94 (by decide) ?_
    refine w_vI (pc := 95) dX1_counted_95 GX1_109 hw.t2.1 (c_sum 1 hw.t2 hB.b2 (by omega)) rfl rfl rfl rfl ?_
    exact w_ireturn (pc := 98) dX1_counted_98 ⟨_, rfl, rfl⟩ ⟨rfl, rfl⟩
  | 7, _ =>
    refine w_tableIn (pc := 1) (tgt := 99) dX1_counted_1 (by decide +kernel) (by decide +kernel) (off := 98) (by decide +kernel) (by decide) ?_
    refine w_aload_n (pc := 99) (i := 0) dX1_counted_99 rfl rfl ?_
    refine w_get (pc := 100) dX1_counted_100 FX1_26 hw.1 rfl ?_
    refine w_iconst (pc := 103) (v := 1) dX1_counted_103 (by decide) ?_
    refine w_vI (pc := 104) dX1_counted_104 GX1_109 hw.t3.1 (c_sum 1 hw.t3 hB.b3 (by omega)) rfl rfl rfl rfl ?_
    exact w_ireturn (pc := 107) dX1_counted_107 ⟨_, rfl, rfl⟩ ⟨rfl, rfl⟩
  | 8, _ =>
    refine w_tableIn (pc := 1) (tgt := 108) dX1_counted_1 (by decide +kernel) (by decide +kernel) (off := 107) (by decide +kernel) (by decide) ?_
    refine w_aload_n (pc := 108) (i := 0) dX1_counted_108 rfl rfl ?_
    refine w_vI (pc := 109) dX1_counted_109 GX1_112 hw.1 (c_wholeInAll hw) rfl rfl rfl rfl ?_
    exact w_ireturn (pc := 112) dX1_counted_112 ⟨_, rfl, rfl⟩ ⟨rfl, rfl⟩
  | 9, _ =>
    refine w_tableIn (pc := 1) (tgt := 113) dX1_counted_1 (by decide +kernel) (by decide +kernel) (off := 112) (by decide +kernel) (by decide) ?_
    refine w_aload_n (pc := 113) (i := 0) dX1_counted_113 rfl rfl ?_
    refine w_get (pc := 114) dX1_counted_114 FX1_29 hw.1 rfl ?_
    refine w_vI (pc := 117) dX1_counted_117 GX1_89 hw.t4.1 (c_size hw.t4) rfl rfl rfl rfl ?_
    exact w_ireturn (pc := 120) dX1_counted_120 ⟨_, rfl, rfl⟩ ⟨rfl, rfl⟩
  | 10, _ =>
    refine w_tableIn (pc := 1) (tgt := 121) dX1_counted_1 (by decide +kernel) (by decide +kernel) (off := 120) (by decide +kernel) (by decide) ?_
    refine w_aload_n (pc := 121) (i := 0) dX1_counted_121 rfl rfl ?_
    refine w_get (pc := 122) dX1_counted_122 FX1_71 hw.1 rfl ?_
    exact w_ireturn (pc := 125) dX1_counted_125 ⟨_, rfl, rfl⟩ ⟨rfl, rfl⟩
  | 11, _ =>
    refine w_tableOut (pc := 1) (tgt := 126) dX1_counted_1 (Or.inr (by decide +kernel)) (by decide) ?_
    refine w_aload_n (pc := 126) (i := 0) dX1_counted_126 rfl rfl ?_
    refine w_get (pc := 127) dX1_counted_127 FX1_74 hw.1 rfl ?_
    exact w_ireturn (pc := 130) dX1_counted_130 ⟨_, rfl, rfl⟩ ⟨rfl, rfl⟩
  | j + 12, hj => omega
set_option maxHeartbeats 4000000 in
theorem c_areSaggarsEmpty (hw : Wk b σ h) (hB : WB σ) : Ct (d + 2) mX1_areSaggarsEmpty 0 0 [.ref b] h (RI (if tSum (σ.1 3) 4 1 (σ.2.1 3) = 0 then 1 else 0) h) := by
  refine Ct.of (by decide +kernel) rfl (Nat.le_of_ble_eq_true rfl) ?_
  show WP (d + 2) mX1_areSaggarsEmpty none 0 0 0 [.ref b] [] h _
  refine w_aload_n (pc := 0) (i := 0) dX1_areSaggarsEmpty_0 rfl rfl ?_
  refine w_get (pc := 1) dX1_areSaggarsEmpty_1 FX1_26 hw.1 rfl ?_
  refine w_iconst (pc := 4) (v := 1) dX1_areSaggarsEmpty_4 (by decide) ?_
  refine w_vI (pc := 5) dX1_areSaggarsEmpty_5 GX1_109 hw.t3.1 (c_sum 1 hw.t3 hB.b3 (by omega)) rfl rfl rfl rfl ?_
  refine w_if_ne (pc := 8) (tgt := 15) dX1_areSaggarsEmpty_8 (by decide) (fun c8 => ?_) (fun c8 => ?_)
  · refine w_iconst (pc := 15) (v := 0) dX1_areSaggarsEmpty_15 (by decide) ?_
    exact w_ireturn (pc := 16) dX1_areSaggarsEmpty_16 ⟨_, rfl, rfl⟩ ⟨by rw [if_neg c8], rfl⟩
  · refine w_iconst (pc := 11) (v := 1) dX1_areSaggarsEmpty_11 (by decide) ?_
    refine w_goto (pc := 12) (tgt := 16) dX1_areSaggarsEmpty_12 (by decide) ?_
    exact w_ireturn (pc := 16) dX1_areSaggarsEmpty_16 ⟨_, rfl, rfl⟩ ⟨by rw [if_pos c8], rfl⟩
set_option maxHeartbeats 4000000 in
theorem c_stemsThatBreak (s : Nat) (y : Int32) (hw : Wk b σ h) (hB : WB σ) (hs : s < 6) : Ct (d + 1) mX1_stemsThatBreak 0 0 [.ref b, .int (nI s), .int y] h (RI (kStems σ s y) h) := by
  refine Ct.of (by decide +kernel) rfl (Nat.le_of_ble_eq_true rfl) ?_
  show WP (d + 1) mX1_stemsThatBreak none 0 0 0 [.ref b, .int (nI s), .int y, vU, vU, vU, vU] [] h _
  refine w_aload_n (pc := 0) (i := 0) dX1_stemsThatBreak_0 rfl rfl ?_
  refine w_get (pc := 1) dX1_stemsThatBreak_1 FX1_26 hw.1 rfl ?_
  refine w_iload_n (pc := 4) (i := 1) dX1_stemsThatBreak_4 rfl rfl ?_
  refine w_iconst (pc := 5) (v := 0) dX1_stemsThatBreak_5 (by decide) ?_
  refine w_vI (pc := 6) dX1_stemsThatBreak_6 GX1_96 hw.t3.1 (c_at s 0 hw.t3 hB.b3 (by rw [hB.2.2.2.1]; exact hs) (by omega)) rfl rfl rfl rfl ?_
  refine w_topi (fun x9 e9 => ?_)
  refine w_istore_n (pc := 9) (i := 3) (ls' := [.ref b, .int (nI s), .int y, .int x9, vU, vU, vU]) dX1_stemsThatBreak_9 rfl (by decide) rfl rfl rfl ?_
  subst e9
  refine w_iconst (pc := 10) (v := 4) dX1_stemsThatBreak_10 (by decide) ?_
  refine w_iload_n (pc := 11) (i := 2) dX1_stemsThatBreak_11 rfl rfl ?_
  refine w_imul (pc := 12) dX1_stemsThatBreak_12 ?_
  refine w_bipush (pc := 13) (v := 20) dX1_stemsThatBreak_13 (by decide) ?_
  refine w_iconst (pc := 15) (v := 2) dX1_stemsThatBreak_15 (by decide) ?_
  refine w_iload_n (pc := 16) (i := 3) dX1_stemsThatBreak_16 rfl rfl ?_
  refine w_imul (pc := 17) dX1_stemsThatBreak_17 ?_
  refine w_iadd (pc := 18) dX1_stemsThatBreak_18 ?_
  refine w_isub (pc := 19) dX1_stemsThatBreak_19 ?_
  refine w_abs (pc := 20) dX1_stemsThatBreak_20 LX1_119 (by omega) rfl (Nat.le_of_ble_eq_true rfl) ?_
  refine w_iconst (pc := 23) (v := 2) dX1_stemsThatBreak_23 (by decide) ?_
  refine w_idiv (pc := 24) dX1_stemsThatBreak_24 (by decide) ?_
  refine w_topi (fun x25 e25 => ?_)
  refine w_istore (pc := 25) (i := 4) (ls' := [.ref b, .int (nI s), .int y, .int (σ.1 3 (s * 4 + 0)), .int x25, vU, vU]) dX1_stemsThatBreak_25 (by decide) rfl rfl rfl ?_
  have e25 : x25 = kOff (σ.1 3 (s * 4 + 0)) y := e25
  subst e25
  have key : ∀ x : Int32, x = (if s = 0 ∨ s = 5 then 5 else 0) → WP (d + 1) mX1_stemsThatBreak none 0 0 41 [.ref b, .int (nI s), .int y, .int (σ.1 3 (s * 4 + 0)), .int (kOff (σ.1 3 (s * 4 + 0)) y), vU, vU] [.int x] h (RI (kStems σ s y) h) := by
    intro x hx
    refine w_topi (fun x41 e41 => ?_)
    refine w_istore (pc := 41) (i := 5) (ls' := [.ref b, .int (nI s), .int y, .int (σ.1 3 (s * 4 + 0)), .int (kOff (σ.1 3 (s * 4 + 0)) y), .int x41, vU]) dX1_stemsThatBreak_41 (by decide) rfl rfl rfl ?_
    have e41 := e41.trans hx
    refine w_bipush (pc := 43) (v := 8) dX1_stemsThatBreak_43 (by decide) ?_
    refine w_aload_n (pc := 45) (i := 0) dX1_stemsThatBreak_45 rfl rfl ?_
    refine w_get (pc := 46) dX1_stemsThatBreak_46 FX1_26 hw.1 rfl ?_
    refine w_iload_n (pc := 49) (i := 1) dX1_stemsThatBreak_49 rfl rfl ?_
    refine w_iconst (pc := 50) (v := 2) dX1_stemsThatBreak_50 (by decide) ?_
    refine w_vI (pc := 51) dX1_stemsThatBreak_51 GX1_96 hw.t3.1 (c_at s 2 hw.t3 hB.b3 (by rw [hB.2.2.2.1]; exact hs) (by omega)) rfl rfl rfl rfl ?_
    refine w_imul (pc := 54) dX1_stemsThatBreak_54 ?_
    refine w_iconst (pc := 55) (v := 2) dX1_stemsThatBreak_55 (by decide) ?_
    refine w_aload_n (pc := 56) (i := 0) dX1_stemsThatBreak_56 rfl rfl ?_
    refine w_get (pc := 57) dX1_stemsThatBreak_57 FX1_26 hw.1 rfl ?_
    refine w_iload_n (pc := 60) (i := 1) dX1_stemsThatBreak_60 rfl rfl ?_
    refine w_iconst (pc := 61) (v := 3) dX1_stemsThatBreak_61 (by decide) ?_
    refine w_vI (pc := 62) dX1_stemsThatBreak_62 GX1_96 hw.t3.1 (c_at s 3 hw.t3 hB.b3 (by rw [hB.2.2.2.1]; exact hs) (by omega)) rfl rfl rfl rfl ?_
    refine w_imul (pc := 65) dX1_stemsThatBreak_65 ?_
    refine w_iadd (pc := 66) dX1_stemsThatBreak_66 ?_
    refine w_iload (pc := 67) (i := 4) dX1_stemsThatBreak_67 rfl ?_
    refine w_iadd (pc := 69) dX1_stemsThatBreak_69 ?_
    refine w_iload (pc := 70) (i := 5) dX1_stemsThatBreak_70 rfl ?_
    refine w_iadd (pc := 72) dX1_stemsThatBreak_72 ?_
    refine w_topi (fun x73 e73 => ?_)
    refine w_istore (pc := 73) (i := 6) (ls' := [.ref b, .int (nI s), .int y, .int (σ.1 3 (s * 4 + 0)), .int (kOff (σ.1 3 (s * 4 + 0)) y), .int x41, .int x73]) dX1_stemsThatBreak_73 (by decide) rfl rfl rfl ?_
    have e73 : x73 = kShare σ s y := by rw [e73, e41]; rfl
    subst e73
    refine w_iload (pc := 75) (i := 6) dX1_stemsThatBreak_75 rfl ?_
    refine w_bipush (pc := 77) (v := 100) dX1_stemsThatBreak_77 (by decide) ?_
    refine w_min (pc := 79) dX1_stemsThatBreak_79 LX1_124 (by omega) rfl (Nat.le_of_ble_eq_true rfl) ?_
    refine w_aload_n (pc := 82) (i := 0) dX1_stemsThatBreak_82 rfl rfl ?_
    refine w_get (pc := 83) dX1_stemsThatBreak_83 FX1_26 hw.1 rfl ?_
    refine w_iload_n (pc := 86) (i := 1) dX1_stemsThatBreak_86 rfl rfl ?_
    refine w_iconst (pc := 87) (v := 1) dX1_stemsThatBreak_87 (by decide) ?_
    refine w_vI (pc := 88) dX1_stemsThatBreak_88 GX1_96 hw.t3.1 (c_at s 1 hw.t3 hB.b3 (by rw [hB.2.2.2.1]; exact hs) (by omega)) rfl rfl rfl rfl ?_
    refine w_imul (pc := 91) dX1_stemsThatBreak_91 ?_
    refine w_bipush (pc := 92) (v := 99) dX1_stemsThatBreak_92 (by decide) ?_
    refine w_iadd (pc := 94) dX1_stemsThatBreak_94 ?_
    refine w_bipush (pc := 95) (v := 100) dX1_stemsThatBreak_95 (by decide) ?_
    refine w_idiv (pc := 97) dX1_stemsThatBreak_97 (by decide) ?_
    exact w_ireturn (pc := 98) dX1_stemsThatBreak_98 ⟨_, rfl, rfl⟩ ⟨rfl, rfl⟩
  refine w_iload_n (pc := 27) (i := 1) dX1_stemsThatBreak_27 rfl rfl ?_
  refine w_if_eq (pc := 28) (tgt := 36) dX1_stemsThatBreak_28 (by decide) (fun c28 => ?_) (fun c28 => ?_)
  · refine w_iconst (pc := 36) (v := 5) dX1_stemsThatBreak_36 (by decide) ?_
    refine w_goto (pc := 37) (tgt := 41) dX1_stemsThatBreak_37 (by decide) ?_
    exact key 5 (by rw [if_pos (Or.inl ((nI_eq (b := 0) (by omega) (by omega)).mp c28))])
  · refine w_iload_n (pc := 31) (i := 1) dX1_stemsThatBreak_31 rfl rfl ?_
    refine w_iconst (pc := 32) (v := 5) dX1_stemsThatBreak_32 (by decide) ?_
    refine w_icmp_ne (pc := 33) (tgt := 40) dX1_stemsThatBreak_33 (by decide) (fun c33 => ?_) (fun c33 => ?_)
    · refine w_iconst (pc := 40) (v := 0) dX1_stemsThatBreak_40 (by decide) ?_
      exact key 0 (by rw [if_neg (fun q => q.elim (fun q1 => c28 (by rw [q1]; rfl)) (fun q1 => c33 (by rw [q1]; rfl)))])
    · refine w_iconst (pc := 36) (v := 5) dX1_stemsThatBreak_36 (by decide) ?_
      refine w_goto (pc := 37) (tgt := 41) dX1_stemsThatBreak_37 (by decide) ?_
      exact key 5 (by rw [if_pos (Or.inr ((nI_eq (b := 5) (by omega) (by omega)).mp c33))])
set_option maxHeartbeats 4000000 in
theorem c_stemsThatBreakInAll_loop (y : Int32) (hw : Wk b σ h) (hB : WB σ) : ∀ (m k : Nat), k + m = 6 → WP (d + 2) mX1_stemsThatBreakInAll none 0 0 4 [.ref b, .int y, .int (kStN σ y k), .int (nI k)] [] h (RI (kStN σ y 6) h) := by
  intro m
  induction m with
  | zero =>
    intro k hk
    have hk : k = 6 := by omega
    subst hk
    refine w_iload_n (pc := 4) (i := 3) dX1_stemsThatBreakInAll_4 rfl rfl ?_
    refine w_bipush (pc := 5) (v := 6) dX1_stemsThatBreakInAll_5 (by decide) ?_
    refine w_icmp_ge (pc := 7) (tgt := 25) dX1_stemsThatBreakInAll_7 (by decide) (fun c7 => ?_) (fun c7 => absurd (by decide +kernel) c7)
    refine w_iload_n (pc := 25) (i := 2) dX1_stemsThatBreakInAll_25 rfl rfl ?_
    exact w_ireturn (pc := 26) dX1_stemsThatBreakInAll_26 ⟨_, rfl, rfl⟩ ⟨rfl, rfl⟩
  | succ m ih =>
    intro k hk
    refine w_iload_n (pc := 4) (i := 3) dX1_stemsThatBreakInAll_4 rfl rfl ?_
    refine w_bipush (pc := 5) (v := 6) dX1_stemsThatBreakInAll_5 (by decide) ?_
    refine w_icmp_ge (pc := 7) (tgt := 25) dX1_stemsThatBreakInAll_7 (by decide) (fun c7 => absurd (show nI 6 ≤ nI k from c7) (nI_ge (by omega) (by omega))) (fun c7 => ?_)
    refine w_iload_n (pc := 10) (i := 2) dX1_stemsThatBreakInAll_10 rfl rfl ?_
    refine w_aload_n (pc := 11) (i := 0) dX1_stemsThatBreakInAll_11 rfl rfl ?_
    refine w_iload_n (pc := 12) (i := 3) dX1_stemsThatBreakInAll_12 rfl rfl ?_
    refine w_iload_n (pc := 13) (i := 1) dX1_stemsThatBreakInAll_13 rfl rfl ?_
    refine w_vI (pc := 14) dX1_stemsThatBreakInAll_14 GX1_127 hw.1 (c_stemsThatBreak k y hw hB (by omega)) rfl rfl rfl rfl ?_
    refine w_iadd (pc := 17) dX1_stemsThatBreakInAll_17 ?_
    refine w_topi (fun x18 e18 => ?_)
    refine w_istore_n (pc := 18) (i := 2) (ls' := [.ref b, .int y, .int x18, .int (nI k)]) dX1_stemsThatBreakInAll_18 rfl (by decide) rfl rfl rfl ?_
    obtain ⟨x19, e19⟩ : ∃ y : Int32, y = (nI k) + 1 := ⟨_, rfl⟩
    refine w_iinc (pc := 19) (i := 3) (y := x19) (ls' := [.ref b, .int y, .int x18, .int x19]) dX1_stemsThatBreakInAll_19 rfl (by rw [e19]; rfl) (by decide) rfl rfl rfl ?_
    refine w_goto (pc := 22) (tgt := 4) dX1_stemsThatBreakInAll_22 (by decide) ?_
    obtain rfl : x18 = kStN σ y (k + 1) := e18
    obtain rfl : x19 = nI (k + 1) := by rw [e19]; exact nI_1 k
    exact ih (k + 1) (by omega)
set_option maxHeartbeats 4000000 in
theorem c_stemsThatBreakInAll (y : Int32) (hw : Wk b σ h) (hB : WB σ) : Ct (d + 2) mX1_stemsThatBreakInAll 0 0 [.ref b, .int y] h (RI (kStN σ y 6) h) := by
  refine Ct.of (by decide +kernel) rfl (Nat.le_of_ble_eq_true rfl) ?_
  show WP (d + 2) mX1_stemsThatBreakInAll none 0 0 0 [.ref b, .int y, vU, vU] [] h _
  refine w_iconst (pc := 0) (v := 0) dX1_stemsThatBreakInAll_0 (by decide) ?_
  refine w_topi (fun x1 e1 => ?_)
  refine w_istore_n (pc := 1) (i := 2) (ls' := [.ref b, .int y, .int x1, vU]) dX1_stemsThatBreakInAll_1 rfl (by decide) rfl rfl rfl ?_
  refine w_iconst (pc := 2) (v := 0) dX1_stemsThatBreakInAll_2 (by decide) ?_
  refine w_topi (fun x3 e3 => ?_)
  refine w_istore_n (pc := 3) (i := 3) (ls' := [.ref b, .int y, .int x1, .int x3]) dX1_stemsThatBreakInAll_3 rfl (by decide) rfl rfl rfl ?_
  subst e1
  subst e3
  exact c_stemsThatBreakInAll_loop y hw hB 6 0 rfl
set_option maxHeartbeats 4000000 in
theorem c_bestCoals_loop (hw : Wk b σ h) (hB : WB σ) : ∀ (m k : Nat) (v4 : Value), k + m = 29 → (v4 = vU ∨ ∃ q, v4 = .int q) → WP (d + 3) mX1_bestCoals none 0 0 10 [.ref b, .int (kBs σ k).1, .int (kBs σ k).2, .int (nI (2 + k)), v4] [] h (RI (kBs σ 29).1 h) := by
  intro m
  induction m with
  | zero =>
    intro k v4 hk hv4
    have hk : k = 29 := by omega
    subst hk
    refine w_iload_n (pc := 10) (i := 3) dX1_bestCoals_10 rfl rfl ?_
    refine w_bipush (pc := 11) (v := 30) dX1_bestCoals_11 (by decide) ?_
    refine w_icmp_gt (pc := 13) (tgt := 40) dX1_bestCoals_13 (by decide) (fun c13 => ?_) (fun c13 => absurd (by decide +kernel) c13)
    refine w_iload_n (pc := 40) (i := 1) dX1_bestCoals_40 rfl rfl ?_
    exact w_ireturn (pc := 41) dX1_bestCoals_41 ⟨_, rfl, rfl⟩ ⟨rfl, rfl⟩
  | succ m ih =>
    intro k v4 hk hv4
    have hsv : v4 = vU ∨ ∃ q, v4 = .int q := hv4
    have hokL : okL [.ref b, .int (kBs σ k).1, .int (kBs σ k).2, .int (nI (2 + k)), v4] = true := by rcases hsv with rfl | ⟨q, rfl⟩ <;> rfl
    refine w_iload_n (pc := 10) (i := 3) dX1_bestCoals_10 rfl rfl ?_
    refine w_bipush (pc := 11) (v := 30) dX1_bestCoals_11 (by decide) ?_
    refine w_icmp_gt (pc := 13) (tgt := 40) dX1_bestCoals_13 (by decide) (fun c13 => absurd (show nI 30 < nI (2 + k) from c13) (nI_nlt (by omega) (by omega))) (fun c13 => ?_)
    refine w_aload_n (pc := 16) (i := 0) dX1_bestCoals_16 rfl rfl ?_
    refine w_iload_n (pc := 17) (i := 3) dX1_bestCoals_17 rfl rfl ?_
    refine w_vI (pc := 18) dX1_bestCoals_18 GX1_130 hw.1 (c_stemsThatBreakInAll (nI (2 + k)) hw hB) rfl rfl rfl rfl ?_
    obtain ⟨x21, e21⟩ : ∃ y : Int32, y = kStN σ (nI (2 + k)) 6 := ⟨_, rfl⟩
    rw [← e21]
    refine w_istore (pc := 21) (i := 4) (ls' := [.ref b, .int (kBs σ k).1, .int (kBs σ k).2, .int (nI (2 + k)), .int x21]) dX1_bestCoals_21 (by decide) rfl hokL rfl ?_
    refine w_iload (pc := 23) (i := 4) dX1_bestCoals_23 rfl ?_
    refine w_iload_n (pc := 25) (i := 2) dX1_bestCoals_25 rfl rfl ?_
    refine w_icmp_ge (pc := 26) (tgt := 34) dX1_bestCoals_26 (by decide) (fun c26 => ?_) (fun c26 => ?_)
    · obtain ⟨x34, e34⟩ : ∃ y : Int32, y = (nI (2 + k)) + 1 := ⟨_, rfl⟩
      refine w_iinc (pc := 34) (i := 3) (y := x34) (ls' := [.ref b, .int (kBs σ k).1, .int (kBs σ k).2, .int x34, .int x21]) dX1_bestCoals_34 rfl (by rw [e34]; rfl) (by decide) rfl rfl rfl ?_
      refine w_goto (pc := 37) (tgt := 10) dX1_bestCoals_37 (by decide) ?_
      obtain rfl : x34 = nI (2 + (k + 1)) := by rw [e34]; exact nI_1 (2 + k)
      have h2 := ih (k + 1) (.int x21) (by omega) (Or.inr ⟨_, rfl⟩)
      rw [show kBs σ (k + 1) = kBs σ k from if_neg (by rw [← e21]; exact Int32.not_lt.mpr c26)] at h2
      exact h2
    · refine w_iload_n (pc := 29) (i := 3) dX1_bestCoals_29 rfl rfl ?_
      refine w_topi (fun x30 e30 => ?_)
      refine w_istore_n (pc := 30) (i := 1) (ls' := [.ref b, .int x30, .int (kBs σ k).2, .int (nI (2 + k)), .int x21]) dX1_bestCoals_30 rfl (by decide) rfl rfl rfl ?_
      refine w_iload (pc := 31) (i := 4) dX1_bestCoals_31 rfl ?_
      refine w_topi (fun x33 e33 => ?_)
      refine w_istore_n (pc := 33) (i := 2) (ls' := [.ref b, .int x30, .int x33, .int (nI (2 + k)), .int x21]) dX1_bestCoals_33 rfl (by decide) rfl rfl rfl ?_
      obtain ⟨x34, e34⟩ : ∃ y : Int32, y = (nI (2 + k)) + 1 := ⟨_, rfl⟩
      refine w_iinc (pc := 34) (i := 3) (y := x34) (ls' := [.ref b, .int x30, .int x33, .int x34, .int x21]) dX1_bestCoals_34 rfl (by rw [e34]; rfl) (by decide) rfl rfl rfl ?_
      refine w_goto (pc := 37) (tgt := 10) dX1_bestCoals_37 (by decide) ?_
      obtain rfl : x34 = nI (2 + (k + 1)) := by rw [e34]; exact nI_1 (2 + k)
      subst e30
      subst e33
      have h2 := ih (k + 1) (.int x33) (by omega) (Or.inr ⟨_, rfl⟩)
      rw [show kBs σ (k + 1) = (nI (2 + k), x33) from by rw [e21]; exact if_pos (by rw [← e21]; exact Int32.not_le.mp c26)] at h2
      exact h2
set_option maxHeartbeats 4000000 in
theorem c_bestCoals (hw : Wk b σ h) (hB : WB σ) : Ct (d + 3) mX1_bestCoals 0 0 [.ref b] h (RI (kBs σ 29).1 h) := by
  refine Ct.of (by decide +kernel) rfl (Nat.le_of_ble_eq_true rfl) ?_
  show WP (d + 3) mX1_bestCoals none 0 0 0 [.ref b, vU, vU, vU, vU] [] h _
  refine w_iconst (pc := 0) (v := 1) dX1_bestCoals_0 (by decide) ?_
  refine w_topi (fun x1 e1 => ?_)
  refine w_istore_n (pc := 1) (i := 1) (ls' := [.ref b, .int x1, vU, vU, vU]) dX1_bestCoals_1 rfl (by decide) rfl rfl rfl ?_
  refine w_aload_n (pc := 2) (i := 0) dX1_bestCoals_2 rfl rfl ?_
  refine w_iconst (pc := 3) (v := 1) dX1_bestCoals_3 (by decide) ?_
  refine w_vI (pc := 4) dX1_bestCoals_4 GX1_130 hw.1 (c_stemsThatBreakInAll 1 hw hB) rfl rfl rfl rfl ?_
  refine w_topi (fun x7 e7 => ?_)
  refine w_istore_n (pc := 7) (i := 2) (ls' := [.ref b, .int x1, .int x7, vU, vU]) dX1_bestCoals_7 rfl (by decide) rfl rfl rfl ?_
  refine w_iconst (pc := 8) (v := 2) dX1_bestCoals_8 (by decide) ?_
  refine w_topi (fun x9 e9 => ?_)
  refine w_istore_n (pc := 9) (i := 3) (ls' := [.ref b, .int x1, .int x7, .int x9, vU]) dX1_bestCoals_9 rfl (by decide) rfl rfl rfl ?_
  subst e1
  subst e7
  subst e9
  exact c_bestCoals_loop hw hB 29 0 vU rfl (Or.inl rfl)
end WORKS
end
