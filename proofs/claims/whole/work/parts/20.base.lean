/-! THE MACHINE LAYER: an abstract heap (cells by their number), abstract values (a reference is a cell's number), and one judgement, WP, that hides the machine. -/
def wsAll : List Cond := lw_tbl.filter goodWord
theorem wsAll_tbl {w : Cond} (h : w ∈ wsAll) : w ∈ lw_tbl := (List.mem_filter.mp h).1
theorem wsAll_good {w : Cond} (h : w ∈ wsAll) : goodWord w = true := (List.mem_filter.mp h).2
theorem wsAll_of {w : Cond} (i : Nat) (h : lw_tbl[i]? = some w) (hg : goodWord w = true) : w ∈ wsAll := List.mem_filter.mpr ⟨List.mem_of_getElem? h, hg⟩
/-- a method: name, bytes, locals, what it returns, its exception table -/
abbrev MD : Type := MethodName × ByteArray × Nat × Option FieldType × List (Nat × Nat × Nat × Nat)
abbrev mdY (M : MD) : MethodName := M.1
abbrev mdB (M : MD) : ByteArray := M.2.1
abbrev mdL (M : MD) : Nat := M.2.2.1
abbrev mdR (M : MD) : Option FieldType := M.2.2.2.1
abbrev mdH (M : MD) : List (Nat × Nat × Nat × Nat) := M.2.2.2.2
def wordOf (M : MD) : Cond := match mdH M with
  | [] => .code (mdY M) (mdB M) (mdL M) (mdR M)
  | q :: hs => .codeWith (mdY M) (mdB M) (mdL M) (mdR M) (q :: hs)
/-- marks: a caught exception; the script; a local that is not set -/
abbrev vX : Value := .retAddr 0
abbrev vScr : Value := .retAddr 1
abbrev vU : Value := .retAddr 2
def VR (as : List Nat) (sb : Nat) : Value → Value → Prop
  | .ref i, w => ∃ a, as[i]? = some a ∧ w = .ref a
  | .retAddr k, w => (k = 0 → ∃ q, w = .ref q) ∧ (k = 1 → w = .ref sb)
  | v, w => w = v
def VF (as : List Nat) : Value → Value → Prop
  | .ref i, w => ∃ a, as[i]? = some a ∧ w = .ref a
  | .retAddr _, _ => False
  | v, w => w = v
theorem VF.to {as : List Nat} {sb : Nat} {v w : Value} (h : VF as v w) : VR as sb v w := by
  cases v <;> first | exact h | exact h.elim
def SR (as : List Nat) (sb : Nat) : List Value → List Value → Prop
  | [], [] => True
  | v :: vs, w :: ws => VR as sb v w ∧ SR as sb vs ws
  | _, _ => False
theorem SR.c {as : List Nat} {sb : Nat} {v : Value} {vs st : List Value} (h : SR as sb (v :: vs) st) : ∃ w t, st = w :: t ∧ VR as sb v w ∧ SR as sb vs t := by
  cases st with
  | nil => exact h.elim
  | cons w t => exact ⟨w, t, rfl, h⟩
theorem SR.n {as : List Nat} {sb : Nat} {st : List Value} (h : SR as sb [] st) : st = [] := by
  cases st with
  | nil => rfl
  | cons w t => exact h.elim
def Gr (as as' : List Nat) : Prop := ∀ (i a : Nat), as[i]? = some a → as'[i]? = some a
theorem Gr.rf {as : List Nat} : Gr as as := fun _ _ h => h
theorem Gr.tr {a b c : List Nat} (h : Gr a b) (k : Gr b c) : Gr a c := fun i x q => k i x (h i x q)
theorem Gr.app (a b : List Nat) : Gr a (a ++ b) := fun i x q => by
  rw [List.getElem?_append_left (List.getElem?_eq_some_iff.mp q).1]; exact q
theorem VR.gr {as as' : List Nat} {sb : Nat} {v w : Value} (g : Gr as as') (h : VR as sb v w) : VR as' sb v w := by
  cases v <;> first | exact h | (obtain ⟨a, h1, h2⟩ := h; exact ⟨a, g _ _ h1, h2⟩)
theorem VF.gr {as as' : List Nat} {v w : Value} (g : Gr as as') (h : VF as v w) : VF as' v w := by
  cases v <;> first | exact h | (obtain ⟨a, h1, h2⟩ := h; exact ⟨a, g _ _ h1, h2⟩)
theorem SR.gr {as as' : List Nat} {sb : Nat} (g : Gr as as') : ∀ {st tv : List Value}, SR as sb st tv → SR as' sb st tv
  | [], [], h => h
  | _ :: _, _ :: _, h => ⟨VR.gr g h.1, SR.gr g h.2⟩
  | [], _ :: _, h => h
  | _ :: _, [], h => h
def LR (as : List Nat) (sb n : Nat) (ls : List Value) (L : Array Slot) : Prop :=
  ls.length = n ∧ L.size = n ∧ lv_wf L ∧ ∀ (i : Nat) (v : Value), ls[i]? = some v → v ≠ vU → ∃ w, L[i]? = some (.val w) ∧ VR as sb v w
theorem LR.gr {as as' : List Nat} {sb n : Nat} {ls : List Value} {L : Array Slot} (g : Gr as as') (h : LR as sb n ls L) : LR as' sb n ls L :=
  ⟨h.1, h.2.1, h.2.2.1, fun i v h1 h2 => by obtain ⟨w, h3, h4⟩ := h.2.2.2 i v h1 h2; exact ⟨w, h3, VR.gr g h4⟩⟩
/-- all values that the locals hold -/
def lsVals (L : Array Slot) : List (Nat × Value) := (List.range L.size).filterMap fun (i : Nat) => match (L[i]? : Option Slot) with
  | some (.val w) => some (i, w)
  | _ => none
theorem lsVals_in {L : Array Slot} {i : Nat} {w : Value} : (i, w) ∈ lsVals L ↔ L[i]? = some (.val w) := by
  unfold lsVals
  rw [List.mem_filterMap]
  constructor
  · rintro ⟨j, hj, h⟩
    split at h
    next w' hw => cases h; exact hw
    next => cases h
  · intro h
    exact ⟨i, List.mem_range.mpr (Array.getElem?_eq_some_iff.mp h).1, by rw [h]⟩
theorem LR.has {as : List Nat} {sb n : Nat} {ls : List Value} {L : Array Slot} (h : LR as sb n ls L) : lv_has L n (lsVals L) :=
  ⟨h.2.1, h.2.2.1, fun q hq => lsVals_in.mp (by obtain ⟨a, b⟩ := q; exact hq)⟩
def wide (v : Value) : Bool := match v with
  | .long _ => true
  | .double _ => true
  | _ => false
/-- no wide value ends in local i -/
def okS (ls : List Value) (i : Nat) : Bool := match i with
  | 0 => true
  | j + 1 => match ls[j]? with
    | some v => !wide v
    | none => true
theorem VR.cat {as : List Nat} {sb : Nat} {v w : Value} (h : VR as sb v w) (hv : v ≠ vU) (hk : ∀ k, v = .retAddr k → k = 0 ∨ k = 1) : w.category = if wide v then 2 else 1 := by
  cases v with
  | ref i => obtain ⟨a, -, rfl⟩ := h; rfl
  | retAddr k =>
    rcases hk k rfl with rfl | rfl
    · obtain ⟨q, rfl⟩ := h.1 rfl; rfl
    · rw [h.2 rfl]; rfl
  | int _ => cases h; rfl
  | long _ => cases h; rfl
  | float _ => cases h; rfl
  | double _ => cases h; rfl
  | null => cases h; rfl
/-- which values locals and stack may hold -/
def okV (v : Value) : Bool := match v with
  | .retAddr k => decide (k ≤ 2)
  | _ => true
def okL (ls : List Value) : Bool := ls.all okV
theorem LR.store1 {as : List Nat} {sb n : Nat} {ls : List Value} {L L' : Array Slot} {i : Nat} {v w : Value} (h : LR as sb n ls L) (hi : i < n) (hv : VR as sb v w) (ho : okS ls i = true) (hw : ∀ (j : Nat) (u : Value), ls[j]? = some u → okV u = true)
    (h2 : lv_has L' n ((i, w) :: (lsVals L).filter (fun q => !(q.1 == i) && !(q.1 + 1 == i && q.2.category == 2)))) : LR as sb n (ls.set i v) L' := by
  refine ⟨by rw [List.length_set]; exact h.1, h2.1, h2.2.1, fun j u hj hu => ?_⟩
  by_cases e : j = i
  · subst e
    rw [List.getElem?_set_self (by rw [h.1]; exact hi)] at hj
    cases hj
    exact ⟨w, h2.2.2 (j, w) List.mem_cons_self, hv⟩
  · rw [List.getElem?_set_ne (Ne.symm e)] at hj
    obtain ⟨x, h3, h4⟩ := h.2.2.2 j u hj hu
    refine ⟨x, h2.2.2 (j, x) (List.mem_cons_of_mem _ (List.mem_filter.mpr ⟨lsVals_in.mpr h3, ?_⟩)), h4⟩
    have c1 : (j == i) = false := by simp [e]
    by_cases e1 : j + 1 = i
    · subst e1
      have hc := h4.cat hu (fun k hk => by
        have h5 := hw j u hj
        rw [hk] at h5 hu
        have h6 : k ≤ 2 := by simpa [okV] using h5
        have h7 : k ≠ 2 := fun q => hu (by rw [q])
        omega)
      have h8 : wide u = false := by
        have : okS ls (j + 1) = (match ls[j]? with | some v => !wide v | none => true) := rfl
        rw [this, hj] at ho
        simpa using ho
      rw [h8] at hc
      have hc1 : x.category = 1 := hc
      simp [e, hc1]
    · simp [e, e1]
theorem LR.store2 {as : List Nat} {sb n : Nat} {ls : List Value} {L L' : Array Slot} {i : Nat} {v w : Value} (h : LR as sb n ls L) (hi : i + 1 < n) (hv : VR as sb v w) (ho : okS ls i = true) (hw : ∀ (j : Nat) (u : Value), ls[j]? = some u → okV u = true)
    (h2 : lv_has L' n ((i, w) :: (lsVals L).filter (fun q => !(q.1 == i) && (!(q.1 == i + 1) && !(q.1 + 1 == i && q.2.category == 2))))) : LR as sb n ((ls.set i v).set (i + 1) vU) L' := by
  refine ⟨by rw [List.length_set, List.length_set]; exact h.1, h2.1, h2.2.1, fun j u hj hu => ?_⟩
  by_cases e2 : j = i + 1
  · subst e2
    rw [List.getElem?_set_self (by rw [List.length_set, h.1]; exact hi)] at hj
    cases hj
    exact absurd rfl hu
  · rw [List.getElem?_set_ne (Ne.symm e2)] at hj
    by_cases e : j = i
    · subst e
      rw [List.getElem?_set_self (by rw [h.1]; omega)] at hj
      cases hj
      exact ⟨w, h2.2.2 (j, w) List.mem_cons_self, hv⟩
    · rw [List.getElem?_set_ne (Ne.symm e)] at hj
      obtain ⟨x, h3, h4⟩ := h.2.2.2 j u hj hu
      refine ⟨x, h2.2.2 (j, x) (List.mem_cons_of_mem _ (List.mem_filter.mpr ⟨lsVals_in.mpr h3, ?_⟩)), h4⟩
      by_cases e1 : j + 1 = i
      · subst e1
        have hc := h4.cat hu (fun k hk => by
          have h5 := hw j u hj
          rw [hk] at h5 hu
          have h6 : k ≤ 2 := by simpa [okV] using h5
          have h7 : k ≠ 2 := fun q => hu (by rw [q])
          omega)
        have h8 : wide u = false := by
          have : okS ls (j + 1) = (match ls[j]? with | some v => !wide v | none => true) := rfl
          rw [this, hj] at ho
          simpa using ho
        rw [h8] at hc
        have hc1 : x.category = 1 := hc
        simp [e, e2, hc1]
      · simp [e, e1, e2]
theorem okL_at {ls : List Value} (h : okL ls = true) : ∀ (j : Nat) (u : Value), ls[j]? = some u → okV u = true := fun j u hj => List.all_eq_true.mp h u (List.mem_of_getElem? hj)
/-! cells -/
abbrev AC : Type := vp_A ⊕ (Nat × List Value)
abbrev AH : Type := List AC
abbrev TC : Type := ClassId × ClassId × ClassId
def tys3 (tc : TC) : List (ClassId × FieldType) := [(tc.1, .int), (tc.2.1, .long), (tc.2.2, .array .int)]
abbrev cls5 : List vw_C := [(RX0, TX0, 3), (RX1, TX1, 17), (RX2, TX2, 2), (RX3, TX3, 18), (RX4, TX4, 9)]
def RF (as : List Nat) : Option Nat → Option Nat → Prop
  | none, g => g = none
  | some i, g => ∃ a, as[i]? = some a ∧ g = some a
def CR (as : List Nat) (tc : TC) : AC → va_E → Prop
  | .inl (n, .inl f), e => e = .inl (tc.1, n, .inl f)
  | .inl (n, .inr (.inl f)), e => e = .inl (tc.2.1, n, .inr (.inl f))
  | .inl (n, .inr (.inr (.inr (.inr f)))), e => ∃ g, e = .inl (tc.2.2, n, .inr (.inr (.inr (.inr g)))) ∧ ∀ j, j < n → RF as (f j) (g j)
  | .inr (ci, fs), e => ∃ vs, e = .inr (ci, vs) ∧ vs.length = fs.length ∧ ∀ (k : Nat) (v : Value), fs[k]? = some v → ∃ w, vs[k]? = some w ∧ VF as v w
  | _, _ => False
theorem RF.gr {as as' : List Nat} {x y : Option Nat} (g : Gr as as') (h : RF as x y) : RF as' x y := by
  cases x with
  | none => exact h
  | some i => obtain ⟨a, h1, h2⟩ := h; exact ⟨a, g _ _ h1, h2⟩
theorem CR.gr {as as' : List Nat} {tc : TC} {c : AC} {e : va_E} (g : Gr as as') (h : CR as tc c e) : CR as' tc c e := by
  rcases c with ⟨n, f | f | f | f | f⟩ | ⟨ci, fs⟩
  · exact h
  · exact h
  · exact h
  · exact h
  · obtain ⟨q, h1, h2⟩ := h
    exact ⟨q, h1, fun j hj => RF.gr g (h2 j hj)⟩
  · obtain ⟨vs, h1, h2, h3⟩ := h
    exact ⟨vs, h1, h2, fun k v hk => by obtain ⟨w, h4, h5⟩ := h3 k v hk; exact ⟨w, h4, VF.gr g h5⟩⟩
def HR (as : List Nat) (tc : TC) (h : AH) (ws : va_W) : Prop :=
  as.length = h.length ∧ ws.length = h.length ∧ ∀ (i : Nat) (c : AC), h[i]? = some c → ∃ (a : Nat) (e : va_E), as[i]? = some a ∧ ws[i]? = some (a, e) ∧ CR as tc c e
theorem HR.set {as : List Nat} {tc : TC} {h : AH} {ws : va_W} {i a : Nat} {c : AC} {e : va_E} (hr : HR as tc h ws) (ha : as[i]? = some a) (hc : CR as tc c e) : HR as tc (h.set i c) (ws.set i (a, e)) := by
  have hi : i < h.length := by rw [← hr.1]; exact (List.getElem?_eq_some_iff.mp ha).1
  refine ⟨by rw [List.length_set]; exact hr.1, by rw [List.length_set, List.length_set]; exact hr.2.1, fun j c' hj => ?_⟩
  by_cases e1 : j = i
  · subst e1
    rw [List.getElem?_set_self hi] at hj
    cases hj
    exact ⟨a, e, ha, List.getElem?_set_self (by rw [hr.2.1]; exact hi), hc⟩
  · rw [List.getElem?_set_ne (Ne.symm e1)] at hj
    obtain ⟨a', e', h1, h2, h3⟩ := hr.2.2 j c' hj
    exact ⟨a', e', h1, by rw [List.getElem?_set_ne (Ne.symm e1)]; exact h2, h3⟩
theorem HR.push {as : List Nat} {tc : TC} {h : AH} {ws : va_W} {a : Nat} {c : AC} {e : va_E} (hr : HR as tc h ws) (hc : CR as tc c e) : HR (as ++ [a]) tc (h ++ [c]) (ws ++ [(a, e)]) := by
  refine ⟨by simp [hr.1], by simp [hr.2.1], fun j c' hj => ?_⟩
  by_cases hl : j < h.length
  · rw [List.getElem?_append_left hl] at hj
    obtain ⟨a', e', h1, h2, h3⟩ := hr.2.2 j c' hj
    refine ⟨a', e', Gr.app _ _ _ _ h1, ?_, CR.gr (Gr.app _ _) h3⟩
    rw [List.getElem?_append_left (by rw [hr.2.1]; exact hl)]
    exact h2
  · have hlt := (List.getElem?_eq_some_iff.mp hj).1
    rw [List.length_append] at hlt
    have : j = h.length := by simp at hlt; omega
    subst this
    rw [List.getElem?_append_right (Nat.le_refl _), Nat.sub_self] at hj
    cases hj
    refine ⟨a, e, ?_, ?_, CR.gr (Gr.app _ _) hc⟩
    · rw [← hr.1, List.getElem?_append_right (Nat.le_refl _), Nat.sub_self]; rfl
    · rw [← hr.2.1, List.getElem?_append_right (Nat.le_refl _), Nat.sub_self]; rfl
/-! what else holds at every call: the throwables' statics, the texts, the nest mates' words -/
def isNest : Cond → Bool
  | .fieldLinkNest .. => true
  | .methodLinkNest .. => true
  | .declares _ => true
  | .castable .. => true
  | _ => false
def nestW : List Cond := lw_tbl.filter isNest
def exNames : List String := ["java/lang/IllegalArgumentException", "java/lang/IllegalStateException", "java/lang/IndexOutOfBoundsException"]
def EX (A : Nat → Prop) (U : State) (H : Heap) : Prop :=
  vx_Zq Bundle.tN "UNASSIGNED_STACK" Bundle.steD A U H ∧ vx_Zq Bundle.tN "SUPPRESSED_SENTINEL" Bundle.listD A U H ∧
  (∃ a, vk_R RX2 172 "an argument is out of its range" a U) ∧ (∃ a, vk_R RX2 177 "this can not be done now" a U) ∧ (∃ a, vk_R RX2 165 "there is no such number" a U) ∧
  (∀ w ∈ nestW, va_Nw w U) ∧ va_AOA .int U ∧ (∀ a ∈ exNames, ∀ b ∈ exNames, a ≠ b → va_Nc a b U) ∧ (∀ a ∈ exNames, va_Nw (.castable a a) U)
theorem nest_warm {w : Cond} {s U : State} (hn : isNest w = true) (hW : s.WarmedH U.vm) (h : va_Nw w s) : va_Nw w U := by
  cases w <;> first | exact va_Nw.warmF hW h | exact va_Nw.warmM hW h | exact va_Nw.warmD hW h | exact va_Nw.warmC hW h | (exfalso; revert hn; simp [isNest])
theorem va_AOA.moved {ty : FieldType} {u U : State} (hvm : u.vm.Alike U.vm) (h : va_AOA ty u) : va_AOA ty U := by
  unfold va_AOA Cond.before Cond.holds at h
  simp only [Cond.value, beq_iff_eq] at h
  cases hc : u.vm.findClass (FieldType.array ty).toString with
  | none => simp [hc] at h
  | some comp =>
    simp only [hc, Option.bind_some, Option.bind_eq_some_iff, Option.map_eq_some_iff] at h
    obtain ⟨c, hi, k, hk, hb⟩ := h
    obtain ⟨k', hk', he⟩ := hvm.2.2 _ _ hk
    have hi' : (U.vm.classes.findIdx? fun (x : Class) => match x.kind with | .array component _ => component == comp | _ => false) = some c := by
      have e1 := va_idx_bare U.vm comp
      have e2 := va_idx_bare u.vm comp
      have e3 : U.vm.bare = u.vm.bare := by first | exact hvm.bare_eq | exact hvm.bare_eq.symm
      rw [e3] at e1
      exact e1.symm.trans (e2.trans hi)
    have f1 : U.vm.findClass (FieldType.array ty).toString = some comp := by rw [hvm.findClass]; exact hc
    have hkind : k'.kind = k.kind := by rw [he]
    unfold va_AOA Cond.before Cond.holds
    simp only [Cond.value]
    rw [f1, Option.bind_some]
    refine (congrArg (fun o : Option Nat => (o.bind (fun c => (U.vm.classes[c]?).map fun (k : Class) => match k.kind with | .array _ ty' => decide (ty' = FieldType.array ty) && decide (U.vm.findClass ("[" ++ (FieldType.array ty).toString) = some c) | _ => false) == some true)) hi').trans ?_
    simp only [Option.bind_some, hk', Option.map_some, hkind, hvm.findClass]
    rw [beq_iff_eq]
    exact congrArg some hb
theorem EX.go {A B : Nat → Prop} {s U : State} {H : Heap} (h : EX A s s.heap) (hW : s.WarmedH U.vm) (hk : ∀ q, q < s.heap.size → ¬ A q → H[q]? = s.heap[q]?) (hAB : ∀ q, B q → A q) : EX B U H := by
  obtain ⟨h1, h2, ⟨a1, h3⟩, ⟨a2, h4⟩, ⟨a3, h5⟩, h6, h7, h8, h9⟩ := h
  refine ⟨((vx_Zq.moved hW.alike h1).kept hk).narrow hAB, ((vx_Zq.moved hW.alike h2).kept hk).narrow hAB, ⟨a1, vk_R.warm hW h3⟩, ⟨a2, vk_R.warm hW h4⟩, ⟨a3, vk_R.warm hW h5⟩, fun w hw => nest_warm (List.mem_filter.mp hw).2 hW (h6 w hw), va_AOA.moved hW.alike h7, fun a ha b hb hab => va_Nc.moved hW.alike (h8 a ha b hb hab), fun a ha => va_Nw.warmC hW (h9 a ha)⟩
/-! the judgement -/
abbrev AO : Type := Option Value ⊕ String
def Cx (d : Nat) (M : MD) (p : Program) (l : Launch) (R : Room) (s : State) (m : MethodId) (args : Array Value) (meth : Method) (c : Code) : Prop :=
  p.tables.exec = Jvm.exec ∧ c.code = mdB M ∧ c.maxLocals = mdL M ∧ meth.sig.returnType = mdR M ∧ s.vm.findClass (mdY M).cls = some m.cls ∧ (∀ w ∈ wsAll, w.before args s = true) ∧ meth.locks = false ∧ meth.name = (mdY M).name ∧ l.stackTraces = false ∧ c.exceptionTable.toList = tableOf (mdH M) ∧ d ≤ R.frames ∧ 35 * d ≤ R.locals
def Ix (D : va_G) (tc : TC) (A : Nat → Prop) (s : State) (as : List Nat) (h : AH) (ws : va_W) (H : Heap) (locs : List Loc) : Prop :=
  va_K D cls5 (tys3 tc) s ∧ EX A s s.heap ∧ (∀ q, s.heap.size ≤ q → A q) ∧ HR as tc h ws ∧ va_P D cls5 ws H ∧ va_D A ws ∧ va_S A s.heap H locs
def Sx (z : Option (Nat × (Nat → Int32))) (sb : Nat) (A : Nat → Prop) (s : State) : Prop := ∀ L xs, z = some (L, xs) → va_X sb L xs s s.heap ∧ sb < s.heap.size ∧ ¬ A sb
def OV (as : List Nat) : Option Value → Option Value → Prop
  | none, w => w = none
  | some v, w => ∃ x, w = some x ∧ VF as v x
def retAt (M : MD) (pc : Nat) : Option Value → Prop
  | none => decode (mdB M) pc = .ok (.return_, 1) ∧ mdR M = none
  | some (.int x) => decode (mdB M) pc = .ok (.ireturn, 1) ∧ ∃ ty, mdR M = some ty ∧ narrow ty (.int x) = .int x
  | some (.long _) => decode (mdB M) pc = .ok (.lreturn, 1) ∧ mdR M = some .long
  | some (.double _) => decode (mdB M) pc = .ok (.dreturn, 1) ∧ mdR M = some .double
  | some (.ref _) => decode (mdB M) pc = .ok (.areturn, 1) ∧ ∃ rt, mdR M = some rt ∧ ((∃ n, rt = .object n) ∨ ∃ t, rt = .array t)
  | _ => False
def Kr (M : MD) (P : AO → AH → Prop) (D : va_G) (tc : TC) (A : Nat → Prop) (p : Program) (l : Launch) (e : Env) (R : Room) (s : State) (m : MethodId) (args : Array Value) (below : List Frame) (meth : Method) (c : Code) (as : List Nat) (Q : State → Prop) : Prop :=
  ∀ (H : Heap) (locs : List Loc) (cells slots : Nat) (as' : List Nat) (h : AH) (ws : va_W) (pc : Nat) (L : Array Slot) (av vv : Option Value),
    P (.inl av) h → Gr as as' → Ix D tc A s as' h ws H locs → cells ≤ R.cells → slots ≤ R.slots → OV as' av vv → retAt M pc av →
    W p l e R s m args below meth c H locs cells slots Q (F0 m pc L vv.toList)
def Kt (M : MD) (P : AO → AH → Prop) (D : va_G) (tc : TC) (A : Nat → Prop) (p : Program) (l : Launch) (e : Env) (R : Room) (s : State) (m : MethodId) (args : Array Value) (below : List Frame) (meth : Method) (c : Code) (as : List Nat) (Q : State → Prop) : Prop :=
  ∀ (H : Heap) (locs : List Loc) (cells slots : Nat) (as' : List Nat) (h : AH) (ws : va_W) (pc : Nat) (L : Array Slot) (rest : List Value) (E : String) (ce : Cell) (q : Addr),
    P (.inr E) h → Gr as as' → Ix D tc A s as' h ws H locs → cells ≤ R.cells → slots ≤ R.slots → H[q]? = some ce → ce.vm = .none → s.vm.findClass E = some ce.cls → (∀ x ∈ tableOf (mdH M), covers x pc = false) →
    vx_W p l e R s m args below meth c H locs cells slots Q (F0 m pc L rest) q
def WP (d : Nat) (M : MD) (z : Option (Nat × (Nat → Int32))) (k n pc : Nat) (ls st : List Value) (h : AH) (P : AO → AH → Prop) : Prop :=
  ∀ ⦃p : Program⦄ ⦃l : Launch⦄ ⦃e : Env⦄ ⦃R : Room⦄ ⦃s : State⦄ ⦃m : MethodId⦄ ⦃args : Array Value⦄ ⦃below : List Frame⦄ ⦃meth : Method⦄ ⦃c : Code⦄ ⦃D : va_G⦄ ⦃tc : TC⦄ ⦃A : Nat → Prop⦄ ⦃H : Heap⦄ ⦃locs : List Loc⦄ ⦃cells slots : Nat⦄ ⦃as : List Nat⦄ ⦃ws : va_W⦄ ⦃L : Array Slot⦄ ⦃sv : List Value⦄ ⦃sb : Nat⦄ ⦃Q : State → Prop⦄,
    Cx d M p l R s m args meth c → Ix D tc A s as h ws H locs → Sx z sb A s → LR as sb (mdL M) ls L → SR as sb st sv → cells + k ≤ R.cells → slots + n ≤ R.slots →
    Kr M P D tc A p l e R s m args below meth c as Q → Kt M P D tc A p l e R s m args below meth c as Q →
    W p l e R s m args below meth c H locs cells slots Q (F0 m pc L sv)
/-- the same, with E thrown over the frame -/
def WX (d : Nat) (M : MD) (z : Option (Nat × (Nat → Int32))) (k n pc : Nat) (ls : List Value) (E : String) (h : AH) (P : AO → AH → Prop) : Prop :=
  ∀ ⦃p : Program⦄ ⦃l : Launch⦄ ⦃e : Env⦄ ⦃R : Room⦄ ⦃s : State⦄ ⦃m : MethodId⦄ ⦃args : Array Value⦄ ⦃below : List Frame⦄ ⦃meth : Method⦄ ⦃c : Code⦄ ⦃D : va_G⦄ ⦃tc : TC⦄ ⦃A : Nat → Prop⦄ ⦃H : Heap⦄ ⦃locs : List Loc⦄ ⦃cells slots : Nat⦄ ⦃as : List Nat⦄ ⦃ws : va_W⦄ ⦃L : Array Slot⦄ ⦃rest : List Value⦄ ⦃sb : Nat⦄ ⦃Q : State → Prop⦄ ⦃ce : Cell⦄ ⦃q : Addr⦄,
    Cx d M p l R s m args meth c → Ix D tc A s as h ws H locs → Sx z sb A s → LR as sb (mdL M) ls L → cells + k ≤ R.cells → slots + n ≤ R.slots →
    Kr M P D tc A p l e R s m args below meth c as Q → Kt M P D tc A p l e R s m args below meth c as Q → H[q]? = some ce → ce.vm = .none → s.vm.findClass E = some ce.cls →
    vx_W p l e R s m args below meth c H locs cells slots Q (F0 m pc L rest) q
theorem Kr.gr {M : MD} {P : AO → AH → Prop} {D : va_G} {tc : TC} {A : Nat → Prop} {p : Program} {l : Launch} {e : Env} {R : Room} {s : State} {m : MethodId} {args : Array Value} {below : List Frame} {meth : Method} {c : Code} {as as' : List Nat} {Q : State → Prop}
    (g : Gr as as') (h : Kr M P D tc A p l e R s m args below meth c as Q) : Kr M P D tc A p l e R s m args below meth c as' Q := fun H locs cells slots as2 h2 ws pc L av vv h1 g2 => h H locs cells slots as2 h2 ws pc L av vv h1 (g.tr g2)
theorem Kt.gr {M : MD} {P : AO → AH → Prop} {D : va_G} {tc : TC} {A : Nat → Prop} {p : Program} {l : Launch} {e : Env} {R : Room} {s : State} {m : MethodId} {args : Array Value} {below : List Frame} {meth : Method} {c : Code} {as as' : List Nat} {Q : State → Prop}
    (g : Gr as as') (h : Kt M P D tc A p l e R s m args below meth c as Q) : Kt M P D tc A p l e R s m args below meth c as' Q := fun H locs cells slots as2 h2 ws pc L rest E ce q h1 g2 => h H locs cells slots as2 h2 ws pc L rest E ce q h1 (g.tr g2)
