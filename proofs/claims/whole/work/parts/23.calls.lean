/-! calls -/
/-- the arguments' values -/
def AR (as : List Nat) : List Value → List Value → Prop
  | [], [] => True
  | v :: vs, w :: ws => VF as v w ∧ AR as vs ws
  | _, _ => False
theorem AR.len {as : List Nat} : ∀ {a b : List Value}, AR as a b → a.length = b.length
  | [], [], _ => rfl
  | _ :: _, _ :: _, h => by rw [List.length_cons, List.length_cons, AR.len h.2]
  | [], _ :: _, h => h.elim
  | _ :: _, [], h => h.elim
/-- no mark among them -/
def noX (l : List Value) : Bool := l.all fun v => match v with
  | .retAddr _ => false
  | _ => true
theorem AR.of {as : List Nat} {sb : Nat} : ∀ {a b : List Value}, SR as sb a b → noX a = true → AR as a b
  | [], [], _, _ => trivial
  | v :: vs, w :: ws, h, hn => by
    have h1 : noX vs = true := by
      unfold noX at hn ⊢
      simp only [List.all_cons, Bool.and_eq_true] at hn
      exact hn.2
    refine ⟨VRF h.1 (fun q hq => ?_), AR.of h.2 h1⟩
    subst hq
    simp [noX] at hn
  | [], _ :: _, h, _ => h.elim
  | _ :: _, [], h, _ => h.elim
theorem SR.rev {as : List Nat} {sb : Nat} : ∀ {a b : List Value} {x y : List Value}, SR as sb a b → SR as sb x y → SR as sb (a.reverse ++ x) (b.reverse ++ y)
  | [], [], _, _, _, h => h
  | v :: vs, w :: ws, x, y, h, hx => by
    rw [List.reverse_cons, List.reverse_cons, List.append_assoc, List.append_assoc]
    exact SR.rev h.2 ⟨h.1, hx⟩
  | [], _ :: _, _, _, h, _ => h.elim
  | _ :: _, [], _, _, h, _ => h.elim
theorem SR.app {as : List Nat} {sb : Nat} : ∀ {a x y : List Value}, SR as sb (a ++ x) y → ∃ b y', y = b ++ y' ∧ SR as sb a b ∧ SR as sb x y'
  | [], x, y, h => ⟨[], y, rfl, trivial, h⟩
  | v :: vs, x, [], h => h.elim
  | v :: vs, x, w :: ws, h => by
    obtain ⟨b, y', e, h1, h2⟩ := SR.app (a := vs) h.2
    exact ⟨w :: b, y', by rw [e]; rfl, ⟨h.1, h1⟩, h2⟩
theorem SR.len {as : List Nat} {sb : Nat} : ∀ {a b : List Value}, SR as sb a b → a.length = b.length
  | [], [], _ => rfl
  | _ :: _, _ :: _, h => by rw [List.length_cons, List.length_cons, SR.len h.2]
  | [], _ :: _, h => h.elim
  | _ :: _, [], h => h.elim
theorem SR.unrev {as : List Nat} {sb : Nat} {a x y : List Value} (h : SR as sb (a.reverse ++ x) y) : ∃ b y', y = b.reverse ++ y' ∧ SR as sb a b ∧ SR as sb x y' := by
  obtain ⟨b, y', e, h1, h2⟩ := SR.app h
  refine ⟨b.reverse, y', by rw [e, List.reverse_reverse], ?_, h2⟩
  have h3 := SR.rev h1 (show SR as sb [] [] from trivial)
  rw [List.reverse_reverse, List.append_nil, List.append_nil] at h3
  exact h3
/-- how wide a stack is, as the abstract values tell it -/
def catsum (l : List Value) : Nat := (l.map fun v => if wide v then 2 else 1).sum
def okK (l : List Value) : Bool := l.all fun v => match v with
  | .retAddr k => decide (k ≤ 1)
  | _ => true
theorem SR.cats {as : List Nat} {sb : Nat} : ∀ {a b : List Value}, SR as sb a b → okK a = true → (b.map fun v => v.category).sum = catsum a
  | [], [], _, _ => rfl
  | v :: vs, w :: ws, h, hn => by
    have h1 : okK vs = true := by
      unfold okK at hn ⊢
      simp only [List.all_cons, Bool.and_eq_true] at hn
      exact hn.2
    have h2 := SR.cats h.2 h1
    have h3 : w.category = if wide v then 2 else 1 := h.1.cat (fun q => by
      subst q
      simp [okK] at hn) (fun k q => by
      subst q
      simp [okK] at hn
      omega)
    unfold catsum at h2 ⊢
    rw [List.map_cons, List.sum_cons, List.map_cons, List.sum_cons, h2, h3]
  | [], _ :: _, h, _ => h.elim
  | _ :: _, [], h, _ => h.elim
def wsM (M : MD) : List Cond := wordOf M :: wsAll
/-- the start of a call -/
def CPre (D : va_G) (tc : TC) (ws : va_W) (sz : Nat) (vs : List Value) : Array Value → State → Prop :=
  va_Pc vs (fun U => U.heap.size = sz ∧ va_P D cls5 ws U.heap ∧ va_K D cls5 (tys3 tc) U ∧ va_D (fun _ => True) ws ∧ EX (va_A ws sz) U U.heap)
def CQ (P : AO → AH → Prop) (D : va_G) (tc : TC) (as : List Nat) (ws : va_W) (sz : Nat) : Array Value → State → Outcome → State → Prop := fun _ st o t =>
  (∃ (av vv : Option Value) (h : AH) (as' : List Nat) (ws' : va_W), o = .returned vv ∧ P (.inl av) h ∧ Gr as as' ∧ OV as' av vv ∧ HR as' tc h ws' ∧ va_P D cls5 ws' t.heap ∧ va_K D cls5 (tys3 tc) t ∧ va_D (va_A ws sz) ws') ∧ va_F (va_A ws sz) st t
def CX (P : AO → AH → Prop) (D : va_G) (tc : TC) (as : List Nat) (ws : va_W) (sz : Nat) : String → State → State → Prop := fun E st t =>
  (∃ (h : AH) (as' : List Nat) (ws' : va_W), P (.inr E) h ∧ Gr as as' ∧ HR as' tc h ws' ∧ va_P D cls5 ws' t.heap ∧ va_K D cls5 (tys3 tc) t ∧ va_D (va_A ws sz) ws') ∧ va_F (va_A ws sz) st t
/-- a method's contract -/
def Ct (d : Nat) (M : MD) (k n : Nat) (As : List Value) (h : AH) (P : AO → AH → Prop) : Prop :=
  ∀ (l : Launch) (D : va_G) (tc : TC) (as : List Nat) (ws : va_W) (vs : List Value) (sz : Nat), l.stackTraces = false → HR as tc h ws → AR as As vs →
    vx_Met l (mdY M) (wsM M) { frames := d, cells := k, slots := n, locals := 35 * d } (CPre D tc ws sz vs) (CQ P D tc as ws sz) (CX P D tc as ws sz) k n (va_A ws sz)
theorem CPre.blind {D : va_G} {tc : TC} {ws : va_W} {sz : Nat} {vs : List Value} : FrameBlind (CPre D tc ws sz vs) := by
  intro a U g mk hp
  obtain ⟨h1, h2, h3, h4, h5, h6⟩ := hp
  exact ⟨h1, h2, h3, va_K.moved (u := U) (U := U.calling g mk a) (Vm.Alike.refl U.vm) h4, h5, EX.go (s := U) (A := va_A ws sz) h6 (State.WarmedH.refl U) (fun q _ _ => rfl) (fun _ x => x)⟩
/-- the entry's locals -/
def entL (nL : Nat) (As : List Value) : List Value := (As.flatMap fun v => if wide v then [v, vU] else [v]) ++ List.replicate (nL - (As.flatMap fun v => if wide v then [v, vU] else [v]).length) vU
theorem VF.wide {as : List Nat} {v w : Value} (h : VF as v w) : w.category = if wide v then 2 else 1 := by
  cases v with
  | ref i => obtain ⟨a, -, rfl⟩ := h; rfl
  | retAddr k => exact h.elim
  | int _ => cases h; rfl
  | long _ => cases h; rfl
  | float _ => cases h; rfl
  | double _ => cases h; rfl
  | null => cases h; rfl
theorem ent_at {as : List Nat} : ∀ {As vs : List Value}, AR as As vs → ∀ (b i : Nat) (v : Value), (As.flatMap fun v => if wide v then [v, vU] else [v])[i]? = some v → v ≠ vU → ∃ w, (b + i, w) ∈ lv_args b vs ∧ VF as v w
  | [], [], _, b, i, v, h, _ => by simp at h
  | a :: As, c :: vs, hr, b, i, v, h, hv => by
    have hc := hr.1.wide
    rw [List.flatMap_cons] at h
    unfold lv_args
    cases hw : wide a with
    | true =>
      rw [hw] at h hc
      have hc2 : c.category = 2 := by simpa using hc
      rw [if_pos hc2]
      simp only [if_true, List.cons_append, List.nil_append] at h
      match i, h with
      | 0, h => cases h; exact ⟨c, List.mem_cons_self, hr.1⟩
      | 1, h => cases h; exact absurd rfl hv
      | j + 2, h =>
        obtain ⟨w, h1, h2⟩ := ent_at hr.2 (b + 2) j v h hv
        exact ⟨w, List.mem_cons_of_mem _ (by rw [show b + (j + 2) = b + 2 + j by omega]; exact h1), h2⟩
    | false =>
      rw [hw] at h hc
      have hc1 : ¬ c.category = 2 := by rw [hc]; decide
      rw [if_neg hc1]
      simp only [Bool.false_eq_true, if_false, List.cons_append, List.nil_append] at h
      match i, h with
      | 0, h => cases h; exact ⟨c, List.mem_cons_self, hr.1⟩
      | j + 1, h =>
        obtain ⟨w, h1, h2⟩ := ent_at hr.2 (b + 1) j v h hv
        exact ⟨w, List.mem_cons_of_mem _ (by rw [show b + (j + 1) = b + 1 + j by omega]; exact h1), h2⟩
  | [], _ :: _, h, _, _, _, _, _ => h.elim
  | _ :: _, [], h, _, _, _, _, _ => h.elim
theorem ent_len {as : List Nat} : ∀ {As vs : List Value}, AR as As vs → (lg_sl vs).length = (As.flatMap fun v => if wide v then [v, vU] else [v]).length
  | [], [], _ => rfl
  | a :: As, c :: vs, hr => by
    have hc := hr.1.wide
    have h2 := ent_len hr.2
    unfold lg_sl at h2 ⊢
    rw [List.flatMap_cons, List.flatMap_cons, List.length_append, List.length_append, h2, hc]
    cases hw : wide a <;> simp
  | [], _ :: _, h => h.elim
  | _ :: _, [], h => h.elim
theorem ent_LR {as : List Nat} {sb nL : Nat} {As vs : List Value} (hr : AR as As vs) (hn : (As.flatMap fun v => if wide v then [v, vU] else [v]).length ≤ nL) : LR as sb nL (entL nL As) ((lg_sl vs ++ List.replicate (nL - (lg_sl vs).length) Slot.unset).toArray) := by
  have hlen := ent_len hr
  have hE := lv_entry vs (n := nL) (by rw [hlen]; exact hn)
  refine ⟨by unfold entL; rw [List.length_append, List.length_replicate]; omega, hE.1, hE.2.1, fun i v hi hv => ?_⟩
  unfold entL at hi
  by_cases hl : i < (As.flatMap fun v => if wide v then [v, vU] else [v]).length
  · rw [List.getElem?_append_left hl] at hi
    obtain ⟨w, h1, h2⟩ := ent_at hr 0 i v hi hv
    rw [Nat.zero_add] at h1
    exact ⟨w, hE.2.2 (i, w) h1, h2.to⟩
  · rw [List.getElem?_append_right (by omega), List.getElem?_replicate] at hi
    split at hi
    · cases hi
      exact absurd rfl hv
    · cases hi
theorem wsM_hts {M : MD} {args : Array Value} {s : State} (h : ∀ w ∈ wsM M, w.before args s = true) : ∀ w ∈ wsAll, w.before args s = true := fun w hw => h w (List.mem_cons_of_mem _ hw)
/-- what a method's body owes, by what its contract says -/
theorem Ct.body {d k n : Nat} {M : MD} {As : List Value} {h : AH} {P : AO → AH → Prop} (hn : (As.flatMap fun v => if wide v then [v, vU] else [v]).length ≤ mdL M) (hw : WP d M none k n 0 (entL (mdL M) As) [] h P)
    {l : Launch} {D : va_G} {tc : TC} {as : List Nat} {ws : va_W} {vs : List Value} {sz : Nat} (hl : l.stackTraces = false) (hr : HR as tc h ws) (ha : AR as As vs)
    {p : Program} {e : Env} {s : State} {m : MethodId} {args : Array Value} {below : List Frame} {meth : Method} {c : Code} (hx : p.tables.exec = Jvm.exec) (hb : c.code = mdB M) (hml : c.maxLocals = mdL M) (hrt : meth.sig.returnType = mdR M) (hts : ∀ w ∈ wsM M, w.before args s = true) (hown : s.vm.findClass (mdY M).cls = some m.cls) (hlk : meth.locks = false) (hnm : meth.name = (mdY M).name) (het : c.exceptionTable.toList = tableOf (mdH M)) (hv : CPre D tc ws sz vs args s) :
    W p l e (headSpec (wsM M) { frames := d, cells := k, slots := n, locals := 35 * d }).room s m args below meth c s.heap [] 0 0 (vx_MQ below (CQ P D tc as ws sz) (CX P D tc as ws sz) args s k n (va_A ws sz)) (entryFrame m args (mdL M)) := by
  obtain ⟨rfl, rfl, hP, hK, hD, hE⟩ := hv
  rw [lg_entry_eq]
  have hC : Cx d M p l (headSpec (wsM M) { frames := d, cells := k, slots := n, locals := 35 * d }).room s m vs.toArray meth c := ⟨hx, hb, hml, hrt, hown, wsM_hts hts, hlk, hnm, hl, het, Nat.le_refl _, Nat.le_refl _⟩
  have hI : Ix D tc (va_A ws s.heap.size) s as h ws s.heap [] := ⟨hK, hE, fun q hq => Or.inr hq, hr, hP, hD.self, va_S.rf⟩
  have hZ : Sx none 0 (va_A ws s.heap.size) s := fun L xs q => by cases q
  have hck : 0 + k ≤ (headSpec (wsM M) { frames := d, cells := k, slots := n, locals := 35 * d }).room.cells := by show 0 + k ≤ k; omega
  have hsn : 0 + n ≤ (headSpec (wsM M) { frames := d, cells := k, slots := n, locals := 35 * d }).room.slots := by show 0 + n ≤ n; omega
  refine hw hC hI hZ (ent_LR ha hn) trivial hck hsn ?_ ?_
  · intro H locs cells slots as' h' ws' pc L av vv hp hg hI' hc hs hov hret
    have hc' : cells ≤ k := hc
    have hs' : slots ≤ n := hs
    refine W.widen hc' hs' (vx_ret ?_)
    have hq : ∀ t : State, t.heap = H → s.WarmedH t.vm → CQ P D tc as ws s.heap.size vs.toArray s (.returned vv) t := fun t ht hW =>
      ⟨⟨av, vv, h', as', ws', rfl, hp, hg, hov, hI'.2.2.2.1, by rw [ht]; exact hI'.2.2.2.2.1, va_K.moved hW.alike hI'.1, hI'.2.2.2.2.2.1⟩, hI'.2.2.2.2.2.2.F ht⟩
    have hf : ∀ q ∈ locs, va_A ws s.heap.size q.base := hI'.2.2.2.2.2.2.2.2
    cases av with
    | none =>
      have e1 : vv = none := hov
      subst e1
      obtain ⟨r1, r2⟩ := hret
      exact W.vret hx hb (hrt.trans r2) hq hf r1 hlk
    | some v =>
      obtain ⟨x, rfl, hx2⟩ := hov
      cases v with
      | int y =>
        cases hx2
        obtain ⟨r1, ty, r2, r3⟩ := hret
        exact W.zret hx hb (hrt.trans r2) r3 hq hf r1 hlk
      | long y =>
        cases hx2
        exact W.lret hx hb (hrt.trans hret.2) hq hf hret.1 hlk
      | double y =>
        cases hx2
        exact W.dret hx hb (hrt.trans hret.2) hq hf hret.1 hlk
      | ref y =>
        obtain ⟨a, -, rfl⟩ := hx2
        obtain ⟨r1, rt, r2, r3⟩ := hret
        exact W.aret hx hb (hrt.trans r2) r3 (Or.inr ⟨a, rfl⟩) hq hf r1 hlk
      | float y => exact hret.elim
      | null => exact hret.elim
      | retAddr y => exact hret.elim
  · intro H locs cells slots as' h' ws' pc L rest E ce q hp hg hI' hc hs hce hcv hcl hcov
    have hc' : cells ≤ k := hc
    have hs' : slots ≤ n := hs
    refine vx_out (fun x hx9 => hcov x (by rw [← het]; exact hx9)) hlk hce hcv hcl (fun t ht hA => ?_) hI'.2.2.2.2.2.2.2.2 hc' hs'
    exact ⟨⟨h', as', ws', hp, hg, hI'.2.2.2.1, by rw [ht]; exact hI'.2.2.2.2.1, va_K.moved hA hI'.1, hI'.2.2.2.2.2.1⟩, hI'.2.2.2.2.2.2.F ht⟩
theorem Ct.of {d k n : Nat} {M : MD} {As : List Value} {h : AH} {P : AO → AH → Prop} (hpl : plainName (mdY M).cls = true) (hh : mdH M = []) (hn : (As.flatMap fun v => if wide v then [v, vU] else [v]).length ≤ mdL M) (hw : WP d M none k n 0 (entL (mdL M) As) [] h P) : Ct d M k n As h P := by
  intro l D tc as ws vs sz hl hr ha
  have hwo : wsM M = Cond.code (mdY M) (mdB M) (mdL M) (mdR M) :: wsAll := by unfold wsM wordOf; rw [hh]
  refine vx_ofW (cc := mdB M) (maxL := mdL M) (ret := mdR M) hpl hwo ?_
  intro p e s m args below meth c s₁ B hml het hv
  exact Ct.body hn hw hl hr ha B.exec B.bytes hml B.returns (atoms_spec (ws := wsM M) B.pre) (findClass_of_methodNamed B.named) B.notSynchronized (name_of_methodNamed B.named B.method).1 (by
    rw [hh]
    cases hx : c.exceptionTable.toList with
    | nil => rfl
    | cons y ys => exact (het y (by rw [hx]; exact List.mem_cons_self)).elim) hv
theorem vx_ofWF {l : Launch} {y : MethodName} {ws ws' : List Cond} {rm : Room} {Pc : Array Value → State → Prop} {Qc : Array Value → State → Outcome → State → Prop} {XC : String → State → State → Prop} {mc ms : Nat} {free : Addr → Prop} {cc : ByteArray} {maxL : Nat} {ret : Option FieldType}
    (hy : plainFor y = true) (hw : ws = Cond.code y cc maxL ret :: ws')
    (body : ∀ p e s m args below meth c s₁, BodyLoose p l y (headSpec ws rm) cc maxL ret e s m args below meth c s₁ → c.maxLocals = maxL → (∀ x ∈ c.exceptionTable.toList, False) → Pc args s →
      W p l e (headSpec ws rm).room s m args below meth c s.heap [] 0 0 (vx_MQ below Qc XC args s mc ms free) (entryFrame m args maxL)) : vx_Met l y ws rm Pc Qc XC mc ms free := by
  refine MetFree.of_bodySF (code := cc) (maxLocals := maxL) (ret := ret) hy ?_ ?_
  · intro args s m h hn
    obtain ⟨meth, c, h1, h2, h3, h4, h5, h6, -, -⟩ := Cond.code_spec hn (atoms_spec (ws := ws) h _ (by rw [hw]; exact List.mem_cons_self))
    exact ⟨meth, c, h1, h2, h3, h4, h5, h6⟩
  · intro p e s m args below meth c s₁ B hml hP _
    have hh0 : s₁.heap = s.heap := by rw [B.state]; rfl
    have ht : ∀ x ∈ c.exceptionTable.toList, False := by
      obtain ⟨meth9, c9, h1, h2, -, -, -, -, h7, -⟩ := Cond.code_spec B.named (atoms_spec (ws := ws) B.pre _ (by rw [hw]; exact List.mem_cons_self))
      cases Option.some.inj (h1.symm.trans B.method)
      cases Option.some.inj (h2.symm.trans (Stand.of_body B).code)
      intro x hx
      rw [Array.isEmpty_iff.mp h7] at hx
      cases hx
    obtain ⟨t, a1, o, b1, b2, b3⟩ := body p e s m args below meth c s₁ B hml ht hP s₁ hh0 (Stand.of_body B)
    exact ⟨t, o, a1, b1, b2, b3⟩
theorem Ct.ofF {d k n : Nat} {M : MD} {As : List Value} {h : AH} {P : AO → AH → Prop} (hpl : plainFor (mdY M) = true) (hh : mdH M = []) (hn : (As.flatMap fun v => if wide v then [v, vU] else [v]).length ≤ mdL M) (hw : WP d M none k n 0 (entL (mdL M) As) [] h P) : Ct d M k n As h P := by
  intro l D tc as ws vs sz hl hr ha
  have hwo : wsM M = Cond.code (mdY M) (mdB M) (mdL M) (mdR M) :: wsAll := by unfold wsM wordOf; rw [hh]
  refine vx_ofWF (cc := mdB M) (maxL := mdL M) (ret := mdR M) hpl hwo ?_
  intro p e s m args below meth c s₁ B hml het hv
  exact Ct.body hn hw hl hr ha B.exec B.bytes hml B.returns (atoms_spec (ws := wsM M) B.pre) (findClass_of_methodNamed B.named) B.notSynchronized (name_of_methodNamed B.named B.method).1 (by
    rw [hh]
    cases hx : c.exceptionTable.toList with
    | nil => rfl
    | cons y ys => exact (het y (by rw [hx]; exact List.mem_cons_self)).elim) hv
theorem Ct.ofH {d k n : Nat} {M : MD} {As : List Value} {h : AH} {P : AO → AH → Prop} {q0 : Nat × Nat × Nat × Nat} {hs : List (Nat × Nat × Nat × Nat)} (hpl : plainName (mdY M).cls = true) (hh : mdH M = q0 :: hs) (hn : (As.flatMap fun v => if wide v then [v, vU] else [v]).length ≤ mdL M) (hw : WP d M none k n 0 (entL (mdL M) As) [] h P) : Ct d M k n As h P := by
  intro l D tc as ws vs sz hl hr ha
  have hwo : wsM M = Cond.codeWith (mdY M) (mdB M) (mdL M) (mdR M) (mdH M) :: wsAll := by unfold wsM wordOf; rw [hh]
  refine vx_ofWH (cc := mdB M) (maxL := mdL M) (ret := mdR M) (hh := mdH M) hpl hwo ?_
  intro p e s m args below meth c s₁ B hml hv
  have hts := atoms_spec (ws := wsM M) B.pre
  exact Ct.body hn hw hl hr ha B.exec B.bytes hml B.returns hts (findClass_of_methodNamed B.named) B.notSynchronized (name_of_methodNamed B.named B.method).1 (vx_table (x := mdY M) B (hts _ (by rw [hwo]; exact List.mem_cons_self))) hv
