/-! the call rules -/
theorem Met_of_vx {l : Launch} {y : MethodName} {ws : List Cond} {rm : Room} {Pc : Array Value → State → Prop} {Qc : Array Value → State → Outcome → State → Prop} {XC : String → State → State → Prop} {mc ms : Nat} {free : Addr → Prop}
    (h : vx_Met l y ws rm Pc Qc XC mc ms free) (hx : ∀ E st t, ¬ XC E st t) : Met l y ws rm Pc Qc mc ms free := by
  intro p e ha hc hk s m args below hf hap hP hK
  obtain ⟨n, o, h1, h2, h3, h4⟩ := h p e ha hc hk s m args below hf hap hP hK
  rcases h4 with h4 | ⟨q, -, E, ce, L, hXC, -⟩
  · exact ⟨n, o, h1, h2, h3, h4⟩
  · exact absurd hXC (hx _ _ _)
theorem vx_of_va {p : Program} {l : Launch} {e : Env} {R : Room} {s : State} {m : MethodId} {args : Array Value} {below : List Frame} {meth : Method} {c : Code} {H : Heap} {locs : List Loc} {cells slots mc ms : Nat} {g : JFrame} {rest : List Value} {Qa : State → Outcome → State → Prop} {XC : String → State → State → Prop} {free : Addr → Prop}
    (h : va_Run p l e R s m args below meth c H locs cells slots mc ms g rest Qa free) : vx_Run p l e R s m args below meth c H locs cells slots mc ms g rest Qa XC free := fun T hT X => Or.inl (h T hT X)
theorem Ix.free {D : va_G} {tc : TC} {A : Nat → Prop} {s : State} {as : List Nat} {h : AH} {ws : va_W} {H : Heap} {locs : List Loc} (hI : Ix D tc A s as h ws H locs) : ∀ q, va_A ws H.size q → A q := by
  intro q hq
  rcases hq with ⟨k, e, hk⟩ | hq
  · exact hI.2.2.2.2.2.1.2 k (q, e) hk
  · exact hI.2.2.1 q (Nat.le_trans hI.2.2.2.2.2.2.1 hq)
/-- what is known of a method that is called -/
def MOk (M : MD) (np : Nat) : Prop := wordOf M ∈ wsAll ∧ Cond.initialized (mdY M).cls ∈ wsAll ∧ (mdY M).cls ≠ "java/lang/invoke/MethodHandle" ∧ (mdY M).cls ≠ "java/lang/invoke/VarHandle" ∧ (parseMethodDescriptor (mdY M).desc).map (fun d => d.parameters.length) = some np ∧ mdL M ≤ 16
section RUN
variable {d : Nat} {M M' : MD} {z : Option (Nat × (Nat → Int32))} {k n pc : Nat} {ls st : List Value} {h : AH} {P : AO → AH → Prop} {P' : AO → AH → Prop}
theorem call_end {p : Program} {l : Launch} {e : Env} {R : Room} {s : State} {m : MethodId} {args : Array Value} {below : List Frame} {meth : Method} {c : Code} {D : va_G} {tc : TC} {A : Nat → Prop} {H : Heap} {locs : List Loc} {cells slots : Nat} {as : List Nat} {ws : va_W} {L : Array Slot} {sv rest : List Value} {sb : Nat} {Q : State → Prop} {k1 n1 k2 n2 : Nat} {a : Array Value}
    (hC : Cx d M p l R s m args meth c) (hI : Ix D tc A s as h ws H locs) (hX : Sx z sb A s) (hL : LR as sb (mdL M) ls L) (hS : SR as sb st rest) (hc : cells + (k1 + k2) ≤ R.cells) (hs : slots + (n1 + n2) ≤ R.slots) (hr : Kr M P D tc A p l e R s m args below meth c as Q) (ht : Kt M P D tc A p l e R s m args below meth c as Q)
    (hrun : vx_Run p l e R s m args below meth c H locs cells slots k1 n1 (F0 m pc L sv) rest (CQ P' D tc as ws H.size a) (CX P' D tc as ws H.size) (va_A ws H.size))
    (kk : ∀ av h', P' (.inl av) h' → WP d M z k2 n2 (pc + 3) ls (av.toList ++ st) h' P) (kx : ∀ E h', P' (.inr E) h' → WX d M z k2 n2 pc ls E h' P) : W p l e R s m args below meth c H locs cells slots Q (F0 m pc L sv) := by
  have hA := hI.free
  intro T hT X
  rcases hrun T hT X with ⟨v, st₀, t, T', L', h0, X', hL', e1, e2, ⟨⟨av, vv, h', as', ws', hv, hp, hg, hov, hHR, hP', hK', hD'⟩, hF⟩, st'⟩ | ⟨q, st₀, t, T', L', E, ce, h0, X', hL', e1, e2, ⟨⟨h', as', ws', hp, hg, hHR, hP', hK', hD'⟩, hF⟩, hce, hcv, hcl, st'⟩
  · have hv' : v = vv := by injection hv
    subst hv'
    obtain ⟨k1', k2', k3'⟩ := vx_keep h0 e1 hI.2.2.2.2.2.2 (fun q _ hq => hA q hq) (fun q hq => hA q hq) hL' hF
    have hvm : s.vm.Alike t.vm := by rw [← e2]; exact X'.warmed.alike
    have hI' : Ix D tc A s as' h' ws' T'.heap (locs ++ L') := ⟨va_K.moved hvm.symm hK', hI.2.1, hI.2.2.1, hHR, by rw [e1]; exact hP', hD'.weaken (fun _ q _ hq => hA q.1 hq), k3'⟩
    have hS' : SR as' sb (av.toList ++ st) (v.toList ++ rest) := by
      cases av with
      | none =>
        have : v = none := hov
        subst this
        exact hS.gr hg
      | some x =>
        obtain ⟨y, rfl, hy⟩ := hov
        exact ⟨hy.to, hS.gr hg⟩
    obtain ⟨t2, a1, b1⟩ := kk av h' hp hC hI' hX (hL.gr hg) hS' (by omega) (by omega) (hr.gr hg) (ht.gr hg) T' rfl X'
    exact ⟨t2, st' t2 a1, b1⟩
  · obtain ⟨k1', k2', k3'⟩ := vx_keep h0 e1 hI.2.2.2.2.2.2 (fun q _ hq => hA q hq) (fun q hq => hA q hq) hL' hF
    have hvm : s.vm.Alike t.vm := by rw [← e2]; exact X'.warmed.alike
    have hI' : Ix D tc A s as' h' ws' T'.heap (locs ++ L') := ⟨va_K.moved hvm.symm hK', hI.2.1, hI.2.2.1, hHR, by rw [e1]; exact hP', hD'.weaken (fun _ q _ hq => hA q.1 hq), k3'⟩
    obtain ⟨t2, a1, b1⟩ := kx E h' hp hC hI' hX (hL.gr hg) (by omega) (by omega) (hr.gr hg) (ht.gr hg) (by rw [e1]; exact hce) hcv hcl T' rfl X'
    exact ⟨t2, st'.trans a1, b1⟩
theorem pays {args : Array Value} {s : State} (hm : wordOf M' ∈ wsAll) (hts : ∀ w ∈ wsAll, w.before args s = true) : ∀ w ∈ wsM M', ∀ (a' : Array Value) (U : State), s.WarmedH U.vm → w.before a' U = true := by
  intro w hw a' U hW
  have hw2 : w ∈ wsAll := by
    rcases List.mem_cons.mp hw with rfl | hw
    · exact hm
    · exact hw
  exact word_at hW (good_of_word (wsAll_good hw2)) (hts w hw2)
theorem cpre {D : va_G} {tc : TC} {A : Nat → Prop} {s : State} {as : List Nat} {ws : va_W} {H : Heap} {locs : List Loc} {vs : List Value} (hI : Ix D tc A s as h ws H locs) : ∀ U : State, U.heap = H → s.WarmedH U.vm → CPre D tc ws H.size vs vs.toArray U := by
  intro U hU hW
  refine ⟨rfl, by rw [hU], by rw [hU]; exact hI.2.2.2.2.1, va_K.moved hW.alike hI.1, hI.2.2.2.2.2.1.weaken (fun _ _ _ _ => trivial), ?_⟩
  rw [hU]
  exact EX.go hI.2.1 hW hI.2.2.2.2.2.2.2.1 hI.free
theorem plen {np : Nat} (hm : MOk M' np) : ∀ sig, parseMethodDescriptor (mdY M').desc = some sig → np = sig.parameters.length := by
  intro sig hsig
  have h2 := hm.2.2.2.2.1
  rw [hsig] at h2
  exact (Option.some.inj h2).symm
theorem w_callV {i a ci np k1 n1 k2 n2 : Nat} {As : List Value} {fs : List Value} (hd : decode (mdB M) pc = .ok (.invokevirtual i, 3)) (hm : MOk M' np) (hh0 : mdH M' = []) (hw1 : Cond.methodLink (mdY M).cls i (mdY M') ∈ wsAll) (hw2 : Cond.instanceMethod (mdY M') ∈ wsAll) (hw3 : Cond.selects (mdY M').cls (mdY M') (mdY M') ∈ wsAll) {q : vw_C} (hq : cls5[ci]? = some q) (hqc : q.1 = (mdY M').cls)
    (hh : h[a]? = some (.inr (ci, fs))) (hA : As.length = np) (hx : noX (.ref a :: As) = true) (ho : okK st = true) (hcs : catsum st ≤ 8) (hct : Ct d M' k1 n1 (.ref a :: As) h P')
    (kk : ∀ av h', P' (.inl av) h' → WP (d + 1) M z k2 n2 (pc + 3) ls (av.toList ++ st) h' P) (kx : ∀ E h', P' (.inr E) h' → WX (d + 1) M z k2 n2 pc ls E h' P) : WP (d + 1) M z (k1 + k2) (n1 + n2) pc ls (As.reverse ++ .ref a :: st) h P := by
  intro p l e R s m args below meth c D tc A H locs cells slots as ws L sv sb Q hC hI hX hL hS hc hs hr ht
  obtain ⟨vs, y, rfl, hS1, hS2⟩ := hS.unrev
  obtain ⟨_, rest, rfl, ⟨a', ha, rfl⟩, hS3⟩ := hS2.c
  have hAR : AR as (.ref a :: As) (.ref a' :: vs) := AR.of (sb := sb) ⟨⟨a', ha, rfl⟩, hS1⟩ hx
  have hM := hct l D tc as ws (.ref a' :: vs) H.size hC.2.2.2.2.2.2.2.2.1 hI.2.2.2.1 hAR
  obtain ⟨vs0, g1, -, -⟩ := hI.2.2.2.1.obj ha hh
  have hw0 : wordOf M' = Cond.code (mdY M') (mdB M') (mdL M') (mdR M') := by unfold wordOf; rw [hh0]
  have hwc : Cond.code (mdY M') (mdB M') (mdL M') (mdR M') ∈ wsM M' := by rw [← hw0]; exact List.mem_cons_self
  have hts := hC.2.2.2.2.2.1
  have hf := hC.2.2.2.2.2.2.2.2.2.2.1
  have hl := hC.2.2.2.2.2.2.2.2.2.2.2
  have hL16 := hm.2.2.2.2.2
  refine call_end hC hI hX hL hS3 hc hs hr ht (vx_runV (As := vs) (rest := rest) (C := (mdY M').cls) (index := i) (n := np) ⟨hC.1, hC.2.1, hC.2.2.1, hC.2.2.2.2.1, hts⟩ hM ⟨⟨rfl, rfl, hf, by show 8 + (mdL M' + 11) + 35 * d ≤ _; omega, pays hm.1 hts, hwc, ?_, hts _ hm.2.1, ⟨hm.2.2.1, hm.2.2.2.1⟩, plen hm, hts _ hw1⟩, hts _ hw2, hts _ hw3⟩ ⟨CPre.blind, ?_, cpre hI⟩ rfl (hS1.len.symm.trans hA) hL.2.1 rfl ?_ hd ⟨by omega, by omega⟩) kk kx
  · rw [← hw0]; exact hts _ hm.1
  · rw [← hqc]
    exact va_recv hI.1 hI.2.2.2.2.1 (q0 := a) hq g1
  · refine lv_room ?_
    rw [hS3.cats ho]
    exact hcs
theorem w_callVN {i a ci np k1 n1 k2 n2 : Nat} {host : String} {As : List Value} {fs : List Value} (hd : decode (mdB M) pc = .ok (.invokevirtual i, 3)) (hm : MOk M' np) (hh0 : mdH M' = []) (hw1 : Cond.methodLinkNest (mdY M).cls i (mdY M') host ∈ nestW) (hw2 : Cond.instanceMethod (mdY M') ∈ wsAll) (hw3 : Cond.selects (mdY M').cls (mdY M') (mdY M') ∈ wsAll) {q : vw_C} (hq : cls5[ci]? = some q) (hqc : q.1 = (mdY M').cls)
    (hh : h[a]? = some (.inr (ci, fs))) (hA : As.length = np) (hx : noX (.ref a :: As) = true) (ho : okK st = true) (hcs : catsum st ≤ 8) (hct : Ct d M' k1 n1 (.ref a :: As) h P')
    (kk : ∀ av h', P' (.inl av) h' → WP (d + 1) M z k2 n2 (pc + 3) ls (av.toList ++ st) h' P) (kx : ∀ E h', ¬ P' (.inr E) h') : WP (d + 1) M z (k1 + k2) (n1 + n2) pc ls (As.reverse ++ .ref a :: st) h P := by
  intro p l e R s m args below meth c D tc A H locs cells slots as ws L sv sb Q hC hI hX hL hS hc hs hr ht
  obtain ⟨vs, y, rfl, hS1, hS2⟩ := hS.unrev
  obtain ⟨_, rest, rfl, ⟨a', ha, rfl⟩, hS3⟩ := hS2.c
  have hAR : AR as (.ref a :: As) (.ref a' :: vs) := AR.of (sb := sb) ⟨⟨a', ha, rfl⟩, hS1⟩ hx
  have hM := Met_of_vx (hct l D tc as ws (.ref a' :: vs) H.size hC.2.2.2.2.2.2.2.2.1 hI.2.2.2.1 hAR) (fun E st t hX9 => by obtain ⟨⟨h9, _, _, h8, -⟩, -⟩ := hX9; exact kx E h9 h8)
  obtain ⟨vs0, g1, -, -⟩ := hI.2.2.2.1.obj ha hh
  have hw0 : wordOf M' = Cond.code (mdY M') (mdB M') (mdL M') (mdR M') := by unfold wordOf; rw [hh0]
  have hwc : Cond.code (mdY M') (mdB M') (mdL M') (mdR M') ∈ wsM M' := by rw [← hw0]; exact List.mem_cons_self
  have hts := hC.2.2.2.2.2.1
  have hf := hC.2.2.2.2.2.2.2.2.2.2.1
  have hl := hC.2.2.2.2.2.2.2.2.2.2.2
  have hL16 := hm.2.2.2.2.2
  refine call_end (P' := P') hC hI hX hL hS3 hc hs hr ht (vx_of_va (va_runVN (As := vs) (rest := rest) (C := (mdY M').cls) (index := i) (n := np) (host := host) ⟨hC.1, hC.2.1, hC.2.2.1, hC.2.2.2.2.1, hts⟩ hM ⟨⟨⟨rfl, rfl, hf, by show 8 + (mdL M' + 11) + 35 * d ≤ _; omega, pays hm.1 hts, hwc⟩, ?_, hts _ hm.2.1, ⟨hm.2.2.1, hm.2.2.2.1⟩, plen hm, (hI.2.1.2.2.2.2.2.1 _ hw1).use (by rfl)⟩, hts _ hw2, hts _ hw3⟩ ⟨CPre.blind, ?_, cpre hI⟩ rfl (hS1.len.symm.trans hA) hL.2.1 rfl ?_ hd ⟨by omega, by omega⟩)) kk (fun E h' hp => absurd hp (kx E h'))
  · rw [← hw0]; exact hts _ hm.1
  · rw [← hqc]
    exact va_recv hI.1 hI.2.2.2.2.1 (q0 := a) hq g1
  · refine lv_room ?_
    rw [hS3.cats ho]
    exact hcs
theorem w_callS {i np k1 n1 k2 n2 : Nat} {As : List Value} (hd : decode (mdB M) pc = .ok (.invokestatic i, 3)) (hm : MOk M' np) (hh0 : mdH M' = []) (hw1 : Cond.methodLink (mdY M).cls i (mdY M') ∈ wsAll) (hw2 : Cond.static (mdY M') ∈ wsAll)
    (hA : As.length = np) (hx : noX As = true) (ho : okK st = true) (hcs : catsum st ≤ 8) (hct : Ct d M' k1 n1 As h P')
    (kk : ∀ av h', P' (.inl av) h' → WP (d + 1) M z k2 n2 (pc + 3) ls (av.toList ++ st) h' P) (kx : ∀ E h', P' (.inr E) h' → WX (d + 1) M z k2 n2 pc ls E h' P) : WP (d + 1) M z (k1 + k2) (n1 + n2) pc ls (As.reverse ++ st) h P := by
  intro p l e R s m args below meth c D tc A H locs cells slots as ws L sv sb Q hC hI hX hL hS hc hs hr ht
  obtain ⟨vs, rest, rfl, hS1, hS3⟩ := hS.unrev
  have hAR : AR as As vs := AR.of hS1 hx
  have hM := hct l D tc as ws vs H.size hC.2.2.2.2.2.2.2.2.1 hI.2.2.2.1 hAR
  have hw0 : wordOf M' = Cond.code (mdY M') (mdB M') (mdL M') (mdR M') := by unfold wordOf; rw [hh0]
  have hwc : Cond.code (mdY M') (mdB M') (mdL M') (mdR M') ∈ wsM M' := by rw [← hw0]; exact List.mem_cons_self
  have hts := hC.2.2.2.2.2.1
  have hf := hC.2.2.2.2.2.2.2.2.2.2.1
  have hl := hC.2.2.2.2.2.2.2.2.2.2.2
  have hL16 := hm.2.2.2.2.2
  refine call_end hC hI hX hL hS3 hc hs hr ht (vx_runS (As := vs) (rest := rest) (index := i) (n := np) ⟨hC.1, hC.2.1, hC.2.2.1, hC.2.2.2.2.1, hts⟩ hM ⟨⟨rfl, rfl, hf, by show 8 + (mdL M' + 11) + 35 * d ≤ _; omega, pays hm.1 hts, hwc, ?_, hts _ hm.2.1, ⟨hm.2.2.1, hm.2.2.2.1⟩, plen hm, hts _ hw1⟩, hts _ hw2⟩ ⟨CPre.blind, cpre hI⟩ rfl (hS1.len.symm.trans hA) hL.2.1 rfl ?_ hd ⟨by omega, by omega⟩) kk kx
  · rw [← hw0]; exact hts _ hm.1
  · refine lv_room ?_
    rw [hS3.cats ho]
    exact hcs
theorem w_callSX {i np k1 n1 k2 n2 : Nat} {As : List Value} {q0 : Nat × Nat × Nat × Nat} {hs0 : List (Nat × Nat × Nat × Nat)} (hd : decode (mdB M) pc = .ok (.invokestatic i, 3)) (hm : MOk M' np) (hh0 : mdH M' = q0 :: hs0) (hw1 : Cond.methodLink (mdY M).cls i (mdY M') ∈ wsAll) (hw2 : Cond.static (mdY M') ∈ wsAll)
    (hA : As.length = np) (hx : noX As = true) (ho : okK st = true) (hcs : catsum st ≤ 8) (hct : Ct d M' k1 n1 As h P')
    (kk : ∀ av h', P' (.inl av) h' → WP (d + 1) M z k2 n2 (pc + 3) ls (av.toList ++ st) h' P) (kx : ∀ E h', P' (.inr E) h' → WX (d + 1) M z k2 n2 pc ls E h' P) : WP (d + 1) M z (k1 + k2) (n1 + n2) pc ls (As.reverse ++ st) h P := by
  intro p l e R s m args below meth c D tc A H locs cells slots as ws L sv sb Q hC hI hX hL hS hc hs hr ht
  obtain ⟨vs, rest, rfl, hS1, hS3⟩ := hS.unrev
  have hAR : AR as As vs := AR.of hS1 hx
  have hM := hct l D tc as ws vs H.size hC.2.2.2.2.2.2.2.2.1 hI.2.2.2.1 hAR
  have hw0 : wordOf M' = Cond.codeWith (mdY M') (mdB M') (mdL M') (mdR M') (mdH M') := by unfold wordOf; rw [hh0]
  have hwc : Cond.codeWith (mdY M') (mdB M') (mdL M') (mdR M') (mdH M') ∈ wsM M' := by rw [← hw0]; exact List.mem_cons_self
  have hts := hC.2.2.2.2.2.1
  have hf := hC.2.2.2.2.2.2.2.2.2.2.1
  have hl := hC.2.2.2.2.2.2.2.2.2.2.2
  have hL16 := hm.2.2.2.2.2
  refine call_end hC hI hX hL hS3 hc hs hr ht (vx_runSX (As := vs) (rest := rest) (index := i) (n := np) (hh := mdH M') ⟨hC.1, hC.2.1, hC.2.2.1, hC.2.2.2.2.1, hts⟩ hM ⟨⟨rfl, rfl, hf, by show 8 + (mdL M' + 11) + 35 * d ≤ _; omega, pays hm.1 hts, hwc⟩, ?_, hts _ hm.2.1, ⟨hm.2.2.1, hm.2.2.2.1⟩, plen hm, hts _ hw1, hts _ hw2⟩ ⟨CPre.blind, cpre hI⟩ rfl (hS1.len.symm.trans hA) hL.2.1 rfl ?_ hd ⟨by omega, by omega⟩) kk kx
  · rw [← hw0]; exact hts _ hm.1
  · refine lv_room ?_
    rw [hS3.cats ho]
    exact hcs
theorem w_callI {i a np k1 n1 k2 n2 : Nat} {As : List Value} (hd : decode (mdB M) pc = .ok (.invokespecial i, 3)) (hm : MOk M' np) (hh0 : mdH M' = []) (hr0 : mdR M' = none) (hnm : (mdY M').name = "<init>") (hw1 : Cond.methodLink (mdY M).cls i (mdY M') ∈ wsAll) (hw2 : Cond.instanceMethod (mdY M') ∈ wsAll)
    (hA : As.length = np) (hx : noX (.ref a :: As) = true) (ho : okK st = true) (hcs : catsum st ≤ 8) (hct : Ct d M' k1 n1 (.ref a :: As) h P')
    (kk : ∀ av h', P' (.inl av) h' → WP (d + 1) M z k2 n2 (pc + 3) ls (av.toList ++ st) h' P) (kx : ∀ E h', ¬ P' (.inr E) h') : WP (d + 1) M z (k1 + k2) (n1 + n2) pc ls (As.reverse ++ .ref a :: st) h P := by
  intro p l e R s m args below meth c D tc A H locs cells slots as ws L sv sb Q hC hI hX hL hS hc hs hr ht
  obtain ⟨vs, y, rfl, hS1, hS2⟩ := hS.unrev
  obtain ⟨_, rest, rfl, ⟨a', ha, rfl⟩, hS3⟩ := hS2.c
  have hAR : AR as (.ref a :: As) (.ref a' :: vs) := AR.of (sb := sb) ⟨⟨a', ha, rfl⟩, hS1⟩ hx
  have hM := Met_of_vx (hct l D tc as ws (.ref a' :: vs) H.size hC.2.2.2.2.2.2.2.2.1 hI.2.2.2.1 hAR) (fun E st t hX9 => by obtain ⟨⟨h9, _, _, h8, -⟩, -⟩ := hX9; exact kx E h9 h8)
  have hw0 : wordOf M' = Cond.code (mdY M') (mdB M') (mdL M') none := by unfold wordOf; rw [hh0, hr0]
  have hwc : Cond.code (mdY M') (mdB M') (mdL M') none ∈ wsM M' := by rw [← hw0]; exact List.mem_cons_self
  have hts := hC.2.2.2.2.2.1
  have hf := hC.2.2.2.2.2.2.2.2.2.2.1
  have hl := hC.2.2.2.2.2.2.2.2.2.2.2
  have hL16 := hm.2.2.2.2.2
  refine call_end (P' := P') hC hI hX hL hS3 hc hs hr ht (vx_of_va (va_runI (As := vs) (rest := rest) (index := i) (n := np) ⟨hC.1, hC.2.1, hC.2.2.1, hC.2.2.2.2.1, hts⟩ hM ⟨⟨rfl, rfl, hf, by show 8 + (mdL M' + 11) + 35 * d ≤ _; omega, pays hm.1 hts, hwc, ?_, hts _ hm.2.1, ⟨hm.2.2.1, hm.2.2.2.1⟩, plen hm, hts _ hw1⟩, hnm, hts _ hw2⟩ ⟨CPre.blind, cpre hI⟩ rfl (hS1.len.symm.trans hA) hL.2.1 rfl ?_ hd ⟨by omega, by omega⟩)) kk (fun E h' hp => absurd hp (kx E h'))
  · rw [← hw0]; exact hts _ hm.1
  · refine lv_room ?_
    rw [hS3.cats ho]
    exact hcs
theorem w_callIN {i a np k1 n1 k2 n2 : Nat} {host : String} {As : List Value} (hd : decode (mdB M) pc = .ok (.invokespecial i, 3)) (hm : MOk M' np) (hh0 : mdH M' = []) (hr0 : mdR M' = none) (hnm : (mdY M').name = "<init>") (hw1 : Cond.methodLinkNest (mdY M).cls i (mdY M') host ∈ nestW) (hw2 : Cond.instanceMethod (mdY M') ∈ wsAll)
    (hA : As.length = np) (hx : noX (.ref a :: As) = true) (ho : okK st = true) (hcs : catsum st ≤ 8) (hct : Ct d M' k1 n1 (.ref a :: As) h P')
    (kk : ∀ av h', P' (.inl av) h' → WP (d + 1) M z k2 n2 (pc + 3) ls (av.toList ++ st) h' P) (kx : ∀ E h', ¬ P' (.inr E) h') : WP (d + 1) M z (k1 + k2) (n1 + n2) pc ls (As.reverse ++ .ref a :: st) h P := by
  intro p l e R s m args below meth c D tc A H locs cells slots as ws L sv sb Q hC hI hX hL hS hc hs hr ht
  obtain ⟨vs, y, rfl, hS1, hS2⟩ := hS.unrev
  obtain ⟨_, rest, rfl, ⟨a', ha, rfl⟩, hS3⟩ := hS2.c
  have hAR : AR as (.ref a :: As) (.ref a' :: vs) := AR.of (sb := sb) ⟨⟨a', ha, rfl⟩, hS1⟩ hx
  have hM := Met_of_vx (hct l D tc as ws (.ref a' :: vs) H.size hC.2.2.2.2.2.2.2.2.1 hI.2.2.2.1 hAR) (fun E st t hX9 => by obtain ⟨⟨h9, _, _, h8, -⟩, -⟩ := hX9; exact kx E h9 h8)
  have hw0 : wordOf M' = Cond.code (mdY M') (mdB M') (mdL M') none := by unfold wordOf; rw [hh0, hr0]
  have hwc : Cond.code (mdY M') (mdB M') (mdL M') none ∈ wsM M' := by rw [← hw0]; exact List.mem_cons_self
  have hts := hC.2.2.2.2.2.1
  have hf := hC.2.2.2.2.2.2.2.2.2.2.1
  have hl := hC.2.2.2.2.2.2.2.2.2.2.2
  have hL16 := hm.2.2.2.2.2
  refine call_end (P' := P') hC hI hX hL hS3 hc hs hr ht (vx_of_va (va_runIN (As := vs) (rest := rest) (index := i) (n := np) (host := host) ⟨hC.1, hC.2.1, hC.2.2.1, hC.2.2.2.2.1, hts⟩ hM ⟨⟨⟨rfl, rfl, hf, by show 8 + (mdL M' + 11) + 35 * d ≤ _; omega, pays hm.1 hts, hwc⟩, ?_, hts _ hm.2.1, ⟨hm.2.2.1, hm.2.2.2.1⟩, plen hm, (hI.2.1.2.2.2.2.2.1 _ hw1).use (by rfl)⟩, hnm, hts _ hw2⟩ ⟨CPre.blind, cpre hI⟩ rfl (hS1.len.symm.trans hA) hL.2.1 rfl ?_ hd ⟨by omega, by omega⟩)) kk (fun E h' hp => absurd hp (kx E h'))
  · rw [← hw0]; exact hts _ hm.1
  · refine lv_room ?_
    rw [hS3.cats ho]
    exact hcs
/-! ends -/
theorem w_return (hd : decode (mdB M) pc = .ok (.return_, 1)) (hr0 : mdR M = none) (hp : P (.inl none) h) : WP d M z k n pc ls [] h P := by
  intro p l e R s m args below meth c D tc A H locs cells slots as ws L sv sb Q hC hI hX hL hS hc hs hr ht
  have e1 := hS.n
  subst e1
  exact hr H locs cells slots as h ws pc L none none hp Gr.rf hI (by omega) (by omega) rfl ⟨hd, hr0⟩
theorem w_ireturn {x : Int32} (hd : decode (mdB M) pc = .ok (.ireturn, 1)) (hr0 : ∃ ty, mdR M = some ty ∧ narrow ty (.int x) = .int x) (hp : P (.inl (some (.int x))) h) : WP d M z k n pc ls [.int x] h P := by
  intro p l e R s m args below meth c D tc A H locs cells slots as ws L sv sb Q hC hI hX hL hS hc hs hr ht
  obtain ⟨_, _, rfl, e0, hS0⟩ := hS.c
  cases e0
  have e1 := hS0.n
  subst e1
  exact hr H locs cells slots as h ws pc L (some (.int x)) (some (.int x)) hp Gr.rf hI (by omega) (by omega) ⟨_, rfl, rfl⟩ ⟨hd, hr0⟩
theorem w_lreturn {x : Int64} (hd : decode (mdB M) pc = .ok (.lreturn, 1)) (hr0 : mdR M = some .long) (hp : P (.inl (some (.long x))) h) : WP d M z k n pc ls [.long x] h P := by
  intro p l e R s m args below meth c D tc A H locs cells slots as ws L sv sb Q hC hI hX hL hS hc hs hr ht
  obtain ⟨_, _, rfl, e0, hS0⟩ := hS.c
  cases e0
  have e1 := hS0.n
  subst e1
  exact hr H locs cells slots as h ws pc L (some (.long x)) (some (.long x)) hp Gr.rf hI (by omega) (by omega) ⟨_, rfl, rfl⟩ ⟨hd, hr0⟩
theorem w_dreturn {x : UInt64} (hd : decode (mdB M) pc = .ok (.dreturn, 1)) (hr0 : mdR M = some .double) (hp : P (.inl (some (.double x))) h) : WP d M z k n pc ls [.double x] h P := by
  intro p l e R s m args below meth c D tc A H locs cells slots as ws L sv sb Q hC hI hX hL hS hc hs hr ht
  obtain ⟨_, _, rfl, e0, hS0⟩ := hS.c
  cases e0
  have e1 := hS0.n
  subst e1
  exact hr H locs cells slots as h ws pc L (some (.double x)) (some (.double x)) hp Gr.rf hI (by omega) (by omega) ⟨_, rfl, rfl⟩ ⟨hd, hr0⟩
theorem w_areturn {x : Nat} (hd : decode (mdB M) pc = .ok (.areturn, 1)) (hr0 : ∃ rt, mdR M = some rt ∧ ((∃ n, rt = .object n) ∨ ∃ t, rt = .array t)) (hp : P (.inl (some (.ref x))) h) : WP d M z k n pc ls [.ref x] h P := by
  intro p l e R s m args below meth c D tc A H locs cells slots as ws L sv sb Q hC hI hX hL hS hc hs hr ht
  obtain ⟨_, _, rfl, ⟨a', ha, rfl⟩, hS0⟩ := hS.c
  have e1 := hS0.n
  subst e1
  exact hr H locs cells slots as h ws pc L (some (.ref x)) (some (.ref a')) hp Gr.rf hI (by omega) (by omega) ⟨_, rfl, ⟨a', ha, rfl⟩⟩ ⟨hd, hr0⟩
theorem x_out {E : String} (hcov : (tableOf (mdH M)).all (fun x => !(covers x pc)) = true) (hp : P (.inr E) h) : WX d M z k n pc ls E h P := by
  intro p l e R s m args below meth c D tc A H locs cells slots as ws L rest sb Q ce q hC hI hX hL hc hs hr ht hce hcv hcl
  exact ht H locs cells slots as h ws pc L rest E ce q hp Gr.rf hI (by omega) (by omega) hce hcv hcl (fun x hx => by
    have h9 := List.all_eq_true.mp hcov x hx
    cases hcx : covers x pc with
    | false => rfl
    | true => rw [hcx] at h9; cases h9)
theorem x_catch {E : String} (hE : E ∈ exNames) (pre : List ExceptionTableEntry) (x : ExceptionTableEntry) (suf : List ExceptionTableEntry) (hsplit : tableOf (mdH M) = pre ++ x :: suf)
    (hpass : ∀ y ∈ pre, y.catchType ≠ 0 ∧ ∃ nm, nm ∈ exNames ∧ nm ≠ E ∧ Cond.classLink (mdY M).cls y.catchType nm ∈ wsAll) (hx : covers x pc = true) (h0 : x.catchType ≠ 0) (hlink : Cond.classLink (mdY M).cls x.catchType E ∈ wsAll)
    (kk : WP d M z k n x.handlerPc ls [vX] h P) : WX d M z k n pc ls E h P := by
  intro p l e R s m args below meth c D tc A H locs cells slots as ws L rest sb Q ce q hC hI hX hL hc hs hr ht hce hcv hcl
  have hts := hC.2.2.2.2.2.1
  refine vx_catch hC.2.2.2.2.1 pre x suf (by rw [hC.2.2.2.2.2.2.2.2.2.1]; exact hsplit) (fun y hy => Or.inr ?_) hx h0 (hts _ hlink) ((hI.2.1.2.2.2.2.2.2.2.2 E hE).use (by rfl)) hce hcv hcl ?_
  · obtain ⟨y1, nm, y2, y3, y4⟩ := hpass y hy
    exact ⟨y1, nm, hts _ y4, hI.2.1.2.2.2.2.2.2.2.1 E hE nm y2 (Ne.symm y3)⟩
  · exact kk hC hI hX hL ⟨⟨fun _ => ⟨q, rfl⟩, fun q => absurd q (by decide)⟩, trivial⟩ hc hs hr ht
end RUN
