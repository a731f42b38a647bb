/-! shorter call rules -/
def GV (own : String) (i : Nat) (M' : MD) (np ci : Nat) : Prop := MOk M' np ∧ mdH M' = [] ∧ Cond.methodLink own i (mdY M') ∈ wsAll ∧ Cond.instanceMethod (mdY M') ∈ wsAll ∧ Cond.selects (mdY M').cls (mdY M') (mdY M') ∈ wsAll ∧ ∃ q : vw_C, cls5[ci]? = some q ∧ q.1 = (mdY M').cls
def GN (own : String) (i : Nat) (M' : MD) (np ci : Nat) : Prop := MOk M' np ∧ mdH M' = [] ∧ (∃ host, Cond.methodLinkNest own i (mdY M') host ∈ nestW) ∧ Cond.instanceMethod (mdY M') ∈ wsAll ∧ Cond.selects (mdY M').cls (mdY M') (mdY M') ∈ wsAll ∧ ∃ q : vw_C, cls5[ci]? = some q ∧ q.1 = (mdY M').cls
def GS (own : String) (i : Nat) (M' : MD) (np : Nat) : Prop := MOk M' np ∧ mdH M' = [] ∧ Cond.methodLink own i (mdY M') ∈ wsAll ∧ Cond.static (mdY M') ∈ wsAll
def GX (own : String) (i : Nat) (M' : MD) (np : Nat) : Prop := MOk M' np ∧ (∃ q0 hs0, mdH M' = q0 :: hs0) ∧ Cond.methodLink own i (mdY M') ∈ wsAll ∧ Cond.static (mdY M') ∈ wsAll
def GI (own : String) (i : Nat) (M' : MD) (np : Nat) : Prop := MOk M' np ∧ mdH M' = [] ∧ mdR M' = none ∧ (mdY M').name = "<init>" ∧ (Cond.methodLink own i (mdY M') ∈ wsAll ∨ ∃ host, Cond.methodLinkNest own i (mdY M') host ∈ nestW) ∧ Cond.instanceMethod (mdY M') ∈ wsAll
def okC (st : List Value) : Bool := okK st && decide (catsum st ≤ 8)
theorem okC1 {st : List Value} (h : okC st = true) : okK st = true := by unfold okC at h; exact (Bool.and_eq_true _ _ ▸ h).1
theorem okC2 {st : List Value} (h : okC st = true) : catsum st ≤ 8 := by unfold okC at h; exact of_decide_eq_true (Bool.and_eq_true _ _ ▸ h).2
abbrev RI (r : Int32) (h : AH) : AO → AH → Prop := fun o h' => o = .inl (some (.int r)) ∧ h' = h
abbrev RV (h : AH) : AO → AH → Prop := fun o h' => o = .inl none ∧ h' = h
def NT (Q : Option Value → AH → Prop) : AO → AH → Prop := fun o h' => ∃ v, o = .inl v ∧ Q v h'
theorem nest_use {w : Cond} {A : Array Value} {U : State} (hn : isNest w = true) (h : va_Nw w U) : w.before A U = true := by
  cases w <;> first | exact va_Nw.use rfl h | (exfalso; revert hn; simp [isNest])
section SHORT
variable {d : Nat} {M M' : MD} {z : Option (Nat × (Nat → Int32))} {k n pc i np ci a : Nat} {ls st stk As : List Value} {h h1 : AH} {P P' : AO → AH → Prop} {fs : List Value} {r : Int32} {Q : Option Value → AH → Prop}
theorem w_v {k1 n1 k2 n2 : Nat} (hd : decode (mdB M) pc = .ok (.invokevirtual i, 3)) (hg : GV (mdY M).cls i M' np ci) (hh : h[a]? = some (.inr (ci, fs))) (hct : Ct d M' k1 n1 (.ref a :: As) h P') (hA : As.length = np) (hx : noX (.ref a :: As) = true) (hst : stk = As.reverse ++ .ref a :: st) (ho : okC st = true) (hk : k = k1 + k2) (hn : n = n1 + n2)
    (kk : ∀ av h', P' (.inl av) h' → WP (d + 1) M z k2 n2 (pc + 3) ls (av.toList ++ st) h' P) (kx : ∀ E h', P' (.inr E) h' → WX (d + 1) M z k2 n2 pc ls E h' P) : WP (d + 1) M z k n pc ls stk h P := by
  subst hst
  subst hk
  subst hn
  obtain ⟨g1, g2, g3, g4, g5, q, g6, g7⟩ := hg
  exact w_callV hd g1 g2 g3 g4 g5 g6 g7 hh hA hx (okC1 ho) (okC2 ho) hct kk kx
theorem w_vI (hd : decode (mdB M) pc = .ok (.invokevirtual i, 3)) (hg : GV (mdY M).cls i M' np ci) (hh : h[a]? = some (.inr (ci, fs))) (hct : Ct d M' 0 0 (.ref a :: As) h (RI r h1)) (hA : As.length = np) (hx : noX (.ref a :: As) = true) (hst : stk = As.reverse ++ .ref a :: st) (ho : okC st = true)
    (kk : WP (d + 1) M z k n (pc + 3) ls (.int r :: st) h1 P) : WP (d + 1) M z k n pc ls stk h P :=
  w_v hd hg hh hct hA hx hst ho (Nat.zero_add k).symm (Nat.zero_add n).symm (fun av h' q => by obtain ⟨q1, rfl⟩ := q; injection q1 with q2; subst q2; exact kk) (fun E h' q => by cases q.1)
theorem w_vV (hd : decode (mdB M) pc = .ok (.invokevirtual i, 3)) (hg : GV (mdY M).cls i M' np ci) (hh : h[a]? = some (.inr (ci, fs))) (hct : Ct d M' 0 0 (.ref a :: As) h (RV h1)) (hA : As.length = np) (hx : noX (.ref a :: As) = true) (hst : stk = As.reverse ++ .ref a :: st) (ho : okC st = true)
    (kk : WP (d + 1) M z k n (pc + 3) ls st h1 P) : WP (d + 1) M z k n pc ls stk h P :=
  w_v hd hg hh hct hA hx hst ho (Nat.zero_add k).symm (Nat.zero_add n).symm (fun av h' q => by obtain ⟨q1, rfl⟩ := q; injection q1 with q2; subst q2; exact kk) (fun E h' q => by cases q.1)
theorem w_vQ (hd : decode (mdB M) pc = .ok (.invokevirtual i, 3)) (hg : GV (mdY M).cls i M' np ci) (hh : h[a]? = some (.inr (ci, fs))) (hct : Ct d M' 0 0 (.ref a :: As) h (NT Q)) (hA : As.length = np) (hx : noX (.ref a :: As) = true) (hst : stk = As.reverse ++ .ref a :: st) (ho : okC st = true)
    (kk : ∀ v h', Q v h' → WP (d + 1) M z k n (pc + 3) ls (v.toList ++ st) h' P) : WP (d + 1) M z k n pc ls stk h P :=
  w_v hd hg hh hct hA hx hst ho (Nat.zero_add k).symm (Nat.zero_add n).symm (fun av h' q => by obtain ⟨v, q1, q2⟩ := q; injection q1 with q3; subst q3; exact kk _ _ q2) (fun E h' q => by obtain ⟨v, q1, q2⟩ := q; cases q1)
theorem w_vQ2 {k1 n1 k2 n2 : Nat} (hd : decode (mdB M) pc = .ok (.invokevirtual i, 3)) (hg : GV (mdY M).cls i M' np ci) (hh : h[a]? = some (.inr (ci, fs))) (hct : Ct d M' k1 n1 (.ref a :: As) h (NT Q)) (hA : As.length = np) (hx : noX (.ref a :: As) = true) (hst : stk = As.reverse ++ .ref a :: st) (ho : okC st = true) (hk : k = k1 + k2) (hn : n = n1 + n2)
    (kk : ∀ v h', Q v h' → WP (d + 1) M z k2 n2 (pc + 3) ls (v.toList ++ st) h' P) : WP (d + 1) M z k n pc ls stk h P :=
  w_v hd hg hh hct hA hx hst ho hk hn (fun av h' q => by obtain ⟨v, q1, q2⟩ := q; injection q1 with q3; subst q3; exact kk _ _ q2) (fun E h' q => by obtain ⟨v, q1, q2⟩ := q; cases q1)
theorem w_n {k1 n1 k2 n2 : Nat} (hd : decode (mdB M) pc = .ok (.invokevirtual i, 3)) (hg : GN (mdY M).cls i M' np ci) (hh : h[a]? = some (.inr (ci, fs))) (hct : Ct d M' k1 n1 (.ref a :: As) h P') (hA : As.length = np) (hx : noX (.ref a :: As) = true) (hst : stk = As.reverse ++ .ref a :: st) (ho : okC st = true) (hk : k = k1 + k2) (hn : n = n1 + n2)
    (kk : ∀ av h', P' (.inl av) h' → WP (d + 1) M z k2 n2 (pc + 3) ls (av.toList ++ st) h' P) (kx : ∀ E h', ¬ P' (.inr E) h') : WP (d + 1) M z k n pc ls stk h P := by
  subst hst
  subst hk
  subst hn
  obtain ⟨g1, g2, ⟨host, g3⟩, g4, g5, q, g6, g7⟩ := hg
  exact w_callVN hd g1 g2 g3 g4 g5 g6 g7 hh hA hx (okC1 ho) (okC2 ho) hct kk kx
theorem w_nQ {k1 n1 k2 n2 : Nat} (hd : decode (mdB M) pc = .ok (.invokevirtual i, 3)) (hg : GN (mdY M).cls i M' np ci) (hh : h[a]? = some (.inr (ci, fs))) (hct : Ct d M' k1 n1 (.ref a :: As) h (NT Q)) (hA : As.length = np) (hx : noX (.ref a :: As) = true) (hst : stk = As.reverse ++ .ref a :: st) (ho : okC st = true) (hk : k = k1 + k2) (hn : n = n1 + n2)
    (kk : ∀ v h', Q v h' → WP (d + 1) M z k2 n2 (pc + 3) ls (v.toList ++ st) h' P) : WP (d + 1) M z k n pc ls stk h P :=
  w_n hd hg hh hct hA hx hst ho hk hn (fun av h' q => by obtain ⟨v, q1, q2⟩ := q; injection q1 with q3; subst q3; exact kk _ _ q2) (fun E h' q => by obtain ⟨v, q1, q2⟩ := q; cases q1)
theorem w_nI (hd : decode (mdB M) pc = .ok (.invokevirtual i, 3)) (hg : GN (mdY M).cls i M' np ci) (hh : h[a]? = some (.inr (ci, fs))) (hct : Ct d M' 0 0 (.ref a :: As) h (RI r h1)) (hA : As.length = np) (hx : noX (.ref a :: As) = true) (hst : stk = As.reverse ++ .ref a :: st) (ho : okC st = true)
    (kk : WP (d + 1) M z k n (pc + 3) ls (.int r :: st) h1 P) : WP (d + 1) M z k n pc ls stk h P :=
  w_n hd hg hh hct hA hx hst ho (Nat.zero_add k).symm (Nat.zero_add n).symm (fun av h' q => by obtain ⟨q1, rfl⟩ := q; injection q1 with q2; subst q2; exact kk) (fun E h' q => by cases q.1)
theorem w_nV (hd : decode (mdB M) pc = .ok (.invokevirtual i, 3)) (hg : GN (mdY M).cls i M' np ci) (hh : h[a]? = some (.inr (ci, fs))) (hct : Ct d M' 0 0 (.ref a :: As) h (RV h1)) (hA : As.length = np) (hx : noX (.ref a :: As) = true) (hst : stk = As.reverse ++ .ref a :: st) (ho : okC st = true)
    (kk : WP (d + 1) M z k n (pc + 3) ls st h1 P) : WP (d + 1) M z k n pc ls stk h P :=
  w_n hd hg hh hct hA hx hst ho (Nat.zero_add k).symm (Nat.zero_add n).symm (fun av h' q => by obtain ⟨q1, rfl⟩ := q; injection q1 with q2; subst q2; exact kk) (fun E h' q => by cases q.1)
theorem w_s {k1 n1 k2 n2 : Nat} (hd : decode (mdB M) pc = .ok (.invokestatic i, 3)) (hg : GS (mdY M).cls i M' np) (hct : Ct d M' k1 n1 As h P') (hA : As.length = np) (hx : noX As = true) (hst : stk = As.reverse ++ st) (ho : okC st = true) (hk : k = k1 + k2) (hn : n = n1 + n2)
    (kk : ∀ av h', P' (.inl av) h' → WP (d + 1) M z k2 n2 (pc + 3) ls (av.toList ++ st) h' P) (kx : ∀ E h', P' (.inr E) h' → WX (d + 1) M z k2 n2 pc ls E h' P) : WP (d + 1) M z k n pc ls stk h P := by
  subst hst
  subst hk
  subst hn
  obtain ⟨g1, g2, g3, g4⟩ := hg
  exact w_callS hd g1 g2 g3 g4 hA hx (okC1 ho) (okC2 ho) hct kk kx
theorem w_sI (hd : decode (mdB M) pc = .ok (.invokestatic i, 3)) (hg : GS (mdY M).cls i M' np) (hct : Ct d M' 0 0 As h (RI r h1)) (hA : As.length = np) (hx : noX As = true) (hst : stk = As.reverse ++ st) (ho : okC st = true)
    (kk : WP (d + 1) M z k n (pc + 3) ls (.int r :: st) h1 P) : WP (d + 1) M z k n pc ls stk h P :=
  w_s hd hg hct hA hx hst ho (Nat.zero_add k).symm (Nat.zero_add n).symm (fun av h' q => by obtain ⟨q1, rfl⟩ := q; injection q1 with q2; subst q2; exact kk) (fun E h' q => by cases q.1)
theorem w_sQ (hd : decode (mdB M) pc = .ok (.invokestatic i, 3)) (hg : GS (mdY M).cls i M' np) (hct : Ct d M' 0 0 As h (NT Q)) (hA : As.length = np) (hx : noX As = true) (hst : stk = As.reverse ++ st) (ho : okC st = true)
    (kk : ∀ v h', Q v h' → WP (d + 1) M z k n (pc + 3) ls (v.toList ++ st) h' P) : WP (d + 1) M z k n pc ls stk h P :=
  w_s hd hg hct hA hx hst ho (Nat.zero_add k).symm (Nat.zero_add n).symm (fun av h' q => by obtain ⟨v, q1, q2⟩ := q; injection q1 with q3; subst q3; exact kk _ _ q2) (fun E h' q => by obtain ⟨v, q1, q2⟩ := q; cases q1)
theorem w_x {k1 n1 k2 n2 : Nat} (hd : decode (mdB M) pc = .ok (.invokestatic i, 3)) (hg : GX (mdY M).cls i M' np) (hct : Ct d M' k1 n1 As h P') (hA : As.length = np) (hx : noX As = true) (hst : stk = As.reverse ++ st) (ho : okC st = true) (hk : k = k1 + k2) (hn : n = n1 + n2)
    (kk : ∀ av h', P' (.inl av) h' → WP (d + 1) M z k2 n2 (pc + 3) ls (av.toList ++ st) h' P) (kx : ∀ E h', P' (.inr E) h' → WX (d + 1) M z k2 n2 pc ls E h' P) : WP (d + 1) M z k n pc ls stk h P := by
  subst hst
  subst hk
  subst hn
  obtain ⟨g1, ⟨q0, hs0, g2⟩, g3, g4⟩ := hg
  exact w_callSX hd g1 g2 g3 g4 hA hx (okC1 ho) (okC2 ho) hct kk kx
theorem w_i {k1 n1 k2 n2 : Nat} (hd : decode (mdB M) pc = .ok (.invokespecial i, 3)) (hg : GI (mdY M).cls i M' np) (hct : Ct d M' k1 n1 (.ref a :: As) h (NT Q)) (hA : As.length = np) (hx : noX (.ref a :: As) = true) (hst : stk = As.reverse ++ .ref a :: st) (ho : okC st = true) (hk : k = k1 + k2) (hn : n = n1 + n2)
    (kk : ∀ v h', Q v h' → WP (d + 1) M z k2 n2 (pc + 3) ls (v.toList ++ st) h' P) : WP (d + 1) M z k n pc ls stk h P := by
  subst hst
  subst hk
  subst hn
  obtain ⟨g1, g2, g2r, g2n, g3, g4⟩ := hg
  have kk' : ∀ av h', NT Q (.inl av) h' → WP (d + 1) M z k2 n2 (pc + 3) ls (av.toList ++ st) h' P := fun av h' q => by obtain ⟨v, q1, q2⟩ := q; injection q1 with q3; subst q3; exact kk _ _ q2
  have kx' : ∀ E h', ¬ NT Q (.inr E) h' := fun E h' q => by obtain ⟨v, q1, q2⟩ := q; cases q1
  rcases g3 with g3 | ⟨host, g3⟩
  · exact w_callI hd g1 g2 g2r g2n g3 g4 hA hx (okC1 ho) (okC2 ho) hct kk' kx'
  · exact w_callIN hd g1 g2 g2r g2n g3 g4 hA hx (okC1 ho) (okC2 ho) hct kk' kx'
theorem w_topi {x : Int32} (kk : ∀ y : Int32, y = x → WP d M z k n pc ls (.int y :: st) h P) : WP d M z k n pc ls (.int x :: st) h P := kk x rfl
theorem w_topl {x : Int64} (kk : ∀ y : Int64, y = x → WP d M z k n pc ls (.long y :: st) h P) : WP d M z k n pc ls (.long x :: st) h P := kk x rfl
theorem w_topd {x : UInt64} (kk : ∀ y : UInt64, y = x → WP d M z k n pc ls (.double y :: st) h P) : WP d M z k n pc ls (.double x :: st) h P := kk x rfl
theorem w_topa {x : Nat} (kk : ∀ y : Nat, y = x → WP d M z k n pc ls (.ref y :: st) h P) : WP d M z k n pc ls (.ref x :: st) h P := kk x rfl
end SHORT
theorem at_requireIndex_g : ∀ w ∈ (vx_atS RX2 167 "java/lang/IndexOutOfBoundsException" ["java/lang/RuntimeException", "java/lang/Exception"]).filter goodWord, w ∈ wsAll := by decide +kernel
theorem at_requireIndex_n : ∀ w ∈ (vx_atS RX2 167 "java/lang/IndexOutOfBoundsException" ["java/lang/RuntimeException", "java/lang/Exception"]).filter (fun w => !goodWord w), w ∈ nestW := by decide +kernel
theorem at_requireIndex_i : Cond.initialized "java/lang/IndexOutOfBoundsException" ∈ wsAll := by decide +kernel
theorem at_requireIndex_o : ∀ w ∈ Cond.classLink RX2 163 "java/lang/IndexOutOfBoundsException" :: Cond.initialized "java/lang/IndexOutOfBoundsException" :: vx_atS RX2 167 "java/lang/IndexOutOfBoundsException" ["java/lang/RuntimeException", "java/lang/Exception"], vx_ot w = true := by decide +kernel
/-- what a check answers -/
theorem c_requireIndex (d : Nat) (v : Int32) (h : AH) : Ct (d + 6) mX2_requireIndex 1 6 [.int v] h (fun o h' => h' = h ∧ ((¬ v = 0 ∧ o = .inl none) ∨ (v = 0 ∧ o = .inr "java/lang/IndexOutOfBoundsException"))) := by
  intro l D tc as ws vs sz hl hr ha
  have hvs : vs = [.int v] := by
    match vs, ha with
    | [w], ha => exact congrArg (fun x => [x]) ha.1
    | [], ha => exact ha.elim
    | _ :: _ :: _, ha => exact ha.2.elim
  subst hvs
  have hwo : wsM mX2_requireIndex = Cond.code yX2_requireIndex cX2_requireIndex 1 none :: wsAll := rfl
  refine vx_ofW (cc := cX2_requireIndex) (maxL := 1) (ret := none) (by decide +kernel) hwo ?_
  intro p e s m args below meth c s₁ B hml het hv
  obtain ⟨rfl, rfl, hP, hK, hD, hE⟩ := hv
  have hx := B.exec
  have hb := B.bytes
  have hrt := B.returns
  have hts := wsM_hts (atoms_spec (ws := wsM mX2_requireIndex) B.pre)
  have hown : s.vm.findClass RX2 = some m.cls := findClass_of_methodNamed B.named
  rw [lg_entry_eq]
  have hlv := lv_entry ([.int v]) (n := 1) (Nat.le_of_ble_eq_true rfl)
  generalize ((lg_sl ([.int v]) ++ List.replicate (1 - (lg_sl ([.int v])).length) Slot.unset).toArray) = ls at hlv ⊢
  have hlv : lv_has ls 1 [(0, .int v)] := hlv
  refine lv_iload_n hx hb dX2_requireIndex_0 rfl (lv_at hlv 0 rfl) ?_
  refine lv_if_ne (tgt := 14) hx hb dX2_requireIndex_1 (by decide) (fun c1 => ?_) (fun c1 => ?_)
  · refine W.widen (k := 1) (n := 6) (by omega) (by omega) (vx_ret ?_)
    exact W.vret hx hb hrt (fun t ht hW => ⟨⟨none, none, h, as, ws, rfl, ⟨rfl, Or.inl ⟨c1, rfl⟩⟩, Gr.rf, rfl, hr, by rw [ht]; exact hP, va_K.moved hW.alike hK, hD.self⟩, va_S.rf.F ht⟩) (fun _ q => by cases q) dX2_requireIndex_14 B.notSynchronized
  · obtain ⟨sa, hstr⟩ := hE.2.2.2.2.1
    refine vx_throwS (own := RX2) (cls := "java/lang/IndexOutOfBoundsException") (text := "there is no such number") (names := ["java/lang/RuntimeException", "java/lang/Exception"]) (ik := 163) (is := 165) (ic := 167) (sa := sa) (A := va_A ws s.heap.size) hx hb hl hown (by decide +kernel) (by decide +kernel) (hts _ QX2_163) (hts _ at_requireIndex_i) hstr
      (vx_hat (B := nestW) (fun w hw => hts w (at_requireIndex_g w hw)) at_requireIndex_n (fun w hw => nest_use (List.mem_filter.mp hw).2 (hE.2.2.2.2.2.1 w hw))) at_requireIndex_o hE.1 hE.2.1 va_S.rf (by rw [hml]; exact hlv.1) dX2_requireIndex_4 dX2_requireIndex_7 dX2_requireIndex_8 dX2_requireIndex_10 dX2_requireIndex_13 (fun x hx9 => (het x hx9).elim)
      (by show 2 + 3 < d + 6; omega) (by show 0 + (13 * (2 + 1) + 43) ≤ 35 * (d + 6); omega) (Nat.le_refl _) (Nat.le_refl _) B.notSynchronized (fun t hA hsz hkeep => ?_) (fun _ q => by cases q) (Nat.le_refl _) (Nat.le_refl _)
    exact ⟨⟨h, as, ws, ⟨rfl, Or.inr ⟨c1, rfl⟩⟩, Gr.rf, hr, hP.kept (fun k q hk => hkeep q.1 (hP k q hk).lt), va_K.moved hA hK, hD.self⟩, hsz, fun q hq _ => hkeep q hq⟩
theorem at_requireArgument_g : ∀ w ∈ (vx_atS RX2 174 "java/lang/IllegalArgumentException" ["java/lang/RuntimeException", "java/lang/Exception"]).filter goodWord, w ∈ wsAll := by decide +kernel
theorem at_requireArgument_n : ∀ w ∈ (vx_atS RX2 174 "java/lang/IllegalArgumentException" ["java/lang/RuntimeException", "java/lang/Exception"]).filter (fun w => !goodWord w), w ∈ nestW := by decide +kernel
theorem at_requireArgument_i : Cond.initialized "java/lang/IllegalArgumentException" ∈ wsAll := by decide +kernel
theorem at_requireArgument_o : ∀ w ∈ Cond.classLink RX2 170 "java/lang/IllegalArgumentException" :: Cond.initialized "java/lang/IllegalArgumentException" :: vx_atS RX2 174 "java/lang/IllegalArgumentException" ["java/lang/RuntimeException", "java/lang/Exception"], vx_ot w = true := by decide +kernel
/-- what a check answers -/
theorem c_requireArgument (d : Nat) (v : Int32) (h : AH) : Ct (d + 6) mX2_requireArgument 1 6 [.int v] h (fun o h' => h' = h ∧ ((¬ v = 0 ∧ o = .inl none) ∨ (v = 0 ∧ o = .inr "java/lang/IllegalArgumentException"))) := by
  intro l D tc as ws vs sz hl hr ha
  have hvs : vs = [.int v] := by
    match vs, ha with
    | [w], ha => exact congrArg (fun x => [x]) ha.1
    | [], ha => exact ha.elim
    | _ :: _ :: _, ha => exact ha.2.elim
  subst hvs
  have hwo : wsM mX2_requireArgument = Cond.code yX2_requireArgument cX2_requireArgument 1 none :: wsAll := rfl
  refine vx_ofW (cc := cX2_requireArgument) (maxL := 1) (ret := none) (by decide +kernel) hwo ?_
  intro p e s m args below meth c s₁ B hml het hv
  obtain ⟨rfl, rfl, hP, hK, hD, hE⟩ := hv
  have hx := B.exec
  have hb := B.bytes
  have hrt := B.returns
  have hts := wsM_hts (atoms_spec (ws := wsM mX2_requireArgument) B.pre)
  have hown : s.vm.findClass RX2 = some m.cls := findClass_of_methodNamed B.named
  rw [lg_entry_eq]
  have hlv := lv_entry ([.int v]) (n := 1) (Nat.le_of_ble_eq_true rfl)
  generalize ((lg_sl ([.int v]) ++ List.replicate (1 - (lg_sl ([.int v])).length) Slot.unset).toArray) = ls at hlv ⊢
  have hlv : lv_has ls 1 [(0, .int v)] := hlv
  refine lv_iload_n hx hb dX2_requireArgument_0 rfl (lv_at hlv 0 rfl) ?_
  refine lv_if_ne (tgt := 14) hx hb dX2_requireArgument_1 (by decide) (fun c1 => ?_) (fun c1 => ?_)
  · refine W.widen (k := 1) (n := 6) (by omega) (by omega) (vx_ret ?_)
    exact W.vret hx hb hrt (fun t ht hW => ⟨⟨none, none, h, as, ws, rfl, ⟨rfl, Or.inl ⟨c1, rfl⟩⟩, Gr.rf, rfl, hr, by rw [ht]; exact hP, va_K.moved hW.alike hK, hD.self⟩, va_S.rf.F ht⟩) (fun _ q => by cases q) dX2_requireArgument_14 B.notSynchronized
  · obtain ⟨sa, hstr⟩ := hE.2.2.1
    refine vx_throwS (own := RX2) (cls := "java/lang/IllegalArgumentException") (text := "an argument is out of its range") (names := ["java/lang/RuntimeException", "java/lang/Exception"]) (ik := 170) (is := 172) (ic := 174) (sa := sa) (A := va_A ws s.heap.size) hx hb hl hown (by decide +kernel) (by decide +kernel) (hts _ QX2_170) (hts _ at_requireArgument_i) hstr
      (vx_hat (B := nestW) (fun w hw => hts w (at_requireArgument_g w hw)) at_requireArgument_n (fun w hw => nest_use (List.mem_filter.mp hw).2 (hE.2.2.2.2.2.1 w hw))) at_requireArgument_o hE.1 hE.2.1 va_S.rf (by rw [hml]; exact hlv.1) dX2_requireArgument_4 dX2_requireArgument_7 dX2_requireArgument_8 dX2_requireArgument_10 dX2_requireArgument_13 (fun x hx9 => (het x hx9).elim)
      (by show 2 + 3 < d + 6; omega) (by show 0 + (13 * (2 + 1) + 43) ≤ 35 * (d + 6); omega) (Nat.le_refl _) (Nat.le_refl _) B.notSynchronized (fun t hA hsz hkeep => ?_) (fun _ q => by cases q) (Nat.le_refl _) (Nat.le_refl _)
    exact ⟨⟨h, as, ws, ⟨rfl, Or.inr ⟨c1, rfl⟩⟩, Gr.rf, hr, hP.kept (fun k q hk => hkeep q.1 (hP k q hk).lt), va_K.moved hA hK, hD.self⟩, hsz, fun q hq _ => hkeep q hq⟩
theorem at_requireState_g : ∀ w ∈ (vx_atS RX2 179 "java/lang/IllegalStateException" ["java/lang/RuntimeException", "java/lang/Exception"]).filter goodWord, w ∈ wsAll := by decide +kernel
theorem at_requireState_n : ∀ w ∈ (vx_atS RX2 179 "java/lang/IllegalStateException" ["java/lang/RuntimeException", "java/lang/Exception"]).filter (fun w => !goodWord w), w ∈ nestW := by decide +kernel
theorem at_requireState_i : Cond.initialized "java/lang/IllegalStateException" ∈ wsAll := by decide +kernel
theorem at_requireState_o : ∀ w ∈ Cond.classLink RX2 175 "java/lang/IllegalStateException" :: Cond.initialized "java/lang/IllegalStateException" :: vx_atS RX2 179 "java/lang/IllegalStateException" ["java/lang/RuntimeException", "java/lang/Exception"], vx_ot w = true := by decide +kernel
/-- what a check answers -/
theorem c_requireState (d : Nat) (v : Int32) (h : AH) : Ct (d + 6) mX2_requireState 1 6 [.int v] h (fun o h' => h' = h ∧ ((¬ v = 0 ∧ o = .inl none) ∨ (v = 0 ∧ o = .inr "java/lang/IllegalStateException"))) := by
  intro l D tc as ws vs sz hl hr ha
  have hvs : vs = [.int v] := by
    match vs, ha with
    | [w], ha => exact congrArg (fun x => [x]) ha.1
    | [], ha => exact ha.elim
    | _ :: _ :: _, ha => exact ha.2.elim
  subst hvs
  have hwo : wsM mX2_requireState = Cond.code yX2_requireState cX2_requireState 1 none :: wsAll := rfl
  refine vx_ofW (cc := cX2_requireState) (maxL := 1) (ret := none) (by decide +kernel) hwo ?_
  intro p e s m args below meth c s₁ B hml het hv
  obtain ⟨rfl, rfl, hP, hK, hD, hE⟩ := hv
  have hx := B.exec
  have hb := B.bytes
  have hrt := B.returns
  have hts := wsM_hts (atoms_spec (ws := wsM mX2_requireState) B.pre)
  have hown : s.vm.findClass RX2 = some m.cls := findClass_of_methodNamed B.named
  rw [lg_entry_eq]
  have hlv := lv_entry ([.int v]) (n := 1) (Nat.le_of_ble_eq_true rfl)
  generalize ((lg_sl ([.int v]) ++ List.replicate (1 - (lg_sl ([.int v])).length) Slot.unset).toArray) = ls at hlv ⊢
  have hlv : lv_has ls 1 [(0, .int v)] := hlv
  refine lv_iload_n hx hb dX2_requireState_0 rfl (lv_at hlv 0 rfl) ?_
  refine lv_if_ne (tgt := 14) hx hb dX2_requireState_1 (by decide) (fun c1 => ?_) (fun c1 => ?_)
  · refine W.widen (k := 1) (n := 6) (by omega) (by omega) (vx_ret ?_)
    exact W.vret hx hb hrt (fun t ht hW => ⟨⟨none, none, h, as, ws, rfl, ⟨rfl, Or.inl ⟨c1, rfl⟩⟩, Gr.rf, rfl, hr, by rw [ht]; exact hP, va_K.moved hW.alike hK, hD.self⟩, va_S.rf.F ht⟩) (fun _ q => by cases q) dX2_requireState_14 B.notSynchronized
  · obtain ⟨sa, hstr⟩ := hE.2.2.2.1
    refine vx_throwS (own := RX2) (cls := "java/lang/IllegalStateException") (text := "this can not be done now") (names := ["java/lang/RuntimeException", "java/lang/Exception"]) (ik := 175) (is := 177) (ic := 179) (sa := sa) (A := va_A ws s.heap.size) hx hb hl hown (by decide +kernel) (by decide +kernel) (hts _ QX2_175) (hts _ at_requireState_i) hstr
      (vx_hat (B := nestW) (fun w hw => hts w (at_requireState_g w hw)) at_requireState_n (fun w hw => nest_use (List.mem_filter.mp hw).2 (hE.2.2.2.2.2.1 w hw))) at_requireState_o hE.1 hE.2.1 va_S.rf (by rw [hml]; exact hlv.1) dX2_requireState_4 dX2_requireState_7 dX2_requireState_8 dX2_requireState_10 dX2_requireState_13 (fun x hx9 => (het x hx9).elim)
      (by show 2 + 3 < d + 6; omega) (by show 0 + (13 * (2 + 1) + 43) ≤ 35 * (d + 6); omega) (Nat.le_refl _) (Nat.le_refl _) B.notSynchronized (fun t hA hsz hkeep => ?_) (fun _ q => by cases q) (Nat.le_refl _) (Nat.le_refl _)
    exact ⟨⟨h, as, ws, ⟨rfl, Or.inr ⟨c1, rfl⟩⟩, Gr.rf, hr, hP.kept (fun k q hk => hkeep q.1 (hP k q hk).lt), va_K.moved hA hK, hD.self⟩, hsz, fun q hq _ => hkeep q hq⟩
theorem dM_floorMod_0 : decode prog_11_method_50_code 0 = .ok (.iload_n 0, 1) := by decide +kernel
theorem dM_floorMod_1 : decode prog_11_method_50_code 1 = .ok (.iload_n 1, 1) := by decide +kernel
theorem dM_floorMod_2 : decode prog_11_method_50_code 2 = .ok (.irem, 1) := by decide +kernel
theorem dM_floorMod_3 : decode prog_11_method_50_code 3 = .ok (.istore_n 2, 1) := by decide +kernel
theorem dM_floorMod_4 : decode prog_11_method_50_code 4 = .ok (.iload_n 0, 1) := by decide +kernel
theorem dM_floorMod_5 : decode prog_11_method_50_code 5 = .ok (.iload_n 1, 1) := by decide +kernel
theorem dM_floorMod_6 : decode prog_11_method_50_code 6 = .ok (.ixor, 1) := by decide +kernel
theorem dM_floorMod_7 : decode prog_11_method_50_code 7 = .ok (.ifCond .ge 11, 3) := by decide +kernel
theorem dM_floorMod_10 : decode prog_11_method_50_code 10 = .ok (.iload_n 2, 1) := by decide +kernel
theorem dM_floorMod_11 : decode prog_11_method_50_code 11 = .ok (.ifCond .eq 7, 3) := by decide +kernel
theorem dM_floorMod_14 : decode prog_11_method_50_code 14 = .ok (.iload_n 2, 1) := by decide +kernel
theorem dM_floorMod_15 : decode prog_11_method_50_code 15 = .ok (.iload_n 1, 1) := by decide +kernel
theorem dM_floorMod_16 : decode prog_11_method_50_code 16 = .ok (.iadd, 1) := by decide +kernel
theorem dM_floorMod_17 : decode prog_11_method_50_code 17 = .ok (.ireturn, 1) := by decide +kernel
theorem dM_floorMod_18 : decode prog_11_method_50_code 18 = .ok (.iload_n 2, 1) := by decide +kernel
theorem dM_floorMod_19 : decode prog_11_method_50_code 19 = .ok (.ireturn, 1) := by decide +kernel
def fmSpec (x y : Int32) : Int32 := if x ^^^ y < 0 ∧ ¬ x - x / y * y = 0 then x - x / y * y + y else x - x / y * y
theorem c_floorMod (d : Nat) (x y : Int32) (hy : ¬ y = 0) (h : AH) : Ct d mM_floorMod 0 0 [.int x, .int y] h (RI (fmSpec x y) h) := by
  refine Ct.ofF (by decide +kernel) rfl (Nat.le_of_ble_eq_true rfl) ?_
  show WP d mM_floorMod none 0 0 0 [.int x, .int y, vU] [] h _
  refine w_iload_n (pc := 0) (i := 0) dM_floorMod_0 rfl rfl ?_
  refine w_iload_n (pc := 1) (i := 1) dM_floorMod_1 rfl rfl ?_
  refine w_irem (pc := 2) dM_floorMod_2 hy ?_
  refine w_istore_n (pc := 3) (i := 2) (ls' := [.int x, .int y, .int (x - x / y * y)]) dM_floorMod_3 rfl (by decide) rfl rfl rfl ?_
  refine w_iload_n (pc := 4) (i := 0) dM_floorMod_4 rfl rfl ?_
  refine w_iload_n (pc := 5) (i := 1) dM_floorMod_5 rfl rfl ?_
  refine w_ixor (pc := 6) dM_floorMod_6 ?_
  refine w_if_ge (pc := 7) (tgt := 18) dM_floorMod_7 (by decide) (fun c1 => ?_) (fun c1 => ?_)
  · refine w_iload_n (pc := 18) (i := 2) dM_floorMod_18 rfl rfl ?_
    refine w_ireturn (pc := 19) dM_floorMod_19 ⟨_, rfl, rfl⟩ ⟨?_, rfl⟩
    unfold fmSpec
    rw [if_neg (fun q => Int32.not_lt.mpr c1 q.1)]
  · refine w_iload_n (pc := 10) (i := 2) dM_floorMod_10 rfl rfl ?_
    refine w_if_eq (pc := 11) (tgt := 18) dM_floorMod_11 (by decide) (fun c2 => ?_) (fun c2 => ?_)
    · refine w_iload_n (pc := 18) (i := 2) dM_floorMod_18 rfl rfl ?_
      refine w_ireturn (pc := 19) dM_floorMod_19 ⟨_, rfl, rfl⟩ ⟨?_, rfl⟩
      unfold fmSpec
      rw [if_neg (fun q => q.2 c2)]
    · refine w_iload_n (pc := 14) (i := 2) dM_floorMod_14 rfl rfl ?_
      refine w_iload_n (pc := 15) (i := 1) dM_floorMod_15 rfl rfl ?_
      refine w_iadd (pc := 16) dM_floorMod_16 ?_
      refine w_ireturn (pc := 17) dM_floorMod_17 ⟨_, rfl, rfl⟩ ⟨?_, rfl⟩
      unfold fmSpec
      rw [if_pos ⟨Int32.not_le.mp c1, c2⟩]
theorem GL_79 : GI RL 79 mX2_init 0 := ⟨K_X2_init, rfl, rfl, rfl, Or.inl LL_79, V_X2_init⟩
theorem GX2_9 : GI RX2 9 mX1_init 0 := ⟨K_X1_init, rfl, rfl, rfl, Or.inl LX2_9, V_X1_init⟩
theorem GX1_11 : GI RX1 11 mX0_init 3 := ⟨K_X0_init, rfl, rfl, rfl, Or.inl LX1_11, V_X0_init⟩
theorem GL_147 : GV RL 147 mX2_advise 0 2 := ⟨K_X2_advise, rfl, LL_147, V_X2_advise, S_X2_advise, _, rfl, rfl⟩
theorem GX2_106 : GV RX2 106 mX1_areSaggarsEmpty 0 1 := ⟨K_X1_areSaggarsEmpty, rfl, LX2_106, V_X1_areSaggarsEmpty, S_X1_areSaggarsEmpty, _, rfl, rfl⟩
theorem GX1_109 : GV RX1 109 mX0_sum 1 0 := ⟨K_X0_sum, rfl, LX1_109, V_X0_sum, S_X0_sum, _, rfl, rfl⟩
theorem GX0_38 : GV RX0 38 mX0_at 2 0 := ⟨K_X0_at, rfl, LX0_38, V_X0_at, S_X0_at, _, rfl, rfl⟩
theorem GX2_141 : GV RX2 141 mX1_bestCoals 0 1 := ⟨K_X1_bestCoals, rfl, LX2_141, V_X1_bestCoals, S_X1_bestCoals, _, rfl, rfl⟩
theorem GX1_130 : GV RX1 130 mX1_stemsThatBreakInAll 1 1 := ⟨K_X1_stemsThatBreakInAll, rfl, LX1_130, V_X1_stemsThatBreakInAll, S_X1_stemsThatBreakInAll, _, rfl, rfl⟩
theorem GX1_127 : GV RX1 127 mX1_stemsThatBreak 2 1 := ⟨K_X1_stemsThatBreak, rfl, LX1_127, V_X1_stemsThatBreak, S_X1_stemsThatBreak, _, rfl, rfl⟩
theorem GX1_96 : GV RX1 96 mX0_at 2 0 := ⟨K_X0_at, rfl, LX1_96, V_X0_at, S_X0_at, _, rfl, rfl⟩
theorem GL_157 : GV RL 157 mX2_mean 0 2 := ⟨K_X2_mean, rfl, LL_157, V_X2_mean, S_X2_mean, _, rfl, rfl⟩
theorem GX2_152 : GV RX2 152 mX1_meanFlaw 0 1 := ⟨K_X1_meanFlaw, rfl, LX2_152, V_X1_meanFlaw, S_X1_meanFlaw, _, rfl, rfl⟩
theorem GX1_89 : GV RX1 89 mX0_size 0 0 := ⟨K_X0_size, rfl, LX1_89, V_X0_size, S_X0_size, _, rfl, rfl⟩
theorem GL_162 : GV RL 162 mX2_digest 0 2 := ⟨K_X2_digest, rfl, LL_162, V_X2_digest, S_X2_digest, _, rfl, rfl⟩
theorem GX2_156 : GV RX2 156 mX1_checksum 0 1 := ⟨K_X1_checksum, rfl, LX2_156, V_X1_checksum, S_X1_checksum, _, rfl, rfl⟩
theorem GX1_187 : GV RX1 187 mX1_counted 1 1 := ⟨K_X1_counted, rfl, LX1_187, V_X1_counted, S_X1_counted, _, rfl, rfl⟩
theorem GX1_112 : GV RX1 112 mX1_wholeInAll 0 1 := ⟨K_X1_wholeInAll, rfl, LX1_112, V_X1_wholeInAll, S_X1_wholeInAll, _, rfl, rfl⟩
theorem GX1_92 : GV RX1 92 mX1_wholeOf 1 1 := ⟨K_X1_wholeOf, rfl, LX1_92, V_X1_wholeOf, S_X1_wholeOf, _, rfl, rfl⟩
theorem GX1_149 : GV RX1 149 mX1_driesBy 1 1 := ⟨K_X1_driesBy, rfl, LX1_149, V_X1_driesBy, S_X1_driesBy, _, rfl, rfl⟩
theorem GX1_190 : GV RX1 190 mX1_withMoulds 1 1 := ⟨K_X1_withMoulds, rfl, LX1_190, V_X1_withMoulds, S_X1_withMoulds, _, rfl, rfl⟩
theorem GX1_198 : GV RX1 198 mX1_aboutMould 2 1 := ⟨K_X1_aboutMould, rfl, LX1_198, V_X1_aboutMould, S_X1_aboutMould, _, rfl, rfl⟩
theorem GX1_103 : GV RX1 103 mX1_flawOf 1 1 := ⟨K_X1_flawOf, rfl, LX1_103, V_X1_flawOf, S_X1_flawOf, _, rfl, rfl⟩
theorem GX1_106 : GV RX1 106 mX1_clayOf 1 1 := ⟨K_X1_clayOf, rfl, LX1_106, V_X1_clayOf, S_X1_clayOf, _, rfl, rfl⟩
theorem GX1_100 : GV RX1 100 mX1_makerAt 1 1 := ⟨K_X1_makerAt, rfl, LX1_100, V_X1_makerAt, S_X1_makerAt, _, rfl, rfl⟩
theorem GX1_194 : GS RX1 194 mX1_withTable 2 := ⟨K_X1_withTable, rfl, LX1_194, T_X1_withTable⟩
theorem GX1_201 : GV RX1 201 mX0_width 0 0 := ⟨K_X0_width, rfl, LX1_201, V_X0_width, S_X0_width, _, rfl, rfl⟩
theorem GL_83 : GX RL 83 mL_mould 4 := ⟨K_L_mould, ⟨_, _, rfl⟩, LL_83, T_L_mould⟩
theorem GL_7 : GV RL 7 mX2_mould 2 2 := ⟨K_X2_mould, rfl, LL_7, V_X2_mould, S_X2_mould, _, rfl, rfl⟩
theorem GX2_19 : GS RX2 19 mX2_isLength 1 := ⟨K_X2_isLength, rfl, LX2_19, T_X2_isLength⟩
theorem GX2_27 : GS RX2 27 mX2_isWithin 3 := ⟨K_X2_isWithin, rfl, LX2_27, T_X2_isWithin⟩
theorem GX2_23 : GS RX2 23 mX2_requireArgument 1 := ⟨K_X2_requireArgument, rfl, LX2_23, T_X2_requireArgument⟩
theorem GX2_35 : GV RX2 35 mX0_isFull 0 0 := ⟨K_X0_isFull, rfl, LX2_35, V_X0_isFull, S_X0_isFull, _, rfl, rfl⟩
theorem GX2_41 : GS RX2 41 mX2_requireState 1 := ⟨K_X2_requireState, rfl, LX2_41, T_X2_requireState⟩
theorem GX2_44 : GV RX2 44 mX1_addMould 2 1 := ⟨K_X1_addMould, rfl, LX2_44, V_X1_addMould, S_X1_addMould, _, rfl, rfl⟩
theorem GX1_81 : GV RX1 81 mX0_addRow 0 0 := ⟨K_X0_addRow, rfl, LX1_81, V_X0_addRow, S_X0_addRow, _, rfl, rfl⟩
theorem GX0_34 : GV RX0 34 mX0_isFull 0 0 := ⟨K_X0_isFull, rfl, LX0_34, V_X0_isFull, S_X0_isFull, _, rfl, rfl⟩
theorem GX1_85 : GV RX1 85 mX0_put 3 0 := ⟨K_X0_put, rfl, LX1_85, V_X0_put, S_X0_put, _, rfl, rfl⟩
theorem GL_93 : GX RL 93 mL_refit 3 := ⟨K_L_refit, ⟨_, _, rfl⟩, LL_93, T_L_refit⟩
theorem GL_17 : GV RL 17 mX2_refit 1 2 := ⟨K_X2_refit, rfl, LL_17, V_X2_refit, S_X2_refit, _, rfl, rfl⟩
theorem GX2_48 : GV RX2 48 mX0_hasRow 1 0 := ⟨K_X0_hasRow, rfl, LX2_48, V_X0_hasRow, S_X0_hasRow, _, rfl, rfl⟩
theorem GX2_51 : GS RX2 51 mX2_requireIndex 1 := ⟨K_X2_requireIndex, rfl, LX2_51, T_X2_requireIndex⟩
theorem GX2_54 : GV RX2 54 mX0_at 2 0 := ⟨K_X0_at, rfl, LX2_54, V_X0_at, S_X0_at, _, rfl, rfl⟩
theorem GX2_61 : GV RX2 61 mX1_pay 1 1 := ⟨K_X1_pay, rfl, LX2_61, V_X1_pay, S_X1_pay, _, rfl, rfl⟩
theorem GX2_65 : GV RX2 65 mX0_put 3 0 := ⟨K_X0_put, rfl, LX2_65, V_X0_put, S_X0_put, _, rfl, rfl⟩
theorem GL_97 : GX RL 97 mL_maker 3 := ⟨K_L_maker, ⟨_, _, rfl⟩, LL_97, T_L_maker⟩
theorem GL_23 : GV RL 23 mX2_maker 1 2 := ⟨K_X2_maker, rfl, LL_23, V_X2_maker, S_X2_maker, _, rfl, rfl⟩
theorem GX2_72 : GV RX2 72 mX1_addMaker 1 1 := ⟨K_X1_addMaker, rfl, LX2_72, V_X1_addMaker, S_X1_addMaker, _, rfl, rfl⟩
theorem GL_100 : GX RL 100 mL_place 4 := ⟨K_L_place, ⟨_, _, rfl⟩, LL_100, T_L_place⟩
theorem GL_26 : GV RL 26 mX2_place 2 2 := ⟨K_X2_place, rfl, LL_26, V_X2_place, S_X2_place, _, rfl, rfl⟩
theorem GX2_76 : GV RX2 76 mX1_isAnotherAt 2 1 := ⟨K_X1_isAnotherAt, rfl, LX2_76, V_X1_isAnotherAt, S_X1_isAnotherAt, _, rfl, rfl⟩
theorem GL_103 : GX RL 103 mL_buy 4 := ⟨K_L_buy, ⟨_, _, rfl⟩, LL_103, T_L_buy⟩
theorem GL_29 : GV RL 29 mX2_buy 2 2 := ⟨K_X2_buy, rfl, LL_29, V_X2_buy, S_X2_buy, _, rfl, rfl⟩
theorem GX2_80 : GV RX2 80 mX1_addClay 1 1 := ⟨K_X1_addClay, rfl, LX2_80, V_X1_addClay, S_X1_addClay, _, rfl, rfl⟩
theorem GX2_83 : GV RX2 83 mX1_addCoals 1 1 := ⟨K_X1_addCoals, rfl, LX2_83, V_X1_addCoals, S_X1_addCoals, _, rfl, rfl⟩
theorem GL_106 : GX RL 106 mL_setDry 4 := ⟨K_L_setDry, ⟨_, _, rfl⟩, LL_106, T_L_setDry⟩
theorem GL_32 : GV RL 32 mX2_setDry 2 2 := ⟨K_X2_setDry, rfl, LL_32, V_X2_setDry, S_X2_setDry, _, rfl, rfl⟩
theorem GX2_86 : GV RX2 86 mX1_driesBy 1 1 := ⟨K_X1_driesBy, rfl, LX2_86, V_X1_driesBy, S_X1_driesBy, _, rfl, rfl⟩
theorem GX2_89 : GV RX2 89 mX1_setDrying 2 1 := ⟨K_X1_setDrying, rfl, LX2_89, V_X1_setDrying, S_X1_setDrying, _, rfl, rfl⟩
theorem GL_109 : GX RL 109 mL_pack 5 := ⟨K_L_pack, ⟨_, _, rfl⟩, LL_109, T_L_pack⟩
theorem GL_35 : GV RL 35 mX2_pack 3 2 := ⟨K_X2_pack, rfl, LL_35, V_X2_pack, S_X2_pack, _, rfl, rfl⟩
theorem GX2_99 : GV RX2 99 mX1_packPipes 3 1 := ⟨K_X1_packPipes, rfl, LX2_99, V_X1_packPipes, S_X1_packPipes, _, rfl, rfl⟩
theorem GX1_115 : GV RX1 115 mX0_removeRow 1 0 := ⟨K_X0_removeRow, rfl, LX1_115, V_X0_removeRow, S_X0_removeRow, _, rfl, rfl⟩
theorem GL_113 : GX RL 113 mL_fire 3 := ⟨K_L_fire, ⟨_, _, rfl⟩, LL_113, T_L_fire⟩
theorem GL_39 : GV RL 39 mX2_fire 1 2 := ⟨K_X2_fire, rfl, LL_39, V_X2_fire, S_X2_fire, _, rfl, rfl⟩
theorem GX2_109 : GV RX2 109 mX1_fireKiln 1 1 := ⟨K_X1_fireKiln, rfl, LX2_109, V_X1_fireKiln, S_X1_fireKiln, _, rfl, rfl⟩
theorem GX1_133 : GV RX1 133 mX1_unloadFired 2 1 := ⟨K_X1_unloadFired, rfl, LX1_133, V_X1_unloadFired, S_X1_unloadFired, _, rfl, rfl⟩
theorem GX1_136 : GV RX1 136 mX1_addWhole 2 1 := ⟨K_X1_addWhole, rfl, LX1_136, V_X1_addWhole, S_X1_addWhole, _, rfl, rfl⟩
theorem GL_116 : GX RL 116 mL_order 6 := ⟨K_L_order, ⟨_, _, rfl⟩, LL_116, T_L_order⟩
theorem GL_42 : GV RL 42 mX2_order 4 2 := ⟨K_X2_order, rfl, LL_42, V_X2_order, S_X2_order, _, rfl, rfl⟩
theorem GX2_115 : GV RX2 115 mX1_addOrder 4 1 := ⟨K_X1_addOrder, rfl, LX2_115, V_X1_addOrder, S_X1_addOrder, _, rfl, rfl⟩
theorem GL_120 : GX RL 120 mL_about 4 := ⟨K_L_about, ⟨_, _, rfl⟩, LL_120, T_L_about⟩
theorem GL_46 : GV RL 46 mX2_about 2 2 := ⟨K_X2_about, rfl, LL_46, V_X2_about, S_X2_about, _, rfl, rfl⟩
theorem GX2_119 : GV RX2 119 mX1_aboutMould 2 1 := ⟨K_X1_aboutMould, rfl, LX2_119, V_X1_aboutMould, S_X1_aboutMould, _, rfl, rfl⟩
theorem GL_123 : GX RL 123 mL_told 4 := ⟨K_L_told, ⟨_, _, rfl⟩, LL_123, T_L_told⟩
theorem GL_49 : GV RL 49 mX2_told 2 2 := ⟨K_X2_told, rfl, LL_49, V_X2_told, S_X2_told, _, rfl, rfl⟩
theorem GX2_122 : GS RX2 122 mX2_cellOf 3 := ⟨K_X2_cellOf, rfl, LX2_122, T_X2_cellOf⟩
theorem GX2_160 : GV RX2 160 mX0_hasColumn 1 0 := ⟨K_X0_hasColumn, rfl, LX2_160, V_X0_hasColumn, S_X0_hasColumn, _, rfl, rfl⟩
theorem GL_126 : GX RL 126 mL_batch 4 := ⟨K_L_batch, ⟨_, _, rfl⟩, LL_126, T_L_batch⟩
theorem GL_52 : GV RL 52 mX2_batch 2 2 := ⟨K_X2_batch, rfl, LL_52, V_X2_batch, S_X2_batch, _, rfl, rfl⟩
theorem GL_129 : GX RL 129 mL_saggar 4 := ⟨K_L_saggar, ⟨_, _, rfl⟩, LL_129, T_L_saggar⟩
theorem GL_55 : GV RL 55 mX2_saggar 2 2 := ⟨K_X2_saggar, rfl, LL_55, V_X2_saggar, S_X2_saggar, _, rfl, rfl⟩
theorem GL_132 : GX RL 132 mL_store 3 := ⟨K_L_store, ⟨_, _, rfl⟩, LL_132, T_L_store⟩
theorem GL_58 : GV RL 58 mX2_store 1 2 := ⟨K_X2_store, rfl, LL_58, V_X2_store, S_X2_store, _, rfl, rfl⟩
theorem GX2_126 : GV RX2 126 mX1_wholeOf 1 1 := ⟨K_X1_wholeOf, rfl, LX2_126, V_X1_wholeOf, S_X1_wholeOf, _, rfl, rfl⟩
theorem GL_135 : GX RL 135 mL_waits 4 := ⟨K_L_waits, ⟨_, _, rfl⟩, LL_135, T_L_waits⟩
theorem GL_61 : GV RL 61 mX2_waits 2 2 := ⟨K_X2_waits, rfl, LL_61, V_X2_waits, S_X2_waits, _, rfl, rfl⟩
theorem GL_138 : GX RL 138 mL_count 3 := ⟨K_L_count, ⟨_, _, rfl⟩, LL_138, T_L_count⟩
theorem GL_64 : GV RL 64 mX2_count 1 2 := ⟨K_X2_count, rfl, LL_64, V_X2_count, S_X2_count, _, rfl, rfl⟩
theorem GX2_129 : GV RX2 129 mX1_counted 1 1 := ⟨K_X1_counted, rfl, LX2_129, V_X1_counted, S_X1_counted, _, rfl, rfl⟩
theorem GL_141 : GX RL 141 mL_pass 3 := ⟨K_L_pass, ⟨_, _, rfl⟩, LL_141, T_L_pass⟩
theorem GL_67 : GV RL 67 mX2_pass 1 2 := ⟨K_X2_pass, rfl, LL_67, V_X2_pass, S_X2_pass, _, rfl, rfl⟩
theorem GX2_135 : GV RX2 135 mX1_passDays 1 1 := ⟨K_X1_passDays, rfl, LX2_135, V_X1_passDays, S_X1_passDays, _, rfl, rfl⟩
theorem GX1_140 : GV RX1 140 mX1_passDay 0 1 := ⟨K_X1_passDay, rfl, LX1_140, V_X1_passDay, S_X1_passDay, _, rfl, rfl⟩
theorem GX1_143 : GV RX1 143 mX1_letWork 1 1 := ⟨K_X1_letWork, rfl, LX1_143, V_X1_letWork, S_X1_letWork, _, rfl, rfl⟩
theorem GX1_159 : GV RX1 159 mX0_hasRow 1 0 := ⟨K_X0_hasRow, rfl, LX1_159, V_X0_hasRow, S_X0_hasRow, _, rfl, rfl⟩
theorem GX1_163 : GV RX1 163 mX0_isFull 0 0 := ⟨K_X0_isFull, rfl, LX1_163, V_X0_isFull, S_X0_isFull, _, rfl, rfl⟩
theorem GX1_170 : GV RX1 170 mX1_layOnBoards 2 1 := ⟨K_X1_layOnBoards, rfl, LX1_170, V_X1_layOnBoards, S_X1_layOnBoards, _, rfl, rfl⟩
theorem GX1_173 : GV RX1 173 mX1_wearMould 2 1 := ⟨K_X1_wearMould, rfl, LX1_173, V_X1_wearMould, S_X1_wearMould, _, rfl, rfl⟩
theorem GX1_146 : GS RX1 146 mM_floorMod 2 := ⟨K_M_floorMod, rfl, LX1_146, T_M_floorMod⟩
theorem GX1_152 : GS RX1 152 mX1_dry 2 := ⟨K_X1_dry, rfl, LX1_152, T_X1_dry⟩
theorem GX1_156 : GV RX1 156 mX1_lookAtOrders 0 1 := ⟨K_X1_lookAtOrders, rfl, LX1_156, V_X1_lookAtOrders, S_X1_lookAtOrders, _, rfl, rfl⟩
theorem GX1_176 : GV RX1 176 mX1_lookAtOrder 1 1 := ⟨K_X1_lookAtOrder, rfl, LX1_176, V_X1_lookAtOrder, S_X1_lookAtOrder, _, rfl, rfl⟩
theorem GX1_179 : GV RX1 179 mX1_dismiss 2 1 := ⟨K_X1_dismiss, rfl, LX1_179, V_X1_dismiss, S_X1_dismiss, _, rfl, rfl⟩
theorem GL_144 : GX RL 144 mL_breaks 4 := ⟨K_L_breaks, ⟨_, _, rfl⟩, LL_144, T_L_breaks⟩
theorem GL_70 : GV RL 70 mX2_breaks 2 2 := ⟨K_X2_breaks, rfl, LL_70, V_X2_breaks, S_X2_breaks, _, rfl, rfl⟩
theorem GX2_138 : GV RX2 138 mX1_stemsThatBreak 2 1 := ⟨K_X1_stemsThatBreak, rfl, LX2_138, V_X1_stemsThatBreak, S_X1_stemsThatBreak, _, rfl, rfl⟩
theorem GL_151 : GX RL 151 mL_ready 3 := ⟨K_L_ready, ⟨_, _, rfl⟩, LL_151, T_L_ready⟩
theorem GL_73 : GV RL 73 mX2_ready 1 2 := ⟨K_X2_ready, rfl, LL_73, V_X2_ready, S_X2_ready, _, rfl, rfl⟩
theorem GX2_145 : GV RX2 145 mX1_copyFrom 1 1 := ⟨K_X1_copyFrom, rfl, LX2_145, V_X1_copyFrom, S_X1_copyFrom, _, rfl, rfl⟩
theorem GX1_52 : GV RX1 52 mX0_copyFrom 1 0 := ⟨K_X0_copyFrom, rfl, LX1_52, V_X0_copyFrom, S_X0_copyFrom, _, rfl, rfl⟩
theorem GX2_149 : GV RX2 149 mX1_daysTillServed 1 1 := ⟨K_X1_daysTillServed, rfl, LX2_149, V_X1_daysTillServed, S_X1_daysTillServed, _, rfl, rfl⟩
theorem GL_154 : GX RL 154 mL_foresee 4 := ⟨K_L_foresee, ⟨_, _, rfl⟩, LL_154, T_L_foresee⟩
theorem GL_76 : GV RL 76 mX2_foresee 2 2 := ⟨K_X2_foresee, rfl, LL_76, V_X2_foresee, S_X2_foresee, _, rfl, rfl⟩
theorem GL_82 : GI RL 82 mX4_init 0 := ⟨K_X4_init, rfl, rfl, rfl, Or.inl LL_82, V_X4_init⟩
theorem GX4_24 : GI RX4 24 mX3_init 1 := ⟨K_X3_init, rfl, rfl, rfl, Or.inr ⟨_, LX4_24⟩, V_X3_init⟩
theorem GL_89 : GV RL 89 mX4_thrown 0 4 := ⟨K_X4_thrown, rfl, LL_89, V_X4_thrown, S_X4_thrown, _, rfl, rfl⟩
theorem GL_88 : GV RL 88 mX4_mould 2 4 := ⟨K_X4_mould, rfl, LL_88, V_X4_mould, S_X4_mould, _, rfl, rfl⟩
theorem GX4_51 : GS RX4 51 mX4_isLength 1 := ⟨K_X4_isLength, rfl, LX4_51, T_X4_isLength⟩
theorem GX4_38 : GS RX4 38 mX4_isIn 3 := ⟨K_X4_isIn, rfl, LX4_38, T_X4_isIn⟩
theorem GX4_55 : GV RX4 55 mX4_no 1 4 := ⟨K_X4_no, rfl, LX4_55, V_X4_no, S_X4_no, _, rfl, rfl⟩
theorem GL_96 : GV RL 96 mX4_refit 1 4 := ⟨K_X4_refit, rfl, LL_96, V_X4_refit, S_X4_refit, _, rfl, rfl⟩
theorem GX4_62 : GV RX4 62 mX4_isMould 1 4 := ⟨K_X4_isMould, rfl, LX4_62, V_X4_isMould, S_X4_isMould, _, rfl, rfl⟩
theorem GL_99 : GV RL 99 mX4_maker 1 4 := ⟨K_X4_maker, rfl, LL_99, V_X4_maker, S_X4_maker, _, rfl, rfl⟩
theorem GL_102 : GV RL 102 mX4_place 2 4 := ⟨K_X4_place, rfl, LL_102, V_X4_place, S_X4_place, _, rfl, rfl⟩
theorem GX4_68 : GV RX4 68 mX4_isMaker 1 4 := ⟨K_X4_isMaker, rfl, LX4_68, V_X4_isMaker, S_X4_isMaker, _, rfl, rfl⟩
theorem GX4_71 : GV RX4 71 mX4_makerAt 1 4 := ⟨K_X4_makerAt, rfl, LX4_71, V_X4_makerAt, S_X4_makerAt, _, rfl, rfl⟩
theorem GL_105 : GV RL 105 mX4_buy 2 4 := ⟨K_X4_buy, rfl, LL_105, V_X4_buy, S_X4_buy, _, rfl, rfl⟩
theorem GL_108 : GV RL 108 mX4_setDry 2 4 := ⟨K_X4_setDry, rfl, LL_108, V_X4_setDry, S_X4_setDry, _, rfl, rfl⟩
theorem GL_112 : GV RL 112 mX4_pack 3 4 := ⟨K_X4_pack, rfl, LL_112, V_X4_pack, S_X4_pack, _, rfl, rfl⟩
theorem GX4_80 : GV RX4 80 mX4_isBatch 1 4 := ⟨K_X4_isBatch, rfl, LX4_80, V_X4_isBatch, S_X4_isBatch, _, rfl, rfl⟩
theorem GX4_83 : GS RX4 83 mX4_isSaggar 1 := ⟨K_X4_isSaggar, rfl, LX4_83, T_X4_isSaggar⟩
theorem GX4_90 : GV RX4 90 mX3_saggar 1 3 := ⟨K_X3_saggar, rfl, LX4_90, V_X3_saggar, S_X3_saggar, _, rfl, rfl⟩
theorem GX4_94 : GN RX4 94 mX3_put 5 3 := ⟨K_X3_put, rfl, ⟨_, LX4_94⟩, V_X3_put, S_X3_put, _, rfl, rfl⟩
theorem GX4_98 : GV RX4 98 mX3_takeBatch 1 3 := ⟨K_X3_takeBatch, rfl, LX4_98, V_X3_takeBatch, S_X3_takeBatch, _, rfl, rfl⟩
theorem GX3_98 : GV RX3 98 mX3_put 5 3 := ⟨K_X3_put, rfl, LX3_98, V_X3_put, S_X3_put, _, rfl, rfl⟩
theorem GL_115 : GV RL 115 mX4_fire 1 4 := ⟨K_X4_fire, rfl, LL_115, V_X4_fire, S_X4_fire, _, rfl, rfl⟩
theorem GX4_102 : GV RX4 102 mX3_inSaggars 0 3 := ⟨K_X3_inSaggars, rfl, LX4_102, V_X3_inSaggars, S_X3_inSaggars, _, rfl, rfl⟩
theorem GX3_128 : GV RX3 128 mX3_pipes 2 3 := ⟨K_X3_pipes, rfl, LX3_128, V_X3_pipes, S_X3_pipes, _, rfl, rfl⟩
theorem GX4_106 : GV RX4 106 mX3_breaks 2 3 := ⟨K_X3_breaks, rfl, LX4_106, V_X3_breaks, S_X3_breaks, _, rfl, rfl⟩
theorem GX3_121 : GV RX3 121 mX3_saggar 1 3 := ⟨K_X3_saggar, rfl, LX3_121, V_X3_saggar, S_X3_saggar, _, rfl, rfl⟩
theorem GL_119 : GV RL 119 mX4_order 4 4 := ⟨K_X4_order, rfl, LL_119, V_X4_order, S_X4_order, _, rfl, rfl⟩
theorem GL_122 : GV RL 122 mX4_about 2 4 := ⟨K_X4_about, rfl, LL_122, V_X4_about, S_X4_about, _, rfl, rfl⟩
theorem GX4_137 : GV RX4 137 mX4_mouldTold 2 4 := ⟨K_X4_mouldTold, rfl, LX4_137, V_X4_mouldTold, S_X4_mouldTold, _, rfl, rfl⟩
theorem GX4_131 : GV RX4 131 mX3_flaw 1 3 := ⟨K_X3_flaw, rfl, LX4_131, V_X3_flaw, S_X3_flaw, _, rfl, rfl⟩
theorem GX4_134 : GV RX4 134 mX4_clayOf 1 4 := ⟨K_X4_clayOf, rfl, LX4_134, V_X4_clayOf, S_X4_clayOf, _, rfl, rfl⟩
theorem GL_125 : GV RL 125 mX4_told 2 4 := ⟨K_X4_told, rfl, LL_125, V_X4_told, S_X4_told, _, rfl, rfl⟩
theorem GX4_140 : GV RX4 140 mX4_makerTold 2 4 := ⟨K_X4_makerTold, rfl, LX4_140, V_X4_makerTold, S_X4_makerTold, _, rfl, rfl⟩
theorem GL_128 : GV RL 128 mX4_batch 2 4 := ⟨K_X4_batch, rfl, LL_128, V_X4_batch, S_X4_batch, _, rfl, rfl⟩
theorem GL_131 : GV RL 131 mX4_saggar 2 4 := ⟨K_X4_saggar, rfl, LL_131, V_X4_saggar, S_X4_saggar, _, rfl, rfl⟩
theorem GL_134 : GV RL 134 mX4_store 1 4 := ⟨K_X4_store, rfl, LL_134, V_X4_store, S_X4_store, _, rfl, rfl⟩
theorem GL_137 : GV RL 137 mX4_waits 2 4 := ⟨K_X4_waits, rfl, LL_137, V_X4_waits, S_X4_waits, _, rfl, rfl⟩
theorem GX4_143 : GV RX4 143 mX4_isWaiting 1 4 := ⟨K_X4_isWaiting, rfl, LX4_143, V_X4_isWaiting, S_X4_isWaiting, _, rfl, rfl⟩
theorem GL_140 : GV RL 140 mX4_count 1 4 := ⟨K_X4_count, rfl, LL_140, V_X4_count, S_X4_count, _, rfl, rfl⟩
theorem GX4_146 : GV RX4 146 mX3_counted 1 3 := ⟨K_X3_counted, rfl, LX4_146, V_X3_counted, S_X3_counted, _, rfl, rfl⟩
theorem GX3_131 : GV RX3 131 mX3_inSaggars 0 3 := ⟨K_X3_inSaggars, rfl, LX3_131, V_X3_inSaggars, S_X3_inSaggars, _, rfl, rfl⟩
theorem GX3_135 : GV RX3 135 mX3_stored 0 3 := ⟨K_X3_stored, rfl, LX3_135, V_X3_stored, S_X3_stored, _, rfl, rfl⟩
theorem GL_143 : GV RL 143 mX4_pass 1 4 := ⟨K_X4_pass, rfl, LL_143, V_X4_pass, S_X4_pass, _, rfl, rfl⟩
theorem GX4_152 : GV RX4 152 mX3_pass_ 1 3 := ⟨K_X3_pass_, rfl, LX4_152, V_X3_pass_, S_X3_pass_, _, rfl, rfl⟩
theorem GX3_118 : GV RX3 118 mX3_pass 0 3 := ⟨K_X3_pass, rfl, LX3_118, V_X3_pass, S_X3_pass, _, rfl, rfl⟩
theorem GX3_108 : GV RX3 108 mX3_make 1 3 := ⟨K_X3_make, rfl, LX3_108, V_X3_make, S_X3_make, _, rfl, rfl⟩
theorem GX3_82 : GN RX3 82 mX4_clayOf 1 4 := ⟨K_X4_clayOf, rfl, ⟨_, LX3_82⟩, V_X4_clayOf, S_X4_clayOf, _, rfl, rfl⟩
theorem GX3_95 : GV RX3 95 mX3_flaw 1 3 := ⟨K_X3_flaw, rfl, LX3_95, V_X3_flaw, S_X3_flaw, _, rfl, rfl⟩
theorem GX3_115 : GV RX3 115 mX3_serve 0 3 := ⟨K_X3_serve, rfl, LX3_115, V_X3_serve, S_X3_serve, _, rfl, rfl⟩
theorem GL_146 : GV RL 146 mX4_breaks 2 4 := ⟨K_X4_breaks, rfl, LL_146, V_X4_breaks, S_X4_breaks, _, rfl, rfl⟩
theorem GL_150 : GV RL 150 mX4_advise 0 4 := ⟨K_X4_advise, rfl, LL_150, V_X4_advise, S_X4_advise, _, rfl, rfl⟩
theorem GL_153 : GV RL 153 mX4_ready 1 4 := ⟨K_X4_ready, rfl, LL_153, V_X4_ready, S_X4_ready, _, rfl, rfl⟩
theorem GX4_158 : GV RX4 158 mX3_become 1 3 := ⟨K_X3_become, rfl, LX4_158, V_X3_become, S_X3_become, _, rfl, rfl⟩
theorem GX4_168 : GV RX4 168 mX3_pass 0 3 := ⟨K_X3_pass, rfl, LX4_168, V_X3_pass, S_X3_pass, _, rfl, rfl⟩
theorem GL_156 : GV RL 156 mX4_foresee 2 4 := ⟨K_X4_foresee, rfl, LL_156, V_X4_foresee, S_X4_foresee, _, rfl, rfl⟩
theorem GL_161 : GV RL 161 mX4_mean 0 4 := ⟨K_X4_mean, rfl, LL_161, V_X4_mean, S_X4_mean, _, rfl, rfl⟩
theorem GL_166 : GV RL 166 mX4_digest 0 4 := ⟨K_X4_digest, rfl, LL_166, V_X4_digest, S_X4_digest, _, rfl, rfl⟩
