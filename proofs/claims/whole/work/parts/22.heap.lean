/-! heap instructions -/
theorem cls5_in : ∀ (ci : Nat) (q : vw_C), cls5[ci]? = some q → ∀ w ∈ u_ws q.1 q.2.1 q.2.2, w ∈ wsAll := by
  have h0 : ∀ w ∈ u_ws RX0 TX0 3, w ∈ wsAll := by decide +kernel
  have h1 : ∀ w ∈ u_ws RX1 TX1 17, w ∈ wsAll := by decide +kernel
  have h2 : ∀ w ∈ u_ws RX2 TX2 2, w ∈ wsAll := by decide +kernel
  have h3 : ∀ w ∈ u_ws RX3 TX3 18, w ∈ wsAll := by decide +kernel
  have h4 : ∀ w ∈ u_ws RX4 TX4 9, w ∈ wsAll := by decide +kernel
  intro ci q hq
  match ci, hq with
  | 0, hq => cases hq; exact h0
  | 1, hq => cases hq; exact h1
  | 2, hq => cases hq; exact h2
  | 3, hq => cases hq; exact h3
  | 4, hq => cases hq; exact h4
  | k + 5, hq => simp at hq
theorem cls5_ty : ∀ (ci : Nat) (q : vw_C), cls5[ci]? = some q → ∃ ty : Nat → FieldType, ∀ k, k < q.2.2 → parseFieldDescriptor (q.2.1 k).2.2.1 = some (ty k) := by
  intro ci q hq
  match ci, hq with
  | 0, hq => cases hq; exact ⟨_, tyX0_ok⟩
  | 1, hq => cases hq; exact ⟨_, tyX1_ok⟩
  | 2, hq => cases hq; exact ⟨_, tyX2_ok⟩
  | 3, hq => cases hq; exact ⟨_, tyX3_ok⟩
  | 4, hq => cases hq; exact ⟨_, tyX4_ok⟩
  | k + 5, hq => simp at hq
theorem cls5_nm : ∀ (ci : Nat) (q : vw_C), cls5[ci]? = some q → ∀ a, a < q.2.2 → ∀ b, b < q.2.2 → a ≠ b → (q.2.1 a).2.1 ≠ (q.2.1 b).2.1 := by
  intro ci q hq
  match ci, hq with
  | 0, hq => cases hq; exact nmX0
  | 1, hq => cases hq; exact nmX1
  | 2, hq => cases hq; exact nmX2
  | 3, hq => cases hq; exact nmX3
  | 4, hq => cases hq; exact nmX4
  | k + 5, hq => simp at hq
/-- the pool entry i of class own names field j of class number ci -/
def FG (own : String) (i ci j : Nat) : Prop := ∃ q : vw_C, cls5[ci]? = some q ∧ j < q.2.2 ∧ (Cond.fieldLink own i (q.2.1 j).1 (q.2.1 j).2.1 (q.2.1 j).2.2.1 ∈ wsAll ∨ ∃ host, Cond.fieldLinkNest own i (q.2.1 j).1 (q.2.1 j).2.1 (q.2.1 j).2.2.1 host ∈ nestW)
/-- .. that isn't final, with type ty -/
def FPu (own : String) (i ci j : Nat) (fin : Bool) (ty : FieldType) : Prop := ∃ q : vw_C, cls5[ci]? = some q ∧ j < q.2.2 ∧ (Cond.fieldLink own i (q.2.1 j).1 (q.2.1 j).2.1 (q.2.1 j).2.2.1 ∈ wsAll ∨ (fin = false ∧ ∃ host, Cond.fieldLinkNest own i (q.2.1 j).1 (q.2.1 j).2.1 (q.2.1 j).2.2.1 host ∈ nestW)) ∧ (q.2.1 j).2.2.2 = fin ∧ (fin = true → (q.2.1 j).1 = own) ∧ parseFieldDescriptor (q.2.1 j).2.2.1 = some ty
def NV (ty : FieldType) (v : Value) : Prop := ∀ (as : List Nat) (w : Value), VF as v w → narrow ty w = w ∧ fits ty w = true
theorem nv_i {x : Int32} : NV .int (.int x) := fun as w e => by cases e; exact ⟨rfl, rfl⟩
theorem nv_z {x : Int32} (h : x = 0 ∨ x = 1) : NV .boolean (.int x) := fun as w e => by
  cases e
  rcases h with rfl | rfl <;> exact ⟨rfl, rfl⟩
theorem nv_o {C : String} {i : Nat} : NV (.object C) (.ref i) := fun as w e => by
  obtain ⟨a, -, rfl⟩ := e
  exact ⟨rfl, rfl⟩
theorem nv_a {t : FieldType} {i : Nat} : NV (.array t) (.ref i) := fun as w e => by
  obtain ⟨a, -, rfl⟩ := e
  exact ⟨rfl, rfl⟩
theorem VRr {as : List Nat} {sb i : Nat} {w : Value} (h : VR as sb (.ref i) w) : ∃ a, as[i]? = some a ∧ w = .ref a := h
theorem VRF {as : List Nat} {sb : Nat} {v w : Value} (h : VR as sb v w) (hv : ∀ q, v ≠ .retAddr q) : VF as v w := by
  cases v <;> first | exact h | exact absurd rfl (hv _)
theorem tys0 {tc : TC} : (tys3 tc)[0]? = some (tc.1, .int) := rfl
theorem tys1 {tc : TC} : (tys3 tc)[1]? = some (tc.2.1, .long) := rfl
theorem tys2 {tc : TC} : (tys3 tc)[2]? = some (tc.2.2, .array .int) := rfl
/-- what a cell is in the world -/
theorem HR.obj {as : List Nat} {tc : TC} {h : AH} {ws : va_W} {i a ci : Nat} {fs : List Value} (hr : HR as tc h ws) (ha : as[i]? = some a) (hh : h[i]? = some (.inr (ci, fs))) : ∃ vs, ws[i]? = some (a, .inr (ci, vs)) ∧ vs.length = fs.length ∧ ∀ (k : Nat) (v : Value), fs[k]? = some v → ∃ w, vs[k]? = some w ∧ VF as v w := by
  obtain ⟨a', e, h1, h2, vs, rfl, h3, h4⟩ := hr.2.2 i _ hh
  cases h1.symm.trans ha
  exact ⟨vs, h2, h3, h4⟩
theorem HR.iar {as : List Nat} {tc : TC} {h : AH} {ws : va_W} {i a n : Nat} {f : Nat → Int32} (hr : HR as tc h ws) (ha : as[i]? = some a) (hh : h[i]? = some (.inl (n, .inl f))) : ws[i]? = some (a, .inl (tc.1, n, .inl f)) := by
  obtain ⟨a', e, h1, h2, h3⟩ := hr.2.2 i _ hh
  cases h1.symm.trans ha
  cases h3
  exact h2
theorem HR.lar {as : List Nat} {tc : TC} {h : AH} {ws : va_W} {i a n : Nat} {f : Nat → Int64} (hr : HR as tc h ws) (ha : as[i]? = some a) (hh : h[i]? = some (.inl (n, .inr (.inl f)))) : ws[i]? = some (a, .inl (tc.2.1, n, .inr (.inl f))) := by
  obtain ⟨a', e, h1, h2, h3⟩ := hr.2.2 i _ hh
  cases h1.symm.trans ha
  cases h3
  exact h2
theorem HR.gar {as : List Nat} {tc : TC} {h : AH} {ws : va_W} {i a n : Nat} {f : Nat → Option Nat} (hr : HR as tc h ws) (ha : as[i]? = some a) (hh : h[i]? = some (.inl (n, .inr (.inr (.inr (.inr f)))))) : ∃ g, ws[i]? = some (a, .inl (tc.2.2, n, .inr (.inr (.inr (.inr g))))) ∧ ∀ j, j < n → RF as (f j) (g j) := by
  obtain ⟨a', e, h1, h2, g, rfl, h3⟩ := hr.2.2 i _ hh
  cases h1.symm.trans ha
  exact ⟨g, h2, h3⟩
section HEAP
variable {d : Nat} {M : MD} {z : Option (Nat × (Nat → Int32))} {k n pc : Nat} {ls st : List Value} {h : AH} {P : AO → AH → Prop}
theorem w_get {i ci j a : Nat} {fs : List Value} {v : Value} (hd : decode (mdB M) pc = .ok (.getfield i, 3)) (hf : FG (mdY M).cls i ci j) (hh : h[a]? = some (.inr (ci, fs))) (hv : fs[j]? = some v) (kk : WP d M z k n (pc + 3) ls (v :: st) h P) : WP d M z k n pc ls (.ref a :: st) h P := by
  intro p l e R s m args below meth c D tc A H locs cells slots as ws L sv sb Q hC hI hX hL hS hc hs hr ht
  obtain ⟨_, _, rfl, ⟨a', ha, rfl⟩, hS0⟩ := hS.c
  obtain ⟨vs, h1, h2, h3⟩ := hI.2.2.2.1.obj ha hh
  obtain ⟨w, h4, h5⟩ := h3 j v hv
  obtain ⟨q, hq, hj, hw⟩ := hf
  have K := kk hC hI hX hL (show SR as sb (v :: st) (w :: _) from ⟨h5.to, hS0⟩) hc hs hr ht
  rcases hw with hw | ⟨host, hw⟩
  · exact va_get hC.1 hC.2.1 hC.2.2.2.2.2.1 (cls5_in ci q hq) hC.2.2.2.2.1 hI.1 hI.2.2.2.2.1 a h1 hq j hj (hC.2.2.2.2.2.1 _ hw) (fun _ x => x) h4 hd K
  · exact va_getN hC.1 hC.2.1 hC.2.2.2.2.2.1 (cls5_in ci q hq) hC.2.2.2.2.1 hI.1 hI.2.2.2.2.1 a h1 hq j hj ((hI.2.1.2.2.2.2.2.1 _ hw).use (by rfl)) (fun _ x => x) h4 hd K
theorem w_put {i ci j a : Nat} {ty : FieldType} {fs : List Value} {v : Value} (hd : decode (mdB M) pc = .ok (.putfield i, 3)) (hf : FPu (mdY M).cls i ci j false ty) (hh : h[a]? = some (.inr (ci, fs))) (hl : j < fs.length) (hn : NV ty v) (hv : ∀ q, v ≠ .retAddr q) (kk : WP d M z k n (pc + 3) ls st (h.set a (.inr (ci, fs.set j v))) P) : WP d M z k n pc ls (v :: .ref a :: st) h P := by
  intro p l e R s m args below meth c D tc A H locs cells slots as ws L sv sb Q hC hI hX hL hS hc hs hr ht
  obtain ⟨w, _, rfl, e0, hS0⟩ := hS.c
  obtain ⟨_, _, rfl, ⟨a', ha, rfl⟩, hS1⟩ := hS0.c
  obtain ⟨vs, h1, h2, h3⟩ := hI.2.2.2.1.obj ha hh
  obtain ⟨q, hq, hj, hw, hfin, -, hty⟩ := hf
  obtain ⟨ty0, hty0⟩ := cls5_ty ci q hq
  have hF := VRF e0 hv
  obtain ⟨n1, n2⟩ := hn as w hF
  have K : ∀ (H1 : Heap) (locs1 : List Loc), va_P D cls5 (ws.set a (a', .inr (ci, vs.set j w))) H1 → va_D A (ws.set a (a', .inr (ci, vs.set j w))) → va_S A s.heap H1 locs1 → W p l e R s m args below meth c H1 locs1 cells slots Q (F0 m (pc + 3) L _) := fun H1 locs1 g1 g2 g3 =>
    kk hC ⟨hI.1, hI.2.1, hI.2.2.1, hI.2.2.2.1.set ha ⟨vs.set j w, rfl, by rw [List.length_set, List.length_set, h2], fun k v' hk => by
      by_cases e1 : k = j
      · subst e1
        rw [List.getElem?_set_self hl] at hk
        cases hk
        exact ⟨w, List.getElem?_set_self (by rw [h2]; exact hl), hF⟩
      · rw [List.getElem?_set_ne (Ne.symm e1)] at hk
        rw [List.getElem?_set_ne (Ne.symm e1)]
        exact h3 k v' hk⟩, g1, g2, g3⟩ hX hL hS1 hc hs hr ht
  rcases hw with hw | ⟨-, host, hw⟩
  · exact va_put hC.1 hC.2.1 hC.2.2.2.2.2.1 (cls5_in ci q hq) ty0 hty0 (cls5_nm ci q hq) hC.2.2.2.2.1 hI.1 hI.2.2.2.2.1 hI.2.2.2.2.2.1 hI.2.2.2.2.2.2 a h1 hq j hj (hC.2.2.2.2.2.1 _ hw) (fun _ x => x) hfin hty n1 n2 (by rw [h2]; exact hl) hd K
  · exact va_putN hC.1 hC.2.1 hC.2.2.2.2.2.1 (cls5_in ci q hq) ty0 hty0 (cls5_nm ci q hq) hC.2.2.2.2.1 hI.1 hI.2.2.2.2.1 hI.2.2.2.2.2.1 hI.2.2.2.2.2.2 a h1 hq j hj ((hI.2.1.2.2.2.2.2.1 _ hw).use (by rfl)) (fun _ x => x) hfin hty n1 n2 (by rw [h2]; exact hl) hd K
theorem w_putF {i ci j a : Nat} {ty : FieldType} {fs : List Value} {v : Value} (hd : decode (mdB M) pc = .ok (.putfield i, 3)) (hf : FPu (mdY M).cls i ci j true ty) (hin : (mdY M).name = "<init>") (hh : h[a]? = some (.inr (ci, fs))) (hl : j < fs.length) (hn : NV ty v) (hv : ∀ q, v ≠ .retAddr q) (kk : WP d M z k n (pc + 3) ls st (h.set a (.inr (ci, fs.set j v))) P) : WP d M z k n pc ls (v :: .ref a :: st) h P := by
  intro p l e R s m args below meth c D tc A H locs cells slots as ws L sv sb Q hC hI hX hL hS hc hs hr ht
  obtain ⟨w, _, rfl, e0, hS0⟩ := hS.c
  obtain ⟨_, _, rfl, ⟨a', ha, rfl⟩, hS1⟩ := hS0.c
  obtain ⟨vs, h1, h2, h3⟩ := hI.2.2.2.1.obj ha hh
  obtain ⟨q, hq, hj, hw, hfin, hown, hty⟩ := hf
  obtain ⟨ty0, hty0⟩ := cls5_ty ci q hq
  have hF := VRF e0 hv
  obtain ⟨n1, n2⟩ := hn as w hF
  have K : ∀ (H1 : Heap) (locs1 : List Loc), va_P D cls5 (ws.set a (a', .inr (ci, vs.set j w))) H1 → va_D A (ws.set a (a', .inr (ci, vs.set j w))) → va_S A s.heap H1 locs1 → W p l e R s m args below meth c H1 locs1 cells slots Q (F0 m (pc + 3) L _) := fun H1 locs1 g1 g2 g3 =>
    kk hC ⟨hI.1, hI.2.1, hI.2.2.1, hI.2.2.2.1.set ha ⟨vs.set j w, rfl, by rw [List.length_set, List.length_set, h2], fun k v' hk => by
      by_cases e1 : k = j
      · subst e1
        rw [List.getElem?_set_self hl] at hk
        cases hk
        exact ⟨w, List.getElem?_set_self (by rw [h2]; exact hl), hF⟩
      · rw [List.getElem?_set_ne (Ne.symm e1)] at hk
        rw [List.getElem?_set_ne (Ne.symm e1)]
        exact h3 k v' hk⟩, g1, g2, g3⟩ hX hL hS1 hc hs hr ht
  rcases hw with hw | ⟨hff, -⟩
  · exact va_putF hC.1 hC.2.1 hC.2.2.2.2.2.1 (cls5_in ci q hq) ty0 hty0 (cls5_nm ci q hq) hC.2.2.2.2.1 hI.1 hI.2.2.2.2.1 hI.2.2.2.2.2.1 hI.2.2.2.2.2.2 a h1 hq j hj (hC.2.2.2.2.2.1 _ hw) (fun _ x => x) hfin (by rw [hC.2.2.2.2.2.2.2.1]; exact hin) (hown rfl) hty n1 n2 (by rw [h2]; exact hl) hd K
  · cases hff
theorem w_iald {a nn : Nat} {f : Nat → Int32} {i : Int32} (hd : decode (mdB M) pc = .ok (.iaload, 1)) (hh : h[a]? = some (.inl (nn, .inl f))) (hin : vp_in i nn) (kk : WP d M z k n (pc + 1) ls (.int (f i.toNatClampNeg) :: st) h P) : WP d M z k n pc ls (.int i :: .ref a :: st) h P := by
  intro p l e R s m args below meth c D tc A H locs cells slots as ws L sv sb Q hC hI hX hL hS hc hs hr ht
  obtain ⟨_, _, rfl, e0, hS0⟩ := hS.c
  obtain ⟨_, _, rfl, ⟨a', ha, rfl⟩, hS1⟩ := hS0.c
  cases e0
  exact va_iald hC.1 hC.2.1 hI.1 hI.2.2.2.2.1 a 0 (hI.2.2.2.1.iar ha hh) tys0 hin hd (kk hC hI hX hL ⟨rfl, hS1⟩ hc hs hr ht)
theorem w_iast {a nn : Nat} {f : Nat → Int32} {i x : Int32} (hd : decode (mdB M) pc = .ok (.iastore, 1)) (hh : h[a]? = some (.inl (nn, .inl f))) (hin : vp_in i nn) (kk : WP d M z k n (pc + 1) ls st (h.set a (.inl (nn, .inl (upd f i.toNatClampNeg x)))) P) : WP d M z k n pc ls (.int x :: .int i :: .ref a :: st) h P := by
  intro p l e R s m args below meth c D tc A H locs cells slots as ws L sv sb Q hC hI hX hL hS hc hs hr ht
  obtain ⟨_, _, rfl, e0, hS0⟩ := hS.c
  obtain ⟨_, _, rfl, e1, hS1⟩ := hS0.c
  obtain ⟨_, _, rfl, ⟨a', ha, rfl⟩, hS2⟩ := hS1.c
  cases e0
  cases e1
  exact va_iast hC.1 hC.2.1 hI.1 hI.2.2.2.2.1 hI.2.2.2.2.2.1 hI.2.2.2.2.2.2 a 0 (hI.2.2.2.1.iar ha hh) tys0 hin hd (fun H1 locs1 g1 g2 g3 => kk hC ⟨hI.1, hI.2.1, hI.2.2.1, hI.2.2.2.1.set ha rfl, g1, g2, g3⟩ hX hL hS2 hc hs hr ht)
theorem w_lald {a nn : Nat} {f : Nat → Int64} {i : Int32} (hd : decode (mdB M) pc = .ok (.laload, 1)) (hh : h[a]? = some (.inl (nn, .inr (.inl f)))) (hin : vp_in i nn) (kk : WP d M z k n (pc + 1) ls (.long (f i.toNatClampNeg) :: st) h P) : WP d M z k n pc ls (.int i :: .ref a :: st) h P := by
  intro p l e R s m args below meth c D tc A H locs cells slots as ws L sv sb Q hC hI hX hL hS hc hs hr ht
  obtain ⟨_, _, rfl, e0, hS0⟩ := hS.c
  obtain ⟨_, _, rfl, ⟨a', ha, rfl⟩, hS1⟩ := hS0.c
  cases e0
  exact va_lald hC.1 hC.2.1 hI.1 hI.2.2.2.2.1 a 1 (hI.2.2.2.1.lar ha hh) tys1 hin hd (kk hC hI hX hL ⟨rfl, hS1⟩ hc hs hr ht)
theorem w_last {a nn : Nat} {f : Nat → Int64} {i : Int32} {x : Int64} (hd : decode (mdB M) pc = .ok (.lastore, 1)) (hh : h[a]? = some (.inl (nn, .inr (.inl f)))) (hin : vp_in i nn) (kk : WP d M z k n (pc + 1) ls st (h.set a (.inl (nn, .inr (.inl (vp_updL f i.toNatClampNeg x))))) P) : WP d M z k n pc ls (.long x :: .int i :: .ref a :: st) h P := by
  intro p l e R s m args below meth c D tc A H locs cells slots as ws L sv sb Q hC hI hX hL hS hc hs hr ht
  obtain ⟨_, _, rfl, e0, hS0⟩ := hS.c
  obtain ⟨_, _, rfl, e1, hS1⟩ := hS0.c
  obtain ⟨_, _, rfl, ⟨a', ha, rfl⟩, hS2⟩ := hS1.c
  cases e0
  cases e1
  exact va_last hC.1 hC.2.1 hI.1 hI.2.2.2.2.1 hI.2.2.2.2.2.1 hI.2.2.2.2.2.2 a 1 (hI.2.2.2.1.lar ha hh) tys1 hin hd (fun H1 locs1 g1 g2 g3 => kk hC ⟨hI.1, hI.2.1, hI.2.2.1, hI.2.2.2.1.set ha rfl, g1, g2, g3⟩ hX hL hS2 hc hs hr ht)
theorem w_aald {a nn j : Nat} {f : Nat → Option Nat} {i : Int32} (hd : decode (mdB M) pc = .ok (.aaload, 1)) (hh : h[a]? = some (.inl (nn, .inr (.inr (.inr (.inr f)))))) (hin : vp_in i nn) (hf : f i.toNatClampNeg = some j) (kk : WP d M z k n (pc + 1) ls (.ref j :: st) h P) : WP d M z k n pc ls (.int i :: .ref a :: st) h P := by
  intro p l e R s m args below meth c D tc A H locs cells slots as ws L sv sb Q hC hI hX hL hS hc hs hr ht
  obtain ⟨_, _, rfl, e0, hS0⟩ := hS.c
  obtain ⟨_, _, rfl, ⟨a', ha, rfl⟩, hS1⟩ := hS0.c
  cases e0
  obtain ⟨g, h1, h2⟩ := hI.2.2.2.1.gar ha hh
  have hlt : i.toNatClampNeg < nn := Nat.not_le.mp fun q => hin (Or.inr q)
  obtain ⟨b, h3, h4⟩ : ∃ b, as[j]? = some b ∧ g i.toNatClampNeg = some b := by
    have := h2 _ hlt
    rw [hf] at this
    exact this
  refine W.aald (v := va_rf (g i.toNatClampNeg)) (ty := .array .int) hC.1 hC.2.1 (hI.2.2.2.2.1 a _ h1) ((hI.1.2 2 _ tys2).1 nn (fun j => va_rf (g j))) rfl (fun q => by cases q) (by show ¬ (i < 0 ∨ (arrV _ _ _).slots.size ≤ _); rw [arrV_size]; exact hin) (by show (arrV _ _ _).slots[_]? = _; rw [arrV_read _ _ hlt]) rfl rfl hd ?_
  rw [h4]
  exact kk hC hI hX hL ⟨⟨b, h3, rfl⟩, hS1⟩ hc hs hr ht
theorem w_alen {a : Nat} {x : vp_A} {v : Int32} (hd : decode (mdB M) pc = .ok (.arraylength, 1)) (hh : h[a]? = some (.inl x)) (hv : Int32.ofNat x.1 = v) (kk : WP d M z k n (pc + 1) ls (.int v :: st) h P) : WP d M z k n pc ls (.ref a :: st) h P := by
  intro p l e R s m args below meth c D tc A H locs cells slots as ws L sv sb Q hC hI hX hL hS hc hs hr ht
  obtain ⟨_, _, rfl, ⟨a', ha, rfl⟩, hS0⟩ := hS.c
  have K := kk hC hI hX hL (show SR as sb (.int v :: st) (.int v :: _) from ⟨rfl, hS0⟩) hc hs hr ht
  obtain ⟨nn, f | f | f | f | f⟩ := x
  · exact va_alen hC.1 hC.2.1 hI.1 hI.2.2.2.2.1 a 0 (hI.2.2.2.1.iar ha hh) tys0 hv hd K
  · exact va_alen hC.1 hC.2.1 hI.1 hI.2.2.2.2.1 a 1 (hI.2.2.2.1.lar ha hh) tys1 hv hd K
  · obtain ⟨_, _, _, _, h3⟩ := hI.2.2.2.1.2.2 a _ hh
    exact h3.elim
  · obtain ⟨_, _, _, _, h3⟩ := hI.2.2.2.1.2.2 a _ hh
    exact h3.elim
  · obtain ⟨g, h1, -⟩ := hI.2.2.2.1.gar ha hh
    exact va_alen hC.1 hC.2.1 hI.1 hI.2.2.2.2.1 a 2 h1 tys2 hv hd K
theorem w_sld {LL : Nat} {xs : Nat → Int32} {i : Int32} (hz : z = some (LL, xs)) (hd : decode (mdB M) pc = .ok (.iaload, 1)) (hin : vp_in i LL) (kk : WP d M z k n (pc + 1) ls (.int (xs i.toNatClampNeg) :: st) h P) : WP d M z k n pc ls (.int i :: vScr :: st) h P := by
  intro p l e R s m args below meth c D tc A H locs cells slots as ws L sv sb Q hC hI hX hL hS hc hs hr ht
  obtain ⟨_, _, rfl, e0, hS0⟩ := hS.c
  obtain ⟨_, _, rfl, e1, hS1⟩ := hS0.c
  cases e0
  have e2 := e1.2 rfl
  subst e2
  obtain ⟨x1, x2, x3⟩ := hX LL xs hz
  exact va_sld hC.1 hC.2.1 x1 x2 x3 hI.2.2.2.2.2.2 hin hd (kk hC hI hX hL ⟨rfl, hS1⟩ hc hs hr ht)
theorem w_slen {LL : Nat} {xs : Nat → Int32} (hz : z = some (LL, xs)) (hd : decode (mdB M) pc = .ok (.arraylength, 1)) (kk : WP d M z k n (pc + 1) ls (.int (Int32.ofNat LL) :: st) h P) : WP d M z k n pc ls (vScr :: st) h P := by
  intro p l e R s m args below meth c D tc A H locs cells slots as ws L sv sb Q hC hI hX hL hS hc hs hr ht
  obtain ⟨_, _, rfl, e1, hS1⟩ := hS.c
  have e2 := e1.2 rfl
  subst e2
  obtain ⟨x1, x2, x3⟩ := hX LL xs hz
  exact va_slen hC.1 hC.2.1 x1 x2 x3 hI.2.2.2.2.2.2 hd (kk hC hI hX hL ⟨rfl, hS1⟩ hc hs hr ht)
/-- an object's first values -/
def dv : FieldType → Value
  | .object _ => .null
  | .array _ => .null
  | .int => .int 0
  | .boolean => .int 0
  | _ => .float 0
def NewOk (own : String) (i ci : Nat) (fs : List Value) : Prop := ∃ q : vw_C, cls5[ci]? = some q ∧ Cond.classLink own i q.1 ∈ wsAll ∧ Cond.instantiable q.1 q.2.2 ∈ wsAll ∧ Cond.initialized q.1 ∈ wsAll ∧ fs.length = q.2.2 ∧ (∀ j, j < q.2.2 → (parseFieldDescriptor (q.2.1 j).2.2.1).map defaultValue = fs[j]?) ∧ (∀ v ∈ fs, v = .null ∨ v = .int 0)
theorem w_new {i ci N : Nat} {fs : List Value} (hd : decode (mdB M) pc = .ok (.new i, 3)) (hn : NewOk (mdY M).cls i ci fs) (hN : fs.length = N) (kk : WP d M z k n (pc + 3) ls (.ref h.length :: st) (h ++ [.inr (ci, fs)]) P) : WP d M z (k + 1) (n + N) pc ls st h P := by
  subst hN
  intro p l e R s m args below meth c D tc A H locs cells slots as ws L sv sb Q hC hI hX hL hS hc hs hr ht
  obtain ⟨q, hq, w1, w2, w3, h1, h2, h3⟩ := hn
  obtain ⟨ty0, hty0⟩ := cls5_ty ci q hq
  refine va_new hC.1 hC.2.1 hC.2.2.2.2.2.1 (cls5_in ci q hq) ty0 hty0 hC.2.2.2.2.1 (hC.2.2.2.2.2.1 _ w1) (hC.2.2.2.2.2.1 _ w2) (hC.2.2.2.2.2.1 _ w3) hI.1 hI.2.2.2.2.1 hI.2.2.2.2.2.1 hI.2.2.2.2.2.2 hI.2.2.1 hq (fs := fs) (fun j hj => ?_) (by omega) (by omega) hd (fun q9 H1 g1 g2 g3 => ?_)
  · have := h2 j hj
    rw [hty0 j hj] at this
    simp only [Option.map_some] at this
    unfold vp_V
    rw [List.getD_eq_getElem?_getD, ← this]
    rfl
  · have hg : Gr as (as ++ [q9]) := Gr.app _ _
    have hHR : HR (as ++ [q9]) tc (h ++ [.inr (ci, fs)]) (ws ++ [(q9, .inr (ci, fs))]) := hI.2.2.2.1.push ⟨fs, rfl, rfl, fun k v hk => ⟨v, hk, by
      rcases h3 v (List.mem_of_getElem? hk) with rfl | rfl <;> rfl⟩⟩
    refine kk (as := as ++ [q9]) hC ⟨hI.1, hI.2.1, hI.2.2.1, hHR, g1, g2, g3⟩ hX (hL.gr hg) ⟨⟨q9, ?_, rfl⟩, hS.gr hg⟩ (by omega) (by omega) (hr.gr hg) (ht.gr hg)
    rw [← hI.2.2.2.1.1, List.getElem?_append_right (Nat.le_refl _), Nat.sub_self]
    rfl
theorem w_newi {x : Int32} {N : Nat} (hd : decode (mdB M) pc = .ok (.newarray .int, 2)) (hx : x = nI N) (hN : N ≤ 1000) (kk : WP d M z k n (pc + 2) ls (.ref h.length :: st) (h ++ [.inl (N, .inl (fun _ => 0))]) P) : WP d M z (k + 1) (n + N) pc ls (.int x :: st) h P := by
  subst hx
  intro p l e R s m args below meth c D tc A H locs cells slots as ws L sv sb Q hC hI hX hL hS hc hs hr ht
  obtain ⟨_, _, rfl, e0, hS0⟩ := hS.c
  cases e0
  have hw : Cond.arrayClass .int ∈ wsAll := by decide +kernel
  have hN2 : N < 2 ^ 31 := by omega
  refine va_newa (atype := .int) (ty := .int) (a0 := (N, .inl (fun _ => 0))) hC.1 hC.2.1 (hC.2.2.2.2.2.1 _ hw) rfl hI.1 hI.2.2.2.2.1 hI.2.2.2.2.2.1 hI.2.2.2.2.2.2 hI.2.2.1 (fun _ => rfl) (nI_pos hN2) (nI_clamp hN2) (by have : componentBytes .int = 4 := rfl; rw [this]; omega) (by omega) (by omega) hd (fun q9 cA H1 gK g1 g2 g3 => ?_)
  have hcA : cA = tc.1 := by
    have e1 := (gK.2 3 (cA, .int) rfl).2
    have e2 := (hI.1.2 0 _ tys0).2
    exact Option.some.inj (e1.symm.trans e2)
  subst hcA
  have hg : Gr as (as ++ [q9]) := Gr.app _ _
  refine kk (as := as ++ [q9]) hC ⟨hI.1, hI.2.1, hI.2.2.1, hI.2.2.2.1.push rfl, g1, g2, g3⟩ hX (hL.gr hg) ⟨⟨q9, ?_, rfl⟩, hS0.gr hg⟩ (by omega) (by omega) (hr.gr hg) (ht.gr hg)
  rw [← hI.2.2.2.1.1, List.getElem?_append_right (Nat.le_refl _), Nat.sub_self]
  rfl
theorem w_newl {x : Int32} {N : Nat} (hd : decode (mdB M) pc = .ok (.newarray .long, 2)) (hx : x = nI N) (hN : N ≤ 1000) (kk : WP d M z k n (pc + 2) ls (.ref h.length :: st) (h ++ [.inl (N, .inr (.inl (fun _ => 0)))]) P) : WP d M z (k + 1) (n + N) pc ls (.int x :: st) h P := by
  subst hx
  intro p l e R s m args below meth c D tc A H locs cells slots as ws L sv sb Q hC hI hX hL hS hc hs hr ht
  obtain ⟨_, _, rfl, e0, hS0⟩ := hS.c
  cases e0
  have hw : Cond.arrayClass .long ∈ wsAll := by decide +kernel
  have hN2 : N < 2 ^ 31 := by omega
  refine va_newa (atype := .long) (ty := .long) (a0 := (N, .inr (.inl (fun _ => 0)))) hC.1 hC.2.1 (hC.2.2.2.2.2.1 _ hw) rfl hI.1 hI.2.2.2.2.1 hI.2.2.2.2.2.1 hI.2.2.2.2.2.2 hI.2.2.1 (fun _ => rfl) (nI_pos hN2) (nI_clamp hN2) (by have : componentBytes .long = 8 := rfl; rw [this]; omega) (by omega) (by omega) hd (fun q9 cA H1 gK g1 g2 g3 => ?_)
  have hcA : cA = tc.2.1 := by
    have e1 := (gK.2 3 (cA, .long) rfl).2
    have e2 := (hI.1.2 1 _ tys1).2
    exact Option.some.inj (e1.symm.trans e2)
  subst hcA
  have hg : Gr as (as ++ [q9]) := Gr.app _ _
  refine kk (as := as ++ [q9]) hC ⟨hI.1, hI.2.1, hI.2.2.1, hI.2.2.2.1.push rfl, g1, g2, g3⟩ hX (hL.gr hg) ⟨⟨q9, ?_, rfl⟩, hS0.gr hg⟩ (by omega) (by omega) (hr.gr hg) (ht.gr hg)
  rw [← hI.2.2.2.1.1, List.getElem?_append_right (Nat.le_refl _), Nat.sub_self]
  rfl
theorem w_objInit {i a : Nat} (hd : decode (mdB M) pc = .ok (.invokespecial i, 3)) (hw : Cond.methodLink (mdY M).cls i Lib.objectInit ∈ wsAll) (hd1 : 1 ≤ d) (hst : (st.map wide) = []) (kk : WP d M z k n (pc + 3) ls st h P) : WP d M z k n pc ls (.ref a :: st) h P := by
  intro p l e R s m args below meth c D tc A H locs cells slots as ws L sv sb Q hC hI hX hL hS hc hs hr ht
  obtain ⟨_, _, rfl, ⟨a', ha, rfl⟩, hS0⟩ := hS.c
  have e1 : st = [] := List.map_eq_nil_iff.mp hst
  subst e1
  have e2 := hS0.n
  subst e2
  have hw2 : Cond.instanceMethod Lib.objectInit ∈ wsAll := by decide +kernel
  have hw3 : Cond.code Lib.objectInit ⟨#[0xb1]⟩ 1 none ∈ wsAll := by decide +kernel
  have hf := hC.2.2.2.2.2.2.2.2.2.2.1
  have hl := hC.2.2.2.2.2.2.2.2.2.2.2
  exact W.objInit hC.1 hC.2.1 hC.2.2.2.2.1 (hC.2.2.2.2.2.1 _ hw) (hC.2.2.2.2.2.1 _ hw2) (hC.2.2.2.2.2.1 _ hw3) rfl (hL.2.1.trans hC.2.2.1.symm) rfl hd (by omega) (by show 2 * 0 + 0 + 12 ≤ _; omega) (kk hC hI hX hL (by trivial) hc hs hr ht)
end HEAP
