/-! Math, System.arraycopy, new int[n][m] -/
section MORE
variable {d : Nat} {M : MD} {z : Option (Nat × (Nat → Int32))} {k n pc : Nat} {ls st : List Value} {h : AH} {P : AO → AH → Prop}
theorem w_min {i : Nat} {x y : Int32} (hd : decode (mdB M) pc = .ok (.invokestatic i, 3)) (hw : Cond.methodLink (mdY M).cls i Lib.Math.min.name ∈ wsAll) (hd1 : 1 ≤ d) (ho : okK st = true) (hcs : catsum st ≤ 20) (kk : WP d M z k n (pc + 3) ls (.int (if y < x then y else x) :: st) h P) : WP d M z k n pc ls (.int y :: .int x :: st) h P := by
  intro p l e R s m args below meth c D tc A H locs cells slots as ws L sv sb Q hC hI hX hL hS hc hs hr ht
  obtain ⟨_, _, rfl, e0, hS0⟩ := hS.c
  obtain ⟨_, rest, rfl, e1, hS1⟩ := hS0.c
  cases e0
  cases e1
  have hts := hC.2.2.2.2.2.1
  have hf := hC.2.2.2.2.2.2.2.2.2.2.1
  have hl := hC.2.2.2.2.2.2.2.2.2.2.2
  have w1 : Cond.static Lib.Math.min.name ∈ wsAll := by decide +kernel
  have w2 : Cond.initialized "java/lang/Math" ∈ wsAll := by decide +kernel
  have w3 : Cond.code Lib.Math.min.name Lib.Math.min.code 2 (some .int) ∈ wsAll := by decide +kernel
  exact va_mmin hC.1 hC.2.1 (hC.2.2.1.trans hL.2.1.symm) hC.2.2.2.2.1 (hts _ hw) (hts _ w1) (hts _ w2) (hts _ w3) (by omega) (by rw [hS1.cats ho]; omega) (by omega) (by omega) hd (kk hC hI hX hL ⟨rfl, hS1⟩ hc hs hr ht)
theorem w_max {i : Nat} {x y : Int32} (hd : decode (mdB M) pc = .ok (.invokestatic i, 3)) (hw : Cond.methodLink (mdY M).cls i Lib.Math.max.name ∈ wsAll) (hd1 : 1 ≤ d) (ho : okK st = true) (hcs : catsum st ≤ 20) (kk : WP d M z k n (pc + 3) ls (.int (if x < y then y else x) :: st) h P) : WP d M z k n pc ls (.int y :: .int x :: st) h P := by
  intro p l e R s m args below meth c D tc A H locs cells slots as ws L sv sb Q hC hI hX hL hS hc hs hr ht
  obtain ⟨_, _, rfl, e0, hS0⟩ := hS.c
  obtain ⟨_, rest, rfl, e1, hS1⟩ := hS0.c
  cases e0
  cases e1
  have hts := hC.2.2.2.2.2.1
  have hf := hC.2.2.2.2.2.2.2.2.2.2.1
  have hl := hC.2.2.2.2.2.2.2.2.2.2.2
  have w1 : Cond.static Lib.Math.max.name ∈ wsAll := by decide +kernel
  have w2 : Cond.initialized "java/lang/Math" ∈ wsAll := by decide +kernel
  have w3 : Cond.code Lib.Math.max.name Lib.Math.max.code 2 (some .int) ∈ wsAll := by decide +kernel
  exact va_mmax hC.1 hC.2.1 (hC.2.2.1.trans hL.2.1.symm) hC.2.2.2.2.1 (hts _ hw) (hts _ w1) (hts _ w2) (hts _ w3) (by omega) (by rw [hS1.cats ho]; omega) (by omega) (by omega) hd (kk hC hI hX hL ⟨rfl, hS1⟩ hc hs hr ht)
theorem w_abs {i : Nat} {x : Int32} (hd : decode (mdB M) pc = .ok (.invokestatic i, 3)) (hw : Cond.methodLink (mdY M).cls i Lib.Math.abs.name ∈ wsAll) (hd1 : 1 ≤ d) (ho : okK st = true) (hcs : catsum st ≤ 20) (kk : WP d M z k n (pc + 3) ls (.int (if 0 ≤ x then x else 0 - x) :: st) h P) : WP d M z k n pc ls (.int x :: st) h P := by
  intro p l e R s m args below meth c D tc A H locs cells slots as ws L sv sb Q hC hI hX hL hS hc hs hr ht
  obtain ⟨_, rest, rfl, e0, hS1⟩ := hS.c
  cases e0
  have hts := hC.2.2.2.2.2.1
  have hf := hC.2.2.2.2.2.2.2.2.2.2.1
  have hl := hC.2.2.2.2.2.2.2.2.2.2.2
  have w1 : Cond.static Lib.Math.abs.name ∈ wsAll := by decide +kernel
  have w2 : Cond.initialized "java/lang/Math" ∈ wsAll := by decide +kernel
  have w3 : Cond.code Lib.Math.abs.name Lib.Math.abs.code 1 (some .int) ∈ wsAll := by decide +kernel
  exact va_mabs hC.1 hC.2.1 (hC.2.2.1.trans hL.2.1.symm) hC.2.2.2.2.1 (hts _ hw) (hts _ w1) (hts _ w2) (hts _ w3) (by omega) (by rw [hS1.cats ho]; omega) (by omega) (by omega) hd (kk hC hI hX hL ⟨rfl, hS1⟩ hc hs hr ht)
theorem nfw : nativeFrameWords "java/lang/System" "arraycopy" 5 + 11 ≤ 35 := by decide +kernel
theorem w_copy {i a b nn mm sp dp cn : Nat} {f g : Nat → Int32} (hd : decode (mdB M) pc = .ok (.invokestatic i, 3)) (hw : Cond.methodLink (mdY M).cls i arraycopyName ∈ wsAll) (hd1 : 2 ≤ d) (ho : okK st = true) (hcs : catsum st ≤ 20)
    (ha : h[a]? = some (.inl (nn, .inl f))) (hb : h[b]? = some (.inl (mm, .inl g))) (h1 : sp + cn ≤ nn) (h2 : dp + cn ≤ mm) (hn : nn < 1000) (hm : mm < 1000) (kk : WP d M z k n (pc + 3) ls st (h.set b (.inl (mm, .inl (va_cpy f g sp dp cn)))) P) : WP d M z k n pc ls (.int (nI cn) :: .int (nI dp) :: .ref b :: .int (nI sp) :: .ref a :: st) h P := by
  intro p l e R s m args below meth c D tc A H locs cells slots as ws L sv sb Q hC hI hX hL hS hc hs hr ht
  obtain ⟨_, _, rfl, e0, hS0⟩ := hS.c
  obtain ⟨_, _, rfl, e1, hS1⟩ := hS0.c
  obtain ⟨_, _, rfl, ⟨b', hb', rfl⟩, hS2⟩ := hS1.c
  obtain ⟨_, _, rfl, e3, hS3⟩ := hS2.c
  obtain ⟨_, rest, rfl, ⟨a', ha', rfl⟩, hS4⟩ := hS3.c
  cases e0
  cases e1
  cases e3
  have hts := hC.2.2.2.2.2.1
  have hf := hC.2.2.2.2.2.2.2.2.2.2.1
  have hl := hC.2.2.2.2.2.2.2.2.2.2.2
  have w1 : Cond.static arraycopyName ∈ wsAll := by decide +kernel
  have w2 : Cond.initialized "java/lang/System" ∈ wsAll := by decide +kernel
  have w3 : Cond.native arraycopyName ∈ wsAll := by decide +kernel
  have c1 : (nI sp).toNatClampNeg = sp := nI_clamp (by omega)
  have c2 : (nI dp).toNatClampNeg = dp := nI_clamp (by omega)
  have c3 : (nI cn).toNatClampNeg = cn := nI_clamp (by omega)
  have hw9 := nfw
  refine va_copyi hC.1 hC.2.1 (hC.2.2.1.trans hL.2.1.symm) hC.2.2.2.2.1 (hts _ hw) (hts _ w3) (hts _ w1) (hts _ w2) hI.1 hI.2.2.2.2.1 hI.2.2.2.2.2.1 hI.2.2.2.2.2.2 a b 0 0 (hI.2.2.2.1.iar ha' ha) (hI.2.2.2.1.iar hb' hb) tys0 tys0 rfl (nI_pos (by omega)) (nI_pos (by omega)) (nI_pos (by omega)) (by rw [c1, c3]; exact h1) (by rw [c2, c3]; exact h2) (fun _ _ => rfl) (by omega) (by rw [hS4.cats ho]; omega) hd (fun H1 locs1 g1 g2 g3 => ?_)
  rw [c1, c2, c3] at g1 g2
  exact kk hC ⟨hI.1, hI.2.1, hI.2.2.1, hI.2.2.2.1.set hb' rfl, g1, g2, g3⟩ hX hL hS4 hc hs hr ht
theorem HR.grid {as : List Nat} {tc : TC} {h : AH} {ws : va_W} {q N K : Nat} {r : Nat → Nat} {f : Nat → va_E} (hr : HR as tc h ws) :
    HR (as ++ [q] ++ (List.range N).map r) tc (h ++ [.inl (N, .inr (.inr (.inr (.inr (fun j => if j < N then some (h.length + 1 + j) else none)))))] ++ List.replicate N (.inl (K, .inl (fun _ => 0))))
      ((ws ++ [(q, .inl (tc.2.2, N, .inr (.inr (.inr (.inr (fun i => if i < N then some (r i) else none))))))]) ++ va_pl ([] ++ (List.range N).map r) (vr_up f ((List.range N).map r) (.inl (tc.1, K, .inl (fun _ => 0))))) := by
  have hin : ∀ j, j < N → (as ++ [q] ++ (List.range N).map r)[h.length + 1 + j]? = some (r j) := fun j hj => by
    rw [List.getElem?_append_right (by simp [hr.1])]
    simp only [List.length_append, hr.1, List.length_cons, List.length_nil]
    rw [show h.length + 1 + j - (h.length + (0 + 1)) = j by omega, List.getElem?_map, List.getElem?_range hj]
    rfl
  refine ⟨by simp [hr.1], by simp [hr.2.1, va_pl], fun i c hi => ?_⟩
  by_cases h1 : i < h.length
  · rw [List.append_assoc, List.getElem?_append_left h1] at hi
    obtain ⟨a, e, g1, g2, g3⟩ := hr.2.2 i c hi
    refine ⟨a, e, ?_, ?_, CR.gr (Gr.tr (Gr.app _ _) (Gr.app _ _)) g3⟩
    · exact Gr.app _ _ _ _ (Gr.app _ _ _ _ g1)
    · rw [List.append_assoc, List.getElem?_append_left (by rw [hr.2.1]; exact h1)]; exact g2
  · by_cases h2 : i = h.length
    · subst h2
      rw [List.append_assoc, List.getElem?_append_right (Nat.le_refl _), Nat.sub_self] at hi
      cases hi
      refine ⟨q, _, ?_, ?_, (fun i => if i < N then some (r i) else none), rfl, fun j hj => ?_⟩
      · rw [List.append_assoc, ← hr.1, List.getElem?_append_right (Nat.le_refl _), Nat.sub_self]; rfl
      · rw [List.append_assoc, ← hr.2.1, List.getElem?_append_right (Nat.le_refl _), Nat.sub_self]; rfl
      · show RF _ (if j < N then some (h.length + 1 + j) else none) (if j < N then some (r j) else none)
        rw [if_pos hj, if_pos hj]
        exact ⟨r j, hin j hj, rfl⟩
    · have hlt := (List.getElem?_eq_some_iff.mp hi).1
      simp only [List.length_append, List.length_cons, List.length_nil, List.length_replicate] at hlt
      obtain ⟨j, rfl⟩ : ∃ j, i = h.length + 1 + j := ⟨i - (h.length + 1), by omega⟩
      have hj : j < N := by omega
      rw [List.getElem?_append_right (by simp)] at hi
      simp only [List.length_append, List.length_cons, List.length_nil] at hi
      rw [show h.length + 1 + j - (h.length + (0 + 1)) = j by omega, List.getElem?_replicate, if_pos hj] at hi
      cases hi
      refine ⟨r j, .inl (tc.1, K, .inl (fun _ => 0)), hin j hj, ?_, rfl⟩
      rw [List.getElem?_append_right (by simp [hr.2.1])]
      simp only [List.length_append, hr.2.1, List.length_cons, List.length_nil]
      rw [show h.length + 1 + j - (h.length + (0 + 1)) = j by omega]
      unfold va_pl
      rw [List.nil_append, List.getElem?_map, List.getElem?_map, List.getElem?_range hj]
      simp only [Option.map_some]
      rw [vr_up_in (List.mem_map.mpr ⟨j, List.mem_range.mpr hj, rfl⟩)]
theorem w_mna {i N K : Nat} (hd : decode (mdB M) pc = .ok (.multianewarray i 2, 4)) (hw : Cond.classLink (mdY M).cls i "[[I" ∈ wsAll) (hN : N ≤ 1000) (hK : K ≤ 1000)
    (kk : WP d M z k n (pc + 4) ls (.ref h.length :: st) (h ++ [.inl (N, .inr (.inr (.inr (.inr (fun j => if j < N then some (h.length + 1 + j) else none)))))] ++ List.replicate N (.inl (K, .inl (fun _ => 0)))) P) : WP d M z (k + (1 + N)) (n + (N + N * K)) pc ls (.int (nI K) :: .int (nI N) :: st) h P := by
  intro p l e R s m args below meth c D tc A H locs cells slots as ws L sv sb Q hC hI hX hL hS hc hs hr ht
  obtain ⟨_, _, rfl, e0, hS0⟩ := hS.c
  obtain ⟨_, rest, rfl, e1, hS1⟩ := hS0.c
  cases e0
  cases e1
  have hts := hC.2.2.2.2.2.1
  have w1 : Cond.arrayClass .int ∈ wsAll := by decide +kernel
  have hcy : s.vm.findClass (FieldType.array .int).toString = some tc.1 := (hI.1.2 0 _ tys0).2
  have cN : (nI N).toNatClampNeg = N := nI_clamp (by omega)
  have cK : (nI K).toNatClampNeg = K := nI_clamp (by omega)
  have hcb : componentBytes .int = 4 := rfl
  refine va_mna (X := ws) (L := []) (f := fun _ => .inl (tc.1, K, .inl (fun _ => 0))) (ty := .int) (N' := N) (K' := K) (z := (K, .inl (fun _ => 0))) hC.1 hC.2.1 hC.2.2.2.2.1 (hts _ hw) hI.2.1.2.2.2.2.2.2.1 (hts _ w1) hcy hI.1 (by show va_P _ _ (ws ++ []) _; rw [List.append_nil]; exact hI.2.2.2.2.1) (by show va_D _ (ws ++ []); rw [List.append_nil]; exact hI.2.2.2.2.2.1) hI.2.2.2.2.2.2 hI.2.2.1 (nI_pos (by omega)) (nI_pos (by omega)) cN cK (by omega) (by rw [hcb]; omega) (by omega) rfl rfl (by omega) (by omega) (fun c => ?_) hd (fun q r cA H1 hr1 hr2 gK g1 g2 g3 => ?_)
  · show ({ cls := c, slots := Array.replicate K (.int 0), vm := .none } : Cell) = _
    rw [arrV_new]
    rfl
  · have hcA : cA = tc.2.2 := by
      have e1 := (gK.2 3 (cA, .array .int) rfl).2
      have e2 := (hI.1.2 2 _ tys2).2
      exact Option.some.inj (e1.symm.trans e2)
    subst hcA
    have hg : Gr as (as ++ [q] ++ (List.range N).map r) := Gr.tr (Gr.app _ _) (Gr.app _ _)
    refine kk (as := as ++ [q] ++ (List.range N).map r) (cells := cells + 1 + N) (slots := slots + N + N * K) hC ⟨hI.1, hI.2.1, hI.2.2.1, hI.2.2.2.1.grid, g1, g2, g3⟩ hX (hL.gr hg) ⟨⟨q, ?_, rfl⟩, hS1.gr hg⟩ (by omega) (by omega) (hr.gr hg) (ht.gr hg)
    rw [← hI.2.2.2.1.1, List.append_assoc, List.getElem?_append_right (Nat.le_refl _), Nat.sub_self]
    rfl
end MORE
