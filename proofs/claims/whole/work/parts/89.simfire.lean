/-! the two sides agree: pack and fire -/
set_option maxRecDepth 4000
theorem kZr_f {σ : WS} {s : Nat} : (kZr σ s 4).2 = σ.2 ∧ (∀ t, t ≠ 3 → (kZr σ s 4).1 t = σ.1 t) ∧ (kZr σ s 4).1 3 = upd (upd (upd (upd (σ.1 3) (s * 4 + 0) 0) (s * 4 + 1) 0) (s * 4 + 2) 0) (s * 4 + 3) 0 := by
  refine ⟨rfl, fun t ht => ?_, rfl⟩
  show (if t = 3 then _ else if t = 3 then _ else if t = 3 then _ else if t = 3 then _ else σ.1 t) = σ.1 t
  rw [if_neg ht, if_neg ht, if_neg ht, if_neg ht]
theorem Sim.zero {D : Nat} {σ : WS} {μ : MS} {τ : ST} (h : Sim D σ μ τ) {s : Nat} (hs : s < 6) : Sim D (kZr σ s 4) μ (tW τ (10 + s) (pF (τ.2.1 (10 + s)) 0 0 0 0)) := by
  obtain ⟨a, b, c⟩ := kZr_f (σ := σ) (s := s)
  have hR := row4 (f := σ.1 3) (b := s) (a0 := 0) (a1 := 0) (a2 := 0) (a3 := 0)
  refine h.sag a b (fun k j hj hk => by rw [c]; exact hR.1 k j hj hk) (fun j hj => by rw [c, hR.2 j hj]; exact (pF_at hj).symm) ?_
  exact ⟨⟨0, by omega, by omega, rfl⟩, ⟨0, by omega, by omega, rfl⟩, ⟨0, by omega, by omega, rfl⟩, ⟨0, by omega, by omega, rfl⟩, Or.inl rfl⟩
theorem kCp_f {σ : WS} {i s : Nat} {u : Int32} : (uC (kCp σ i s 4) 3 s 4 1 u).2 = σ.2 ∧ (∀ t, t ≠ 3 → (uC (kCp σ i s 4) 3 s 4 1 u).1 t = σ.1 t) ∧ (uC (kCp σ i s 4) 3 s 4 1 u).1 3 = upd (upd (upd (upd (upd (σ.1 3) (s * 4 + 0) (σ.1 2 (i * 4 + 0))) (s * 4 + 1) (σ.1 2 (i * 4 + 1))) (s * 4 + 2) (σ.1 2 (i * 4 + 2))) (s * 4 + 3) (σ.1 2 (i * 4 + 3))) (s * 4 + 1) u := by
  refine ⟨rfl, fun t ht => ?_, rfl⟩
  show (if t = 3 then _ else if t = 3 then _ else if t = 3 then _ else if t = 3 then _ else if t = 3 then _ else σ.1 t) = σ.1 t
  rw [if_neg ht, if_neg ht, if_neg ht, if_neg ht, if_neg ht]
theorem Sim.pack {D : Nat} {σ : WS} {μ : MS} {τ : ST} (h : Sim D σ μ τ) {i s : Nat} {u : Int32} (hi : i < σ.2.1 2) (hs : s < 6) (hu : Nn u 0 24) (hl : Nn (τ.2.1 i 1 - u) 0 24) : Sim D (kPack1 σ i s u) μ (bPack2 τ i s u) := by
  have h2 := h.wb.2.2.1
  obtain ⟨a, b, c⟩ := kCp_f (σ := σ) (i := i) (s := s) (u := u)
  have hR := row4 (f := σ.1 3) (b := s) (a0 := σ.1 2 (i * 4 + 0)) (a1 := σ.1 2 (i * 4 + 1)) (a2 := σ.1 2 (i * 4 + 2)) (a3 := σ.1 2 (i * 4 + 3))
  have hb := h.bd i hi
  obtain ⟨c0, c1, c2, c3⟩ := h.bb i hi
  have h1 : Sim D (uC (kCp σ i s 4) 3 s 4 1 u) μ (tW τ (10 + s) (pF (τ.2.1 (10 + s)) (τ.2.1 i 0) u (τ.2.1 i 2) (τ.2.1 i 3))) := by
    refine h.sag a b (fun k j hj hk => by rw [c, pk_un (by omega)]; exact hR.1 k j hj hk) (fun j hj => ?_) ?_
    · rw [c, pF_at hj]
      match j, hj with
      | 0, _ => rw [pk_un (by omega), hR.2 0 (by omega)]; exact hb 0 (by omega)
      | 1, _ => rw [pk_us]; rfl
      | 2, _ => rw [pk_un (by omega), hR.2 2 (by omega)]; exact hb 2 (by omega)
      | 3, _ => rw [pk_un (by omega), hR.2 3 (by omega)]; exact hb 3 (by omega)
    · exact ⟨c0.wk (by omega) (by omega), hu, c2, c3, Or.inr c0⟩
  have e1 : (tW τ (10 + s) (pF (τ.2.1 (10 + s)) (τ.2.1 i 0) u (τ.2.1 i 2) (τ.2.1 i 3))).2.1 i = τ.2.1 i := if_neg (by omega)
  have h3 := h1.brd (i := i) (x := τ.2.1 i 1 - u) hi hl
  rw [e1] at h3
  unfold kPack1 bPack2
  rw [hb 1 (by omega)]
  exact h3
theorem Sim.packs {D : Nat} {σ : WS} {μ : MS} {τ : ST} (h : Sim D σ μ τ) {i s : Nat} {u : Int32} (hi : i < σ.2.1 2) (hs : s < 6) (hu : Nn u 0 24) (hl : Nn (τ.2.1 i 1 - u) 0 24) : Sim D (kPack σ i s u) μ (if τ.2.1 i 1 - u = 0 then rTake (bPack2 τ i s u) i else bPack2 τ i s u) := by
  have h1 := h.pack hi hs hu hl
  unfold kPack
  rw [h.bd i hi 1 (by omega)]
  by_cases c : τ.2.1 i 1 - u = 0
  · rw [if_pos c, if_pos c]
    exact h1.rem2 hi
  · rw [if_neg c, if_neg c]
    exact h1
theorem Sim.unload {D : Nat} {σ : WS} {μ : MS} {τ : ST} (h : Sim D σ μ τ) {s : Nat} (hs : s < 6) (y : Int32) : kUnloadV σ s y = τ.2.1 (10 + s) 1 - rBreaks τ s y ∧ Sim D (kUnload σ s y) μ (tW (tA (tS τ 5 (τ.2.2.2.2 5 + rBreaks τ s y)) 2 (upd (τ.1 2) (τ.2.1 (10 + s) 0).toNatClampNeg (τ.1 2 (τ.2.1 (10 + s) 0).toNatClampNeg + (τ.2.1 (10 + s) 1 - rBreaks τ s y)))) (10 + s) (pF (τ.2.1 (10 + s)) 0 0 0 0)) := by
  have ev : kUnloadV σ s y = τ.2.1 (10 + s) 1 - rBreaks τ s y := by unfold kUnloadV; rw [h.sg s hs 1 (by omega), h.breaks hs]
  refine ⟨ev, ?_⟩
  obtain ⟨⟨l, l1, l2, el⟩, c1, c2, c3, c4⟩ := h.sb s hs
  have h5 : σ.2.2 5 = τ.2.2.2.2 5 := h.sc 5 (by omega)
  have h6 : σ.1 6 l = τ.1 2 l := h.st l (by omega)
  have h0 := h.s_ 5 (τ.2.2.2.2 5 + rBreaks τ s y) (by omega) (by omega)
  have hx : 4 ≤ l ∨ τ.1 2 l + (τ.2.1 (10 + s) 1 - rBreaks τ s y) = 0 := by
    rcases c4 with c | ⟨l', a1, a2, a3⟩
    · rcases Nat.lt_or_ge l 4 with d | d
      · refine Or.inr ?_
        have eb : rBreaks τ s y = 0 := by
          unfold rBreaks
          rw [c, Int32.zero_mul]
          decide
        rw [h.s0 l d, c, eb]
        decide
      · exact Or.inl d
    · rw [el] at a3
      have := nI_inj (by omega) (by omega) a3
      exact Or.inl (by omega)
  have h7 := h0.store2 (l := l) (x := τ.1 2 l + (τ.2.1 (10 + s) 1 - rBreaks τ s y)) hx
  have h8 := h7.zero (s := s) hs
  have e0 : kUnload σ s y = kZr (uA (uS σ 5 (τ.2.2.2.2 5 + rBreaks τ s y)) 6 (upd (σ.1 6) l (τ.1 2 l + (τ.2.1 (10 + s) 1 - rBreaks τ s y)))) s 4 := by
    unfold kUnload
    rw [ev, h.breaks hs, h5, h.sg s hs 0 (by omega), el, kAddWhole_n (by omega)]
    show kZr (uA _ 6 (upd (σ.1 6) l (σ.1 6 l + _))) s 4 = _
    rw [h6]
  rw [e0, el, nI_clamp (by omega)]
  exact h8
theorem Sim.fires {D : Nat} {σ : WS} {μ : MS} {τ : ST} (h : Sim D σ μ τ) (y : Int32) : ∀ n, n ≤ 6 → (kFr σ y n).1 = (rFr τ y n).1 ∧ Sim D (kFr σ y n).2 μ (rFr τ y n).2
  | 0, _ => ⟨rfl, h⟩
  | n + 1, hn => by
    obtain ⟨a, b⟩ := Sim.fires h y n (by omega)
    obtain ⟨c, d⟩ := b.unload (s := n) (by omega) y
    refine ⟨?_, d⟩
    show (kFr σ y n).1 + kUnloadV (kFr σ y n).2 n y = (rFr τ y n).1 + _
    rw [a, c]
