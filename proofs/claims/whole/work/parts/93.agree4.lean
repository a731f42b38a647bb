/-! the two sides agree: order, place, buy, pack, foresee -/
set_option maxRecDepth 4000
section AG4
variable {D : Nat} {σ : WS} {μ : MS} {τ : ST}
theorem Mw.no {k : Nat} (w : Mw σ τ) (h4 : σ.2.1 4 ≤ 100) (hk : k < σ.2.1 4) : ¬ τ.2.2.1 k 4 = -1 := by
  obtain ⟨a, b, c⟩ := w
  rcases a with ⟨p, p1, p2, -⟩ | ⟨-, p2, -⟩
  · exact absurd (p2.symm.trans b) (nI_m1 (by omega))
  · rw [← c]; exact p2 k hk
theorem ag_order (h : Sim D σ μ τ) (w : Mw σ τ) (x y u o : Int32) : Agree (D + 40) σ (aOrder σ x y u o) (bOrder (μ, τ) x y u o) (cd3 IAE ISE) := by
  unfold aOrder bOrder
  dsimp only
  by_cases c1 : inB x 4 24 = 0
  · rw [if_pos c1, if_pos c1]; exact Agree.no h w (by decide) (by decide)
  rw [if_neg c1, if_neg c1]
  by_cases c2 : inB y 1 99 = 0
  · rw [if_pos c2, if_pos c2]; exact Agree.no h w (by decide) (by decide)
  rw [if_neg c2, if_neg c2]
  by_cases c3 : inB u 0 30 = 0
  · rw [if_pos c3, if_pos c3]; exact Agree.no h w (by decide) (by decide)
  rw [if_neg c3, if_neg c3]
  by_cases c4 : inB o 1 99 = 0
  · rw [if_pos c4, if_pos c4]; exact Agree.no h w (by decide) (by decide)
  rw [if_neg c4, if_neg c4, h.n4]
  have h4 := h.wb.2.2.2.2
  have hf := full_n (n := σ.2.1 4) (m := 8) h4 (by omega)
  by_cases c5 : σ.2.1 4 < 8
  · rw [if_pos c5, if_neg (show ¬ nI (σ.2.1 4) = 8 from hf.mpr c5)]
    refine Agree.yes ((h.addOrder c5 (inB_n (a := 4) (b := 24) c1 (by omega) (by omega)) (inB_n (a := 0) (b := 30) c3 (by omega) (by omega))).mono (by omega)) ⟨Or.inr ⟨w.2.1, fun k hk => ?_, False.elim⟩, w.2.1, w.2.2⟩ rfl
    have hk : k < σ.2.1 4 + 1 := hk
    show ¬ (if k = σ.2.1 4 then va_cpy (rOwn x y u o) (τ.2.2.1 (σ.2.1 4)) 0 0 5 else τ.2.2.1 k) 4 = τ.2.2.2.2 8
    rw [w.2.2]
    by_cases e : k = σ.2.1 4
    · rw [if_pos e, cp_at (by omega)]
      show ¬ (0 : Int32) = -1
      decide
    · rw [if_neg e]; exact w.no (by omega) (by omega)
  · rw [if_neg c5, if_pos (show nI (σ.2.1 4) = 8 from Classical.not_not.mp (fun q => c5 (hf.mp q)))]
    exact Agree.no h w (by decide) (by decide)
theorem ag_place (h : Sim D σ μ τ) (w : Mw σ τ) (x y : Int32) : Agree (D + 40) σ (aPlace σ x y) (bPlace (μ, τ) x y) (cd3 IOE ISE) := by
  unfold aPlace bPlace
  dsimp only
  rw [h.n0, h.n1]
  have h0 := h.wb.1
  have h1 := h.wb.2.1
  by_cases c1 : hR (σ.2.1 1) x = 0
  · rw [if_pos c1, if_pos c1]; exact Agree.no h w (by decide) (by decide)
  rw [if_neg c1, if_neg c1]
  obtain ⟨m, hm, rfl⟩ := hR_of c1 (by omega)
  rw [nI_clamp (by omega)]
  by_cases c2 : ¬ y = -1 ∧ hR (σ.2.1 0) y = 0
  · rw [if_pos c2, if_pos c2]; exact Agree.no h w (by decide) (by decide)
  rw [if_neg c2, if_neg c2]
  have hk : kAnother σ y (nI m) = 0 ↔ ¬ (¬ y = -1 ∧ ¬ rMaker μ y = -1 ∧ ¬ rMaker μ y = nI m) := by
    unfold kAnother
    rw [h.maker]
    by_cases e : y = -1
    · rw [if_pos e]; exact ⟨fun _ q => q.1 e, fun _ => rfl⟩
    · rw [if_neg e]
      by_cases e2 : rMaker μ y = -1 ∨ rMaker μ y = nI m
      · rw [if_pos e2]; exact ⟨fun _ q => e2.elim q.2.1 q.2.2, fun _ => rfl⟩
      · rw [if_neg e2]; exact ⟨fun q => absurd q (by decide), fun q => absurd ⟨e, fun a => e2 (Or.inl a), fun a => e2 (Or.inr a)⟩ q⟩
  by_cases c3 : kAnother σ y (nI m) = 0
  · rw [if_pos c3, if_neg (hk.mp c3)]
    have hy : y = -1 ∨ ∃ a, a < σ.2.1 0 ∧ y = nI a := by
      by_cases e : y = -1
      · exact Or.inl e
      · exact Or.inr (hR_of (fun q => c2 ⟨e, q⟩) (by omega))
    exact Agree.yes ((h.place hm hy).mono (by omega)) (w.of rfl rfl rfl rfl rfl rfl) (h.ka m hm).symm
  · rw [if_neg c3, if_pos (Classical.not_not.mp (fun q => c3 (hk.mpr q)))]
    exact Agree.no h w (by decide) (by decide)
theorem ag_foresee {φ : WS} {α : ST} (h : Sim D σ μ τ) (w : Mw σ τ) (hD : D ≤ 90000) (x y : Int32) : Agree (D + 40) σ (aForesee σ φ x y) (bForesee α (μ, τ) x y) (cd3 IAE IOE) := by
  unfold aForesee bForesee
  dsimp only
  by_cases c1 : inB x 1 40 = 0
  · rw [if_pos c1, if_pos c1]; exact Agree.no h w (by decide) (by decide)
  rw [if_neg c1, if_neg c1]
  by_cases c2 : inB y 0 11 = 0
  · rw [if_pos c2, if_pos c2]; exact Agree.no h w (by decide) (by decide)
  rw [if_neg c2, if_neg c2]
  obtain ⟨i, i1, i2, rfl⟩ := inB_n (a := 1) (b := 40) c1 (by omega) (by omega)
  obtain ⟨j, hj, rfl⟩ := inB_nat (n := 11) c2 (by omega)
  rw [nI_clamp (by omega), nI_clamp (by omega)]
  obtain ⟨a, b⟩ := h.copyF (φ := φ) (α := α)
  exact Agree.yes (h.mono (by omega)) w ((a.days b i (by omega)).1.count (by omega)).symm
theorem foreseeOk {α : ST} (h : Sim D σ μ τ) (hD : D ≤ 90000) : MakeOk μ ∧ ∀ i, i ≤ 40 → PassOk (rPassN μ (rBecome α τ) i) := by
  obtain ⟨a, b⟩ := h.copyF (φ := kZero) (α := α)
  exact ⟨h.makeOk, fun i hi => (a.days b i (by omega)).1.passOk (by omega)⟩
theorem passesOk (h : Sim D σ μ τ) (w : Mw σ τ) (hD : D ≤ 90000) : ∀ i, i < 40 → PassOk (rPassN μ τ i) := fun i hi => (h.days w.1 i (by omega)).1.passOk (by omega)
end AG4
