/-! the two sides agree: the calls, one by one -/
set_option maxRecDepth 4000
section AG
variable {D : Nat} {σ : WS} {μ : MS} {τ : ST}
theorem inB_n {x : Int32} {a b : Nat} (h : ¬ inB x (nI a) (nI b) = 0) (hb : b < 2 ^ 30) (ha : a ≤ b) : Nn x a b := by
  obtain ⟨h1, h2⟩ := inB_of h
  rw [Int32.le_iff_toInt_le, nI_toInt (by omega)] at h1
  rw [Int32.le_iff_toInt_le, nI_toInt (by omega)] at h2
  refine ⟨x.toInt.toNat, by omega, by omega, ?_⟩
  apply Int32.toInt_inj.mp
  rw [nI_toInt (by omega)]
  omega
theorem full_n {n m : Nat} (hn : n ≤ m) (hm : m < 1000) : (¬ nI n = nI m) ↔ n < m := by
  constructor
  · intro q
    rcases Nat.lt_or_ge n m with c | c
    · exact c
    · exact absurd (by rw [show n = m by omega]) q
  · intro c q
    have := nI_inj (by omega) (by omega) q
    omega
theorem ag_mould (h : Sim D σ μ τ) (w : Mw σ τ) (x y : Int32) : Agree (D + 40) σ (aMould σ x y) (bMould (μ, τ) x y) (cd3 IAE ISE) := by
  unfold aMould bMould
  dsimp only
  by_cases c1 : inB x 4 24 = 0
  · rw [if_pos c1, if_pos c1]; exact Agree.no h w (by decide) (by decide)
  rw [if_neg c1, if_neg c1]
  by_cases c2 : inB y 0 9 = 0
  · rw [if_pos c2, if_pos c2]; exact Agree.no h w (by decide) (by decide)
  rw [if_neg c2, if_neg c2, h.n0]
  have hf := full_n (n := σ.2.1 0) (m := 6) h.wb.1 (by omega)
  by_cases c3 : σ.2.1 0 < 6
  · rw [if_pos c3, if_neg (show ¬ nI (σ.2.1 0) = 6 from hf.mpr c3)]
    exact Agree.yes ((h.addMould c3 (inB_n (a := 4) (b := 24) c1 (by omega) (by omega)) (inB_n (a := 0) (b := 9) c2 (by omega) (by omega))).mono (by omega)) (w.of rfl rfl rfl rfl rfl rfl) rfl
  · rw [if_neg c3, if_pos (show nI (σ.2.1 0) = 6 from Classical.not_not.mp (fun q => c3 (hf.mp q)))]
    exact Agree.no h w (by decide) (by decide)
theorem ag_maker (h : Sim D σ μ τ) (w : Mw σ τ) (x : Int32) : Agree (D + 40) σ (aMaker σ x) (bMaker (μ, τ) x) (cd3 IAE ISE) := by
  unfold aMaker bMaker
  dsimp only
  by_cases c1 : inB x 1 9 = 0
  · rw [if_pos c1, if_pos c1]; exact Agree.no h w (by decide) (by decide)
  rw [if_neg c1, if_neg c1, h.n1]
  have hf := full_n (n := σ.2.1 1) (m := 5) h.wb.2.1 (by omega)
  by_cases c3 : σ.2.1 1 < 5
  · rw [if_pos c3, if_neg (show ¬ nI (σ.2.1 1) = 5 from hf.mpr c3)]
    exact Agree.yes ((h.addMaker c3 (inB_n (a := 1) (b := 9) c1 (by omega) (by omega))).mono (by omega)) (w.of rfl rfl rfl rfl rfl rfl) rfl
  · rw [if_neg c3, if_pos (show nI (σ.2.1 1) = 5 from Classical.not_not.mp (fun q => c3 (hf.mp q)))]
    exact Agree.no h w (by decide) (by decide)
theorem ag_setDry (h : Sim D σ μ τ) (w : Mw σ τ) (x y : Int32) : Agree (D + 40) σ (aSetDry σ x y) (bSetDry (μ, τ) x y) (cd3 IOE IAE) := by
  unfold aSetDry bSetDry
  dsimp only
  by_cases c1 : inB x 0 6 = 0
  · rw [if_pos c1, if_pos c1]; exact Agree.no h w (by decide) (by decide)
  rw [if_neg c1, if_neg c1]
  by_cases c2 : inB y 0 3 = 0
  · rw [if_pos c2, if_pos c2]; exact Agree.no h w (by decide) (by decide)
  rw [if_neg c2, if_neg c2]
  obtain ⟨m, hm, rfl⟩ := inB_nat (n := 6) c1 (by omega)
  rw [nI_clamp (by omega), kDries_n (by omega)]
  exact Agree.yes ((h.setDry (inB_n (a := 0) (b := 3) c2 (by omega) (by omega))).mono (by omega)) (w.of rfl rfl rfl rfl rfl rfl) (h.dr m (by omega)).symm
theorem ag_about (h : Sim D σ μ τ) (w : Mw σ τ) (x y : Int32) : Agree (D + 40) σ (aAbout σ x y) (bAbout (μ, τ) x y) (cd3 IOE IOE) := by
  unfold aAbout bAbout
  dsimp only
  rw [h.n0]
  have h0 := h.wb.1
  by_cases c1 : hR (σ.2.1 0) x = 0
  · rw [if_pos c1, if_pos c1]; exact Agree.no h w (by decide) (by decide)
  rw [if_neg c1, if_neg c1]
  by_cases c2 : inB y 0 5 = 0
  · rw [if_pos c2, if_pos c2]; exact Agree.no h w (by decide) (by decide)
  rw [if_neg c2, if_neg c2]
  obtain ⟨i, hi, rfl⟩ := hR_of c1 (by omega)
  obtain ⟨j, hj, rfl⟩ := inB_nat (n := 5) c2 (by omega)
  rw [nI_clamp (by omega), nI_clamp (by omega)]
  exact Agree.yes (h.mono (by omega)) w (h.about hi (by omega)).symm
theorem ag_store (h : Sim D σ μ τ) (w : Mw σ τ) (x : Int32) : Agree (D + 40) σ (aStore σ x) (bStore (μ, τ) x) (cd3 IOE IOE) := by
  unfold aStore bStore
  dsimp only
  by_cases c1 : inB x 4 24 = 0
  · rw [if_pos c1, if_pos c1]; exact Agree.no h w (by decide) (by decide)
  rw [if_neg c1, if_neg c1]
  obtain ⟨m, m1, m2, rfl⟩ := inB_n (a := 4) (b := 24) c1 (by omega) (by omega)
  rw [nI_clamp (by omega), kWholeOf_n (by omega)]
  exact Agree.yes (h.mono (by omega)) w (h.st m (by omega)).symm
theorem ag_count (h : Sim D σ μ τ) (w : Mw σ τ) (x : Int32) : Agree (D + 40) σ (aCount σ x) (bCount (μ, τ) x) (cd3 IOE IOE) := by
  unfold aCount bCount
  dsimp only
  by_cases c1 : inB x 0 11 = 0
  · rw [if_pos c1, if_pos c1]; exact Agree.no h w (by decide) (by decide)
  rw [if_neg c1, if_neg c1]
  obtain ⟨j, hj, rfl⟩ := inB_nat (n := 11) c1 (by omega)
  rw [nI_clamp (by omega)]
  exact Agree.yes (h.mono (by omega)) w (h.count (by omega)).symm
theorem ag_pass (h : Sim D σ μ τ) (w : Mw σ τ) (hD : D ≤ 90000) (x : Int32) : Agree (D + 40) σ (aPass σ x) (bPass (μ, τ) x) (cd3 IAE IAE) := by
  unfold aPass bPass
  dsimp only
  by_cases c1 : inB x 1 40 = 0
  · rw [if_pos c1, if_pos c1]; exact Agree.no h w (by decide) (by decide)
  rw [if_neg c1, if_neg c1]
  obtain ⟨j, j1, j2, rfl⟩ := inB_n (a := 1) (b := 40) c1 (by omega) (by omega)
  rw [nI_clamp (by omega)]
  obtain ⟨a, b⟩ := h.days w.1 j (by omega)
  refine Agree.yes (a.mono (by omega)) ⟨b, kDays_8 w.2.1 h.wb j, (rPassN_8 j).trans w.2.2⟩ ?_
  rw [a.sc 4 (by omega), h.sc 4 (by omega)]
end AG
