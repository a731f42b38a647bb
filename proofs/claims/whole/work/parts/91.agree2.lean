/-! the two sides agree: the other calls -/
set_option maxRecDepth 4000
section AG2
variable {D : Nat} {σ : WS} {μ : MS} {τ : ST}
theorem rFr_tS {x y : Int32} : ∀ n, (rFr (tS τ 2 x) y n).1 = (rFr τ y n).1 ∧ (rFr (tS τ 2 x) y n).2 = tS (rFr τ y n).2 2 x
  | 0 => ⟨rfl, rfl⟩
  | n + 1 => by
    obtain ⟨a, b⟩ := rFr_tS (x := x) (y := y) n
    refine ⟨?_, ?_⟩
    · show (rFr (tS τ 2 x) y n).1 + ((rFr (tS τ 2 x) y n).2.2.1 (10 + n) 1 - rBreaks (rFr (tS τ 2 x) y n).2 n y) = _
      rw [a, b]; rfl
    · show tW (tA (tS (rFr (tS τ 2 x) y n).2 5 _) 2 _) (10 + n) _ = _
      rw [b]
      refine Prod.ext rfl (Prod.ext rfl (Prod.ext rfl (Prod.ext rfl (funext fun a => ?_))))
      show (if a = 5 then (rFr τ y n).2.2.2.2.2 5 + rBreaks (rFr τ y n).2 n y else if a = 2 then x else (rFr τ y n).2.2.2.2.2 a) = if a = 2 then x else if a = 5 then (rFr τ y n).2.2.2.2.2 5 + rBreaks (rFr τ y n).2 n y else (rFr τ y n).2.2.2.2.2 a
      by_cases c : a = 5
      · rw [if_pos c, if_neg (by omega), if_pos c]
      · rw [if_neg c, if_neg c]
theorem rFr_2 {y : Int32} : ∀ n, (rFr τ y n).2.2.2.2.2 2 = τ.2.2.2.2 2
  | 0 => rfl
  | n + 1 => rFr_2 (y := y) n
theorem rFr_W {y : Int32} : ∀ n, (rFr τ y n).2.2.2.1 = τ.2.2.1 ∧ (rFr τ y n).2.2.2.2.2 8 = τ.2.2.2.2 8 ∧ (rFr τ y n).2.2.2.2.2 9 = τ.2.2.2.2 9
  | 0 => ⟨rfl, rfl, rfl⟩
  | n + 1 => rFr_W (y := y) n
theorem kFr_W {y : Int32} : ∀ n, (kFr σ y n).2.2.1 4 = σ.2.1 4 ∧ (kFr σ y n).2.2.2 8 = σ.2.2 8 ∧ (kFr σ y n).2.2.2 9 = σ.2.2 9
  | 0 => ⟨rfl, rfl, rfl⟩
  | n + 1 => by
    obtain ⟨a, b, c⟩ := kFr_W (y := y) n
    have e : (kUnload (kFr σ y n).2 n y).2 = (kAddWhole (uS (kFr σ y n).2 5 ((kFr σ y n).2.2.2 5 + kStems (kFr σ y n).2 n y)) ((kFr σ y n).2.1 3 (n * 4 + 0)) (kUnloadV (kFr σ y n).2 n y)).2 := rfl
    show (kUnload (kFr σ y n).2 n y).2.1 4 = _ ∧ (kUnload (kFr σ y n).2 n y).2.2 8 = _ ∧ (kUnload (kFr σ y n).2 n y).2.2 9 = _
    rw [e]
    unfold kAddWhole
    split
    · exact ⟨a, b, c⟩
    · exact ⟨a, b, c⟩
theorem fire_n (h : Sim D σ μ τ) (w : Mw σ τ) (y : Int32) (n : Nat) (hn : n ≤ 6) : (kFr σ y n).1 = (rFr (tS τ 2 (τ.2.2.2.2 2 - y)) y n).1 ∧ Sim D (uS (kFr σ y n).2 2 ((kFr σ y n).2.2.2 2 - y)) μ (rFr (tS τ 2 (τ.2.2.2.2 2 - y)) y n).2 ∧ Mw (uS (kFr σ y n).2 2 ((kFr σ y n).2.2.2 2 - y)) (rFr (tS τ 2 (τ.2.2.2.2 2 - y)) y n).2 := by
  obtain ⟨a, b⟩ := h.fires y n hn
  obtain ⟨e1, e2⟩ := rFr_tS (τ := τ) (x := τ.2.2.2.2 2 - y) (y := y) n
  have e3 : (kFr σ y n).2.2.2 2 = τ.2.2.2.2 2 := (b.sc 2 (by omega)).trans (rFr_2 n)
  obtain ⟨k1, k2, k3⟩ := kFr_W (σ := σ) (y := y) n
  obtain ⟨r1, r2, r3⟩ := rFr_W (τ := τ) (y := y) n
  rw [e1, e2, e3]
  exact ⟨a, b.s_ 2 (τ.2.2.2.2 2 - y) (by omega) (by omega), w.of k1 k2 k3 r1 r2 r3⟩
theorem ag_fire (h : Sim D σ μ τ) (w : Mw σ τ) (x : Int32) : Agree (D + 40) σ (aFire σ x) (bFire (μ, τ) x) (cd3 IAE ISE) := by
  have hF := fire_n h w x 6 (Nat.le_refl _)
  unfold aFire bFire kFire
  dsimp only
  by_cases c1 : inB x 1 30 = 0
  · rw [if_pos c1, if_pos c1]; exact Agree.no h w (by decide) (by decide)
  have hc : σ.2.2 2 = τ.2.2.2.2 2 := h.sc 2 (by omega)
  rw [if_neg c1, if_neg c1, hc, h.saggars]
  generalize kFr σ x 6 = A at hF ⊢
  generalize rFr (tS τ 2 (τ.2.2.2.2 2 - x)) x 6 = B at hF ⊢
  by_cases c2 : τ.2.2.2.2 2 < x
  · rw [if_pos c2, if_pos c2]; exact Agree.no h w (by decide) (by decide)
  rw [if_neg c2, if_neg c2]
  by_cases c3 : rPipes τ 10 6 = 0
  · rw [if_pos c3, if_pos c3]; exact Agree.no h w (by decide) (by decide)
  rw [if_neg c3, if_neg c3]
  exact Agree.yes (hF.2.1.mono (by omega)) hF.2.2 hF.1.symm
theorem ag_refit (h : Sim D σ μ τ) (w : Mw σ τ) (x : Int32) : Agree (D + 40) σ (aRefit σ x) (bRefit (μ, τ) x) (cd3 IOE ISE) := by
  unfold aRefit bRefit
  dsimp only
  rw [h.n0]
  have h0 := h.wb.1
  by_cases c1 : hR (σ.2.1 0) x = 0
  · rw [if_pos c1, if_pos c1]; exact Agree.no h w (by decide) (by decide)
  rw [if_neg c1, if_neg c1]
  obtain ⟨m, hm, rfl⟩ := hR_of c1 (by omega)
  have hc : σ.2.2 3 = τ.2.2.2.2 3 := h.sc 3 (by omega)
  rw [nI_clamp (by omega), h.mt m hm, hc]
  by_cases c2 : τ.1 0 m = 9
  · rw [if_pos c2, if_pos c2]; exact Agree.no h w (by decide) (by decide)
  rw [if_neg c2, if_neg c2]
  by_cases c3 : τ.2.2.2.2 3 < 2
  · rw [if_pos c3, if_pos c3]; exact Agree.no h w (by decide) (by decide)
  rw [if_neg c3, if_neg c3]
  have h1 := (h.tight (m := m) (x := 9) hm ⟨9, by omega, by omega, rfl⟩).s_ 3 (τ.2.2.2.2 3 - 2) (by omega) (by omega)
  have e : kRefit σ m = uS (uC σ 0 m 3 1 9) 3 (τ.2.2.2.2 3 - 2) := by unfold kRefit; rw [hc]; rfl
  rw [e]
  exact Agree.yes (h1.mono (by omega)) (w.of rfl rfl rfl rfl rfl rfl) rfl
theorem ag_breaks (h : Sim D σ μ τ) (w : Mw σ τ) (x y : Int32) : Agree (D + 40) σ (aBreaks σ x y) (bBreaks (μ, τ) x y) (cd3 IOE IAE) := by
  unfold aBreaks bBreaks
  dsimp only
  have e : hR (σ.2.1 3) x = inB x 0 5 := by rw [show σ.2.1 3 = 6 from h.wb.2.2.2.1]; exact (inB_hR (n := 6) (by omega)).symm
  rw [e]
  by_cases c1 : inB x 0 5 = 0
  · rw [if_pos c1, if_pos c1]; exact Agree.no h w (by decide) (by decide)
  rw [if_neg c1, if_neg c1]
  by_cases c2 : inB y 1 30 = 0
  · rw [if_pos c2, if_pos c2]; exact Agree.no h w (by decide) (by decide)
  rw [if_neg c2, if_neg c2]
  obtain ⟨i, hi, rfl⟩ := inB_nat (n := 5) c1 (by omega)
  rw [nI_clamp (by omega)]
  exact Agree.yes (h.mono (by omega)) w (h.breaks (by omega) y).symm
end AG2
