/-! the two sides agree: buy and pack -/
set_option maxRecDepth 4000
section AG5
variable {D : Nat} {σ : WS} {μ : MS} {τ : ST}
theorem Sim.buyc (h : Sim D σ μ τ) {x : Int32} (hx : Nn x 0 (200 + 5 * (D + 40))) : Sim (D + 40) (uS σ 1 x) μ (tS τ 1 x) := (h.mono (by omega)).sclay x hx
theorem tS_same (τ : ST) (i : Nat) : tS τ i (τ.2.2.2.2 i) = τ := by
  refine Prod.ext rfl (Prod.ext rfl (Prod.ext rfl (Prod.ext rfl (funext fun a => ?_))))
  show (if a = i then τ.2.2.2.2 i else τ.2.2.2.2 a) = _
  by_cases c : a = i
  · rw [if_pos c, c]
  · rw [if_neg c]
theorem ag_buy (h : Sim D σ μ τ) (w : Mw σ τ) (hD : D ≤ 90000) (x y : Int32) : Agree (D + 40) σ (aBuy σ x y) (bBuy (μ, τ) x y) (cd3 IOE IAE) := by
  unfold aBuy bBuy
  dsimp only
  by_cases c1 : inB x 0 1 = 0
  · rw [if_pos c1, if_pos c1]; exact Agree.no h w (by decide) (by decide)
  rw [if_neg c1, if_neg c1]
  by_cases c2 : inB y 1 200 = 0
  · rw [if_pos c2, if_pos c2]; exact Agree.no h w (by decide) (by decide)
  have hc : σ.2.2 3 = τ.2.2.2.2 3 := h.sc 3 (by omega)
  have hc1 : σ.2.2 1 = τ.2.2.2.2 1 := h.sc 1 (by omega)
  have hc2 : σ.2.2 2 = τ.2.2.2.2 2 := h.sc 2 (by omega)
  rw [if_neg c2, if_neg c2, hc]
  by_cases c3 : τ.2.2.2.2 3 < kPrice x y
  · rw [if_pos c3, if_pos c3]; exact Agree.no h w (by decide) (by decide)
  rw [if_neg c3, if_neg c3]
  obtain ⟨b, b1, b2, rfl⟩ := inB_n (a := 1) (b := 200) c2 (by omega) (by omega)
  obtain ⟨c, e1, e2, ec⟩ := h.cl
  have h1 := h.s_ 3 (τ.2.2.2.2 3 - kPrice x (nI b)) (by omega) (by omega)
  unfold kBuy bBuy2
  dsimp only
  rw [hc, hc1, hc2]
  by_cases q : x = 0
  · have q1 : ¬ x = 1 := fun e => by rw [q] at e; exact absurd e (by decide)
    rw [if_pos q, if_pos q, if_pos q, if_neg q1]
    have h2 := h1.buyc (x := τ.2.2.2.2 1 + nI b) ⟨c + b, by omega, by omega, by rw [ec, nI_add]⟩
    have e0 : tS (tS (tS τ 3 (τ.2.2.2.2 3 - kPrice x (nI b))) 1 (τ.2.2.2.2 1 + nI b)) 2 (τ.2.2.2.2 2 + 0) = tS (tS τ 3 (τ.2.2.2.2 3 - kPrice x (nI b))) 1 (τ.2.2.2.2 1 + nI b) := by
      rw [Int32.add_zero]
      exact tS_same (tS (tS τ 3 (τ.2.2.2.2 3 - kPrice x (nI b))) 1 (τ.2.2.2.2 1 + nI b)) 2
    rw [e0]
    exact Agree.yes h2 (w.of rfl rfl rfl rfl rfl rfl) rfl
  · have q1 : x = 1 := by
      obtain ⟨a, a1, rfl⟩ := inB_nat (n := 1) c1 (by omega)
      have : a ≠ 0 := fun e => q (by rw [e]; rfl)
      rw [show a = 1 by omega]; rfl
    rw [if_neg q, if_neg q, if_neg q, if_pos q1]
    have h2 := h1.s_ 2 (τ.2.2.2.2 2 + nI b) (by omega) (by omega)
    have e0 : tS (tS (tS τ 3 (τ.2.2.2.2 3 - kPrice x (nI b))) 1 (τ.2.2.2.2 1 + 0)) 2 (τ.2.2.2.2 2 + nI b) = tS (tS τ 3 (τ.2.2.2.2 3 - kPrice x (nI b))) 2 (τ.2.2.2.2 2 + nI b) := by
      rw [Int32.add_zero]
      exact congrArg (fun z => tS z 2 (τ.2.2.2.2 2 + nI b)) (tS_same (tS τ 3 (τ.2.2.2.2 3 - kPrice x (nI b))) 1)
    rw [e0]
    exact Agree.yes (h2.mono (by omega)) (w.of rfl rfl rfl rfl rfl rfl) rfl
theorem rTake_W {i : Nat} : (rTake τ i).2.2.1 = τ.2.2.1 ∧ (rTake τ i).2.2.2.2 = τ.2.2.2.2 := by
  unfold rTake
  rw [(rTk_O _).2]
  exact ⟨rfl, rfl⟩
theorem ag_pack (h : Sim D σ μ τ) (w : Mw σ τ) (x y u : Int32) : Agree (D + 40) σ (aPack σ x y u) (bPack (μ, τ) x y u) (cd3 IOE IAE) := by
  unfold aPack bPack
  dsimp only
  have h2 := h.wb.2.2.1
  rw [h.n2, show σ.2.1 3 = 6 from h.wb.2.2.2.1, hR2 (n := 5) (by omega), show nI 5 = 5 from rfl]
  by_cases c1 : hR (σ.2.1 2) x = 0
  · rw [if_pos c1, if_pos c1]; exact Agree.no h w (by decide) (by decide)
  rw [if_neg c1, if_neg c1]
  by_cases c2 : inB y 0 5 = 0
  · rw [if_pos c2, if_pos c2]; exact Agree.no h w (by decide) (by decide)
  rw [if_neg c2, if_neg c2]
  by_cases c3 : inB u 1 24 = 0
  · rw [if_pos c3, if_pos c3]; exact Agree.no h w (by decide) (by decide)
  rw [if_neg c3, if_neg c3]
  obtain ⟨i, hi, rfl⟩ := hR_of c1 (by omega)
  obtain ⟨s, hs, rfl⟩ := inB_nat (n := 5) c2 (by omega)
  rw [nI_clamp (show i < 2 ^ 31 by omega), nI_clamp (show s < 2 ^ 31 by omega), h.sg s (by omega) 1 (by omega), h.bd i hi 1 (by omega)]
  obtain ⟨-, ⟨m, m1, m2, em⟩, -⟩ := h.sb s (by omega)
  obtain ⟨-, ⟨v, v1, v2, ev⟩, -⟩ := h.bb i hi
  obtain ⟨b, b1, b2, eb⟩ := inB_n (a := 1) (b := 24) c3 (by omega) (by omega)
  by_cases c4 : τ.2.1 (10 + s) 1 = 0
  · rw [if_pos c4, if_neg (show ¬ 0 < τ.2.1 (10 + s) 1 by rw [c4]; decide)]
    by_cases c5 : τ.2.1 i 1 < u
    · rw [if_pos c5, if_pos c5]; exact Agree.no h w (by decide) (by decide)
    rw [if_neg c5, if_neg c5]
    have hbv : b ≤ v := by
      rw [ev, eb] at c5
      rcases Nat.lt_or_ge v b with d | d
      · exact absurd (nI_lt d (by omega)) c5
      · exact d
    have hp := h.packs (i := i) (s := s) (u := u) hi (by omega) ⟨b, by omega, by omega, eb⟩ ⟨v - b, by omega, by omega, by rw [ev, eb, pk_sub hbv]⟩
    refine Agree.yes (hp.mono (by omega)) ?_ rfl
    have k1 : (kPack σ i s u).2.1 4 = σ.2.1 4 := by unfold kPack; split <;> rfl
    have k2 : (kPack σ i s u).2.2 = σ.2.2 := by unfold kPack; split <;> rfl
    have r1 : (if τ.2.1 i 1 - u = 0 then rTake (bPack2 τ i s u) i else bPack2 τ i s u).2.2.1 = τ.2.2.1 := by
      split
      · exact rTake_W.1
      · rfl
    have r2 : (if τ.2.1 i 1 - u = 0 then rTake (bPack2 τ i s u) i else bPack2 τ i s u).2.2.2.2 = τ.2.2.2.2 := by
      split
      · exact rTake_W.2
      · rfl
    exact w.of k1 (by rw [k2]) (by rw [k2]) r1 (by rw [r2]) (by rw [r2])
  · rw [if_neg c4, if_pos (show 0 < τ.2.1 (10 + s) 1 by
      rw [em] at c4 ⊢
      have : m ≠ 0 := fun e => c4 (by rw [e]; rfl)
      exact nI_lt (a := 0) (by omega) (by omega))]
    exact Agree.no h w (by decide) (by decide)
end AG5
