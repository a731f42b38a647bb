/-! the two sides agree: rows told, orders, bought -/
set_option maxRecDepth 4000
section AG3
variable {D : Nat} {σ : WS} {μ : MS} {τ : ST}
theorem hR2 {y : Int32} {n : Nat} (hn : n < 1000) : hR (n + 1) y = inB y 0 (nI n) := by
  rw [← inB_hR (n := n + 1) (by omega), show nI (n + 1) - 1 = nI n from pk_sub (a := n + 1) (b := 1) (by omega)]
theorem ag_cell (h : Sim D σ μ τ) (w : Mw σ τ) {f : Nat → Int32} {cols rows : Nat} {x y u : Int32} {t : Int32} {rr : RR} (hr : rows ≤ 100) (hc : cols + 1 ≤ 100) (e : rr = if hR rows x = 0 then (1, 0, (μ, τ)) else if inB y 0 (nI cols) = 0 then (1, 0, (μ, τ)) else (0, u, (μ, τ))) (hu : ∀ i j, i < rows → j < cols + 1 → x = nI i → y = nI j → u = f (i * (cols + 1) + j)) : Agree (D + 40) σ (aCellR f (cols + 1) rows x y σ) rr (cd3 IOE IOE) := by
  subst e
  unfold aCellR aCell
  rw [hR2 (by omega)]
  by_cases c1 : hR rows x = 0
  · rw [if_pos c1, if_pos c1]; exact Agree.no h w (by decide) (by decide)
  rw [if_neg c1, if_neg c1]
  by_cases c2 : inB y 0 (nI cols) = 0
  · rw [if_pos c2, if_pos c2]; exact Agree.no h w (by decide) (by decide)
  rw [if_neg c2, if_neg c2]
  obtain ⟨i, hi, ex⟩ := hR_of c1 (by omega)
  obtain ⟨j, hj, ey⟩ := inB_nat (n := cols) c2 (by omega)
  refine Agree.yes (h.mono (by omega)) w ?_
  rw [hu i j hi (by omega) ex ey, ex, ey, nI_clamp (by omega), nI_clamp (by omega)]
theorem ag_told (h : Sim D σ μ τ) (w : Mw σ τ) (x y : Int32) : Agree (D + 40) σ (aCellR (σ.1 1) 2 (σ.2.1 1) x y σ) (bTold (μ, τ) x y) (cd3 IOE IOE) := by
  have h1 := h.wb.2.1
  refine ag_cell h w (cols := 1) (rows := σ.2.1 1) (u := rMTold μ x.toNatClampNeg y) (t := 0) (by omega) (by omega) (by unfold bTold; dsimp only; rw [h.n1]; rfl) (fun i j hi hj ex ey => ?_)
  rw [ex, ey, nI_clamp (by omega)]
  match j, hj with
  | 0, _ => exact (h.ks i hi).symm
  | 1, _ => exact (h.ka i hi).symm
theorem ag_batch (h : Sim D σ μ τ) (w : Mw σ τ) (x y : Int32) : Agree (D + 40) σ (aCellR (σ.1 2) 4 (σ.2.1 2) x y σ) (bBatch (μ, τ) x y) (cd3 IOE IOE) := by
  have h1 := h.wb.2.2.1
  refine ag_cell h w (cols := 3) (rows := σ.2.1 2) (u := τ.2.1 x.toNatClampNeg y.toNatClampNeg) (t := 0) (by omega) (by omega) (by unfold bBatch; dsimp only; rw [h.n2]; rfl) (fun i j hi hj ex ey => ?_)
  rw [ex, ey, nI_clamp (by omega), nI_clamp (by omega)]
  exact (h.bd i hi j hj).symm
theorem ag_waits (h : Sim D σ μ τ) (w : Mw σ τ) (x y : Int32) : Agree (D + 40) σ (aCellR (σ.1 4) 4 (σ.2.1 4) x y σ) (bWaits (μ, τ) x y) (cd3 IOE IOE) := by
  have h1 := h.wb.2.2.2.2
  refine ag_cell h w (cols := 3) (rows := σ.2.1 4) (u := τ.2.2.1 x.toNatClampNeg y.toNatClampNeg) (t := 0) (by omega) (by omega) (by unfold bWaits; dsimp only; rw [h.n4]; rfl) (fun i j hi hj ex ey => ?_)
  rw [ex, ey, nI_clamp (by omega), nI_clamp (by omega)]
  exact (h.od i hi j hj).symm
theorem ag_saggar (h : Sim D σ μ τ) (w : Mw σ τ) (x y : Int32) : Agree (D + 40) σ (aCellR (σ.1 3) 4 (σ.2.1 3) x y σ) (bSaggar (μ, τ) x y) (cd3 IOE IOE) := by
  have h3 : σ.2.1 3 = 6 := h.wb.2.2.2.1
  rw [h3]
  refine ag_cell h w (cols := 3) (rows := 6) (u := τ.2.1 (10 + x.toNatClampNeg) y.toNatClampNeg) (t := 0) (by omega) (by omega) (by unfold bSaggar; dsimp only; rw [hR2 (n := 5) (by omega)]; rfl) (fun i j hi hj ex ey => ?_)
  rw [ex, ey, nI_clamp (by omega), nI_clamp (by omega)]
  exact (h.sg i hi j hj).symm
end AG3
