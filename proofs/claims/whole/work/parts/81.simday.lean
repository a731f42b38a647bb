/-! the two sides agree: the steps of a day -/
set_option maxRecDepth 4000
theorem Sim.s_ {D : Nat} {σ : WS} {μ : MS} {τ : ST} (h : Sim D σ μ τ) (i : Nat) (x : Int32) (h0 : i ≠ 0) (h1 : i ≠ 1) : Sim D (uS σ i x) μ (tS τ i x) := ⟨h.wb, h.n0, h.n1, h.n2, h.n4, h.ml, h.mt, h.mw, h.mf, h.mb, h.ks, h.ka, h.kb, h.bd, h.bb, h.sg, h.sb, h.dr, h.db, h.st, h.s0, h.od, h.ob, fun a ha => by
    show (if a = i then x else σ.2.2 a) = (if a = i then x else τ.2.2.2.2 a)
    by_cases e : a = i
    · rw [if_pos e, if_pos e]
    · rw [if_neg e, if_neg e]; exact h.sc a ha, by show Nn (if 0 = i then x else τ.2.2.2.2 0) 0 D; rw [if_neg (Ne.symm h0)]; exact h.dy, by show Nn (if 1 = i then x else τ.2.2.2.2 1) 0 _; rw [if_neg (Ne.symm h1)]; exact h.cl⟩
theorem Sim.sclay {D : Nat} {σ : WS} {μ : MS} {τ : ST} (h : Sim D σ μ τ) (x : Int32) (hx : Nn x 0 (200 + 5 * D)) : Sim D (uS σ 1 x) μ (tS τ 1 x) := ⟨h.wb, h.n0, h.n1, h.n2, h.n4, h.ml, h.mt, h.mw, h.mf, h.mb, h.ks, h.ka, h.kb, h.bd, h.bb, h.sg, h.sb, h.dr, h.db, h.st, h.s0, h.od, h.ob, fun a ha => by
    show (if a = 1 then x else σ.2.2 a) = (if a = 1 then x else τ.2.2.2.2 a)
    by_cases e : a = 1
    · rw [if_pos e, if_pos e]
    · rw [if_neg e, if_neg e]; exact h.sc a ha, h.dy, hx⟩
theorem Sim.sday {D : Nat} {σ : WS} {μ : MS} {τ : ST} (h : Sim D σ μ τ) (x : Int32) (hx : Nn x 0 (D + 1)) : Sim (D + 1) (uS σ 0 x) μ (tS τ 0 x) := ⟨h.wb, h.n0, h.n1, h.n2, h.n4, h.ml, h.mt, h.mw, h.mf, h.mb, h.ks, h.ka, h.kb, h.bd, h.bb, h.sg, h.sb, h.dr, h.db, h.st, h.s0, h.od, h.ob, fun a ha => by
    show (if a = 0 then x else σ.2.2 a) = (if a = 0 then x else τ.2.2.2.2 a)
    by_cases e : a = 0
    · rw [if_pos e, if_pos e]
    · rw [if_neg e, if_neg e]; exact h.sc a ha, hx, h.cl.wk (Nat.le_refl _) (by omega)⟩
theorem Sim.lay {D : Nat} {σ : WS} {μ : MS} {τ : ST} (h : Sim D σ μ τ) {m : Nat} (x : Int32) (hm : m < σ.2.1 0) (hb : σ.2.1 2 < 10) (hx : Nn x 0 24) : Sim D (kLay σ m x) μ (tC (tW τ (σ.2.1 2) (pF (τ.2.1 (σ.2.1 2)) (μ.1 1 m) x 6 (rFlaw τ m))) 0 (σ.2.1 2 + 1)) := by
  have hR := row4 (f := σ.1 2) (b := σ.2.1 2) (a0 := μ.1 1 m) (a1 := x) (a2 := 6) (a3 := rFlaw τ m)
  have hF : (kLay σ m x).1 2 = upd (upd (upd (upd (σ.1 2) (σ.2.1 2 * 4 + 0) (μ.1 1 m)) (σ.2.1 2 * 4 + 1) x) (σ.2.1 2 * 4 + 2) 6) (σ.2.1 2 * 4 + 3) (rFlaw τ m) := by
    rw [← (h.flaw hm).1, ← h.ml m hm]; rfl
  have hw := h.wb
  exact ⟨⟨hw.1, hw.2.1, show σ.2.1 2 + 1 ≤ 10 by omega, hw.2.2.2⟩, h.n0, h.n1, rfl, h.n4, h.ml, h.mt, h.mw, h.mf, h.mb, h.ks, h.ka, h.kb, fun k hk j hj => by
    have hk : k < σ.2.1 2 + 1 := hk
    show (kLay σ m x).1 2 (k * 4 + j) = (if k = σ.2.1 2 then pF (τ.2.1 (σ.2.1 2)) (μ.1 1 m) x 6 (rFlaw τ m) else τ.2.1 k) j
    rw [hF]
    by_cases e : k = σ.2.1 2
    · rw [if_pos e, e, hR.2 j hj]; exact (pF_at hj).symm
    · rw [if_neg e, hR.1 k j hj e]; exact h.bd k (by omega) j hj, fun k hk => by
    have hk : k < σ.2.1 2 + 1 := hk
    show WBd (if k = σ.2.1 2 then pF (τ.2.1 (σ.2.1 2)) (μ.1 1 m) x 6 (rFlaw τ m) else τ.2.1 k)
    by_cases e : k = σ.2.1 2
    · rw [if_pos e]; exact ⟨(h.mb m hm).1, hx, ⟨6, by omega, by omega, rfl⟩, (h.flaw hm).2⟩
    · rw [if_neg e]; exact h.bb k (by omega), fun k hk j hj => by
    show σ.1 3 (k * 4 + j) = (if 10 + k = σ.2.1 2 then _ else τ.2.1 (10 + k)) j
    rw [if_neg (by omega)]; exact h.sg k hk j hj, fun k hk => by
    show SBd (if 10 + k = σ.2.1 2 then _ else τ.2.1 (10 + k))
    rw [if_neg (by omega)]; exact h.sb k hk, h.dr, h.db, h.st, h.s0, h.od, h.ob, h.sc, h.dy, h.cl⟩
theorem Sim.wear {D : Nat} {σ : WS} {μ : MS} {τ : ST} (h : Sim D σ μ τ) {m : Nat} {x : Int32} (hm : m < σ.2.1 0) (hx : Nn x 0 100) : Sim D (uC σ 0 m 3 2 x) μ (tA τ 1 (upd (τ.1 1) m x)) := ⟨h.wb, h.n0, h.n1, h.n2, h.n4, fun a ha => by
    show upd (σ.1 0) (m * 3 + 2) x (a * 3 + 0) = _
    rw [pk_un (by omega)]; exact h.ml a ha, fun a ha => by
    show upd (σ.1 0) (m * 3 + 2) x (a * 3 + 1) = _
    rw [pk_un (by omega)]; exact h.mt a ha, fun a ha => by
    show upd (σ.1 0) (m * 3 + 2) x (a * 3 + 2) = upd (τ.1 1) m x a
    by_cases e : a = m
    · rw [e, pk_us, pk_us]
    · rw [pk_un (by omega), pk_un e]; exact h.mw a ha, fun a ha h6 => by
    show upd (τ.1 1) m x a = 0
    rw [pk_un (show a ≠ m by have : σ.2.1 0 ≤ a := ha; omega)]; exact h.mf a ha h6, fun a ha => by
    by_cases e : a = m
    · refine ⟨(h.mb a ha).1, ?_, ?_⟩
      · exact (h.mb a ha).2.1
      · show Nn (upd (τ.1 1) m x a) 0 100; rw [e, pk_us]; exact hx
    · refine ⟨(h.mb a ha).1, ?_, ?_⟩
      · exact (h.mb a ha).2.1
      · show Nn (upd (τ.1 1) m x a) 0 100; rw [pk_un e]; exact (h.mb a ha).2.2, h.ks, h.ka, h.kb, h.bd, h.bb, h.sg, h.sb, h.dr, h.db, h.st, h.s0, h.od, h.ob, h.sc, h.dy, h.cl⟩
theorem Sim.tight {D : Nat} {σ : WS} {μ : MS} {τ : ST} (h : Sim D σ μ τ) {m : Nat} {x : Int32} (hm : m < σ.2.1 0) (hx : Nn x 0 9) : Sim D (uC σ 0 m 3 1 x) μ (tA τ 0 (upd (τ.1 0) m x)) := ⟨h.wb, h.n0, h.n1, h.n2, h.n4, fun a ha => by
    show upd (σ.1 0) (m * 3 + 1) x (a * 3 + 0) = _
    rw [pk_un (by omega)]; exact h.ml a ha, fun a ha => by
    show upd (σ.1 0) (m * 3 + 1) x (a * 3 + 1) = upd (τ.1 0) m x a
    by_cases e : a = m
    · rw [e, pk_us, pk_us]
    · rw [pk_un (by omega), pk_un e]; exact h.mt a ha, fun a ha => by
    show upd (σ.1 0) (m * 3 + 1) x (a * 3 + 2) = _
    rw [pk_un (by omega)]; exact h.mw a ha, h.mf, fun a ha => by
    by_cases e : a = m
    · refine ⟨(h.mb a ha).1, ?_, ?_⟩
      · show Nn (upd (τ.1 0) m x a) 0 9; rw [e, pk_us]; exact hx
      · exact (h.mb a ha).2.2
    · refine ⟨(h.mb a ha).1, ?_, ?_⟩
      · show Nn (upd (τ.1 0) m x a) 0 9; rw [pk_un e]; exact (h.mb a ha).2.1
      · exact (h.mb a ha).2.2, h.ks, h.ka, h.kb, h.bd, h.bb, h.sg, h.sb, h.dr, h.db, h.st, h.s0, h.od, h.ob, h.sc, h.dy, h.cl⟩
theorem Sim.made {D : Nat} {σ : WS} {μ : MS} {τ : ST} (h : Sim D σ μ τ) (hD : D ≤ 100000) {k m : Nat} (hk : k < σ.2.1 1) (hm : m < σ.2.1 0) (hb : σ.2.1 2 < 10) : Sim D (kMade σ m (rPipesM μ τ k m)) μ (rMade μ τ m (rPipesM μ τ k m)) := by
  obtain ⟨x, q, c, q1, q2, eq, ec, hc, x9, xq, ex⟩ := rPipesM_n h hD hk hm
  rw [ex]
  have hcl : σ.2.2 1 = τ.2.2.2.2 1 := h.sc 1 (by omega)
  have hmd : σ.2.2 4 = τ.2.2.2.2 4 := h.sc 4 (by omega)
  have h1 := (h.sclay (τ.2.2.2.2 1 - nI x * rClay μ m) ⟨c - x * q, by omega, by omega, by rw [ec, eq, pk_mul, pk_sub xq]⟩).s_ 4 (τ.2.2.2.2 4 + nI x) (by omega) (by omega)
  have h2 := h1.lay (m := m) (nI x) hm hb ⟨x, by omega, by omega, rfl⟩
  obtain ⟨-, ⟨t, t1, t2, et⟩, ⟨w, w1, w2, ew⟩⟩ := h.mb m hm
  obtain ⟨eT, bT⟩ := kThen_n (w := w) (x := x) w2 x9
  rw [← ew] at eT
  have h3 := h2.wear (m := m) (x := kThen (τ.1 1 m) ((nI x + 3) / 4)) hm ⟨_, by omega, bT, eT⟩
  have e0 : kMade σ m (nI x) = kWear (kLay (uS (uS σ 1 (τ.2.2.2.2 1 - nI x * rClay μ m)) 4 (τ.2.2.2.2 4 + nI x)) m (nI x)) m ((nI x + 3) / 4) := by
    unfold kMade
    rw [kOne_eq h hm, hcl, hmd]
  have ew0 : (kLay (uS (uS σ 1 (τ.2.2.2.2 1 - nI x * rClay μ m)) 4 (τ.2.2.2.2 4 + nI x)) m (nI x)).1 0 (m * 3 + 2) = τ.1 1 m := h.mw m hm
  have en2 : τ.2.2.2.1 0 = σ.2.1 2 := h.n2
  rw [e0]
  unfold kWear rMade
  rw [ew0]
  have e3 : rMade3 μ τ m (nI x) = tC (tW (tS (tS τ 1 (τ.2.2.2.2 1 - nI x * rClay μ m)) 4 (τ.2.2.2.2 4 + nI x)) (σ.2.1 2) (pF (τ.2.1 (σ.2.1 2)) (μ.1 1 m) (nI x) 6 (rFlaw τ m))) 0 (σ.2.1 2 + 1) := by unfold rMade3; rw [en2]
  rw [e3]
  by_cases q0 : kThen (τ.1 1 m) ((nI x + 3) / 4) / 10 ≤ τ.1 1 m / 10
  · rw [if_pos q0, if_pos q0]
    exact h3
  · rw [if_neg q0, if_neg q0]
    have et0 : (uC (kLay (uS (uS σ 1 (τ.2.2.2.2 1 - nI x * rClay μ m)) 4 (τ.2.2.2.2 4 + nI x)) m (nI x)) 0 m 3 2 (kThen (τ.1 1 m) ((nI x + 3) / 4))).1 0 (m * 3 + 1) = τ.1 0 m := h3.mt m hm
    rw [et0]
    refine h3.tight (m := m) (x := if 0 < τ.1 0 m - 1 then τ.1 0 m - 1 else 0) hm ?_
    rw [et, show (1 : Int32) = nI 1 from rfl, mx_nI (by omega) (by omega)]
    exact ⟨t - 1, by omega, by omega, rfl⟩
theorem rMade_W {μ : MS} {τ : ST} {m : Nat} {x : Int32} : (rMade μ τ m x).2.2.1 = τ.2.2.1 ∧ (rMade μ τ m x).2.2.2.2 8 = τ.2.2.2.2 8 ∧ (rMade μ τ m x).2.2.2.2 9 = τ.2.2.2.2 9 := by unfold rMade; split <;> exact ⟨rfl, rfl, rfl⟩
theorem kMade_W {σ : WS} {m : Nat} {x : Int32} : (kMade σ m x).2.1 4 = σ.2.1 4 ∧ (kMade σ m x).2.2 8 = σ.2.2 8 ∧ (kMade σ m x).2.2 9 = σ.2.2 9 := by unfold kMade kWear; split <;> exact ⟨rfl, rfl, rfl⟩
theorem Wat.of {r : Prop} {σ σ' : WS} {τ τ' : ST} (h : Wat r σ τ) (e1 : σ'.2.1 4 = σ.2.1 4) (e2 : σ'.2.2 8 = σ.2.2 8) (e3 : σ'.2.2 9 = σ.2.2 9) (e4 : τ'.2.2.1 = τ.2.2.1) (e5 : τ'.2.2.2.2 8 = τ.2.2.2.2 8) (e6 : τ'.2.2.2.2 9 = τ.2.2.2.2 9) : Wat r σ' τ' := by
  unfold Wat at h ⊢
  rw [e1, e2, e3, e4, e5, e6]
  exact h
theorem Sim.work {D : Nat} {σ : WS} {μ : MS} {τ : ST} {r : Prop} (h : Sim D σ μ τ) (hw : Wat r σ τ) (hD : D ≤ 100000) {k : Nat} (hk : k < σ.2.1 1) : Sim D (kWork σ k) μ (rMake μ τ k) ∧ Wat r (kWork σ k) (rMake μ τ k) := by
  have hwb := h.wb
  have hb := hwb.2.2.1
  have h0 := hwb.1
  unfold kWork rMake
  rw [kAt_eq h hk, h.n2]
  rcases (h.kb k hk).2 with e | ⟨m, hm, e⟩
  · rw [e, if_pos (show (((-1 : Int32) < 0 ∨ nI (σ.2.1 0) ≤ -1) ∨ 40 < (σ.2.1 2 + 1) * 4) from Or.inl (Or.inl (by decide))), if_pos (show ((-1 : Int32) = -1 ∨ nI (σ.2.1 2) = 10) from Or.inl rfl)]
    exact ⟨h, hw⟩
  · have c1 : ¬ (nI m < 0 ∨ nI (σ.2.1 0) ≤ nI m) := fun q => q.elim (nI_pos (by omega)) (nI_ge hm (by omega))
    have c2 : ¬ nI m = -1 := fun q => by
      have := nI_pos (n := m) (by omega)
      rw [q] at this
      exact this (by decide)
    have emc : (nI m).toNatClampNeg = m := nI_clamp (by omega)
    rw [e]
    by_cases hb10 : σ.2.1 2 = 10
    · rw [if_pos (show ((nI m < 0 ∨ nI (σ.2.1 0) ≤ nI m) ∨ 40 < (σ.2.1 2 + 1) * 4) from Or.inr (by omega)), if_pos (show (nI m = -1 ∨ nI (σ.2.1 2) = 10) from Or.inr (by rw [hb10]; rfl))]
      exact ⟨h, hw⟩
    · have c3 : ¬ nI (σ.2.1 2) = 10 := fun q => hb10 (by
        have := congrArg Int32.toNatClampNeg q
        rw [nI_clamp (by omega)] at this
        exact this)
      rw [if_neg (show ¬ ((nI m < 0 ∨ nI (σ.2.1 0) ≤ nI m) ∨ 40 < (σ.2.1 2 + 1) * 4) from fun q => q.elim c1 (fun q => by omega)), if_neg (show ¬ (nI m = -1 ∨ nI (σ.2.1 2) = 10) from fun q => q.elim c2 c3), emc, kPipes_eq h hk hm]
      obtain ⟨x, q, c, q1, q2, eq, ec, hc, x9, xq, ex⟩ := rPipesM_n h hD hk hm
      by_cases hx : x = 0
      · have e0 : rPipesM μ τ k m = 0 := by rw [ex, hx]; rfl
        rw [if_pos (show rPipesM μ τ k m < 1 by rw [e0]; decide), if_pos e0]
        exact ⟨h, hw⟩
      · have n1 : ¬ rPipesM μ τ k m < 1 := by rw [ex]; exact nI_nlt (a := x) (b := 1) (by omega) (by omega)
        have n2 : ¬ rPipesM μ τ k m = 0 := fun q => hx (by
          have := congrArg Int32.toNatClampNeg q
          rw [ex, nI_clamp (by omega)] at this
          exact this)
        rw [if_neg n1, if_neg n2]
        exact ⟨h.made hD hk hm (by omega), hw.of kMade_W.1 kMade_W.2.1 kMade_W.2.2 rMade_W.1 rMade_W.2.1 rMade_W.2.2⟩
theorem kWork_R1 {σ : WS} {k : Nat} : (kWork σ k).2.1 1 = σ.2.1 1 := kWork_R (by omega)
theorem Sim.works {D : Nat} {σ : WS} {μ : MS} {τ : ST} {r : Prop} (h : Sim D σ μ τ) (hw : Wat r σ τ) (hD : D ≤ 100000) : ∀ k, k ≤ σ.2.1 1 → Sim D (kWorks σ k) μ (rMakes μ τ k) ∧ Wat r (kWorks σ k) (rMakes μ τ k)
  | 0, _ => ⟨h, hw⟩
  | k + 1, hk => by
    obtain ⟨a, b⟩ := Sim.works h hw hD k (by omega)
    exact a.work b hD (by rw [kWorks_R (by omega)]; omega)
