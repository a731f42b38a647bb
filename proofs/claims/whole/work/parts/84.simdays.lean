/-! the two sides agree: a day, and days -/
set_option maxRecDepth 4000
theorem Sim.looks {D : Nat} {σ : WS} {μ : MS} {τ : ST} {r : Prop} (h : Sim D σ μ τ) (hw : Wat r σ τ) : ∀ k, k ≤ σ.2.1 4 → (kLks σ k).1 = (rSv τ k).1 ∧ Sim D (kLks σ k).2 μ (vView (rSv τ k).2 k (rSv τ k).1 (σ.2.1 4 - k + (rSv τ k).1)) ∧ Wat r (kLks σ k).2 (vView (rSv τ k).2 k (rSv τ k).1 (σ.2.1 4 - k + (rSv τ k).1))
  | 0, _ => by
    have e3 : (vView τ 0 0 (σ.2.1 4 - 0 + 0)).2.2.2 = τ.2.2.2 := by
      refine Prod.ext (funext fun a => ?_) rfl
      show (if a = 1 then σ.2.1 4 - 0 + 0 else τ.2.2.2.1 a) = τ.2.2.2.1 a
      by_cases c : a = 1
      · rw [if_pos c, c, h.n4]; omega
      · rw [if_neg c]
    have e4 : ∀ i, (vView τ 0 0 (σ.2.1 4 - 0 + 0)).2.2.1 i = τ.2.2.1 i := fun i => by
      show τ.2.2.1 (if i < 0 then i else 0 + (i - 0)) = _
      rw [if_neg (Nat.not_lt_zero i), Nat.zero_add, Nat.sub_zero]
    exact ⟨rfl, h.cg rfl rfl e3 (fun i _ j _ => congrFun (e4 i) j), hw.cg e3 (fun i _ => congrFun (e4 i) 4)⟩
  | k + 1, hk => by
    obtain ⟨a, b, c⟩ := Sim.looks h hw k (by omega)
    have hr := (rSv_row (τ := τ) k).1
    have hL := Sim.look (n := σ.2.1 4) (k := k) (p := (rSv τ k).1) (s := (rSv τ k).2) hr (by omega) b c
    refine ⟨?_, ?_, ?_⟩
    · show (if (kLook (kLks σ k).2 (kLks σ k).1).1 = 0 then (kLks σ k).1 else (kLks σ k).1 + 1) = _
      rw [a]
      exact hL.1
    · show Sim D (kLook (kLks σ k).2 (kLks σ k).1).2 μ _
      rw [a]
      exact hL.2.1
    · show Wat r (kLook (kLks σ k).2 (kLks σ k).1).2 _
      rw [a]
      exact hL.2.2
theorem Sim.serve {D : Nat} {σ : WS} {μ : MS} {τ : ST} {r : Prop} (h : Sim D σ μ τ) (hw : Wat r σ τ) : Sim D (kLks σ (σ.2.1 4)).2 μ (rServe τ) ∧ Wat r (kLks σ (σ.2.1 4)).2 (rServe τ) := by
  obtain ⟨a, b, c⟩ := h.looks hw (σ.2.1 4) (Nat.le_refl _)
  have hcnt : (kLks σ (σ.2.1 4)).2.2.1 4 = (rSv τ (σ.2.1 4)).1 := by rw [← b.n4]; show σ.2.1 4 - σ.2.1 4 + _ = _; omega
  have e3 : (rServe τ).2.2.2 = (vView (rSv τ (σ.2.1 4)).2 (σ.2.1 4) (rSv τ (σ.2.1 4)).1 (σ.2.1 4 - σ.2.1 4 + (rSv τ (σ.2.1 4)).1)).2.2.2 := by
    unfold rServe
    rw [h.n4]
    refine Prod.ext (funext fun a => ?_) rfl
    show (if a = 1 then (rSv τ (σ.2.1 4)).1 else _) = (if a = 1 then σ.2.1 4 - σ.2.1 4 + (rSv τ (σ.2.1 4)).1 else _)
    rw [show σ.2.1 4 - σ.2.1 4 + (rSv τ (σ.2.1 4)).1 = (rSv τ (σ.2.1 4)).1 by omega]
  have e4 : ∀ i, i < (kLks σ (σ.2.1 4)).2.2.1 4 → (rServe τ).2.2.1 i = (vView (rSv τ (σ.2.1 4)).2 (σ.2.1 4) (rSv τ (σ.2.1 4)).1 (σ.2.1 4 - σ.2.1 4 + (rSv τ (σ.2.1 4)).1)).2.2.1 i := fun i hi => by
    unfold rServe
    rw [h.n4]
    show (rSv τ (σ.2.1 4)).2.2.2.1 i = (rSv τ (σ.2.1 4)).2.2.2.1 (if i < (rSv τ (σ.2.1 4)).1 then i else _)
    rw [if_pos (by omega)]
  have e1 : (rServe τ).1 = (rSv τ (σ.2.1 4)).2.1 := by unfold rServe; rw [h.n4]; rfl
  have e2 : (rServe τ).2.1 = (rSv τ (σ.2.1 4)).2.2.1 := by unfold rServe; rw [h.n4]; rfl
  exact ⟨b.cg e1 e2 e3 (fun i hi j _ => congrFun (e4 i hi) j), c.cg e3 (fun i hi => congrFun (e4 i hi) 4)⟩
theorem fm7 {n : Nat} (hn : n < 2 ^ 30) : fmSpec (nI n) 7 = nI (n % 7) := by
  unfold fmSpec
  have hx : ¬ nI n ^^^ (7 : Int32) < 0 := fun q => by
    rw [Int32.lt_iff_toInt_lt] at q
    have e1 : (nI n).toBitVec.msb = false := by
      rw [BitVec.msb_eq_toInt]
      have := nI_toInt (n := n) (by omega)
      have e : (nI n).toBitVec.toInt = (n : Int) := this
      rw [e]
      exact decide_eq_false (by omega)
    have e2 : (nI n ^^^ (7 : Int32)).toBitVec.msb = false := by
      show ((nI n).toBitVec ^^^ (7 : Int32).toBitVec).msb = false
      rw [BitVec.msb_xor, e1]
      decide
    rw [BitVec.msb_eq_toInt] at e2
    exact absurd q (of_decide_eq_false e2)
  rw [if_neg (fun q => hx q.1), show (7 : Int32) = nI 7 from rfl, pk_rem (by omega) (by omega) (by omega)]
theorem kDries_n {σ : WS} {i : Nat} (hi : i < 7) : kDries σ (nI i) = σ.1 5 i := by
  unfold kDries
  rw [if_neg (fun q => q.elim (nI_pos (by omega)) (fun q => nI_ge (a := i) (b := 7) hi (by omega) q)), nI_clamp (by omega)]
theorem rIx_n {τ : ST} {n : Nat} (hn : n < 2 ^ 30) (e : τ.2.2.2.2 0 = nI n) : rIx τ = nI (n % 7) := by
  unfold rIx
  rw [e, show (7 : Int32) = nI 7 from rfl, pk_rem (by omega) (by omega) (by omega)]
theorem Sim.by {D : Nat} {σ : WS} {μ : MS} {τ : ST} (h : Sim D σ μ τ) (hD : D ≤ 100000) : kDries σ (fmSpec (σ.2.2 0) 7) = rBy μ τ ∧ Nn (rBy μ τ) 0 3 := by
  obtain ⟨n, n1, n2, e⟩ := h.dy
  have h7 : n % 7 < 7 := Nat.mod_lt _ (by omega)
  unfold rBy
  rw [h.sc 0 (by omega), e, fm7 (by omega), kDries_n h7, rIx_n (by omega) e, nI_clamp (by omega), h.dr _ h7]
  exact ⟨rfl, h.db _ h7⟩
theorem Sim.passOk {D : Nat} {σ : WS} {μ : MS} {τ : ST} (h : Sim D σ μ τ) (hD : D ≤ 100000) : PassOk τ := by
  obtain ⟨n, n1, n2, e⟩ := h.dy
  refine ⟨⟨by rw [h.n2]; exact h.wb.2.2.1, by rw [h.n4]; exact h.wb.2.2.2.2⟩, ?_, fun k hk => ?_⟩
  · rw [rIx_n (by omega) e]
    exact vp_in_nI (Nat.mod_lt _ (by omega)) (by omega)
  · rw [h.n4] at hk
    obtain ⟨⟨l, l1, l2, el⟩, -⟩ := h.ob k hk
    rw [el]
    exact vp_in_nI (by omega) (by omega)
theorem Sim.makeOk {D : Nat} {σ : WS} {μ : MS} {τ : ST} (h : Sim D σ μ τ) : MakeOk μ := by
  refine ⟨by rw [h.n1]; exact h.wb.2.1, fun k hk => ?_⟩
  rw [h.n1] at hk
  rcases (h.kb k hk).2 with e | ⟨m, hm, e⟩
  · exact Or.inl e
  · refine Or.inr ⟨m, by have := h.wb.1; omega, e, ?_⟩
    obtain ⟨-, q, q1, q2, eq⟩ := h.clay hm
    rw [eq]
    intro c
    have := congrArg Int32.toNatClampNeg c
    rw [nI_clamp (by omega)] at this
    have e0 : (0 : Int32).toNatClampNeg = 0 := rfl
    omega
theorem Wat.dry {r : Prop} {σ : WS} {τ : ST} {y y' : Int32} (h : Wat r σ τ) : Wat r (kDry σ y) (rDr τ y' 16) := by
  have e := (rDr_O (τ := τ) (y := y') 16).2
  exact h.of rfl rfl rfl (by rw [e]) (by rw [e]) (by rw [e])
theorem Sim.day {D : Nat} {σ : WS} {μ : MS} {τ : ST} {r : Prop} (h : Sim D σ μ τ) (hw : Wat r σ τ) (hD : D ≤ 100000) : Sim (D + 1) (kDay σ) μ (rPass μ τ) ∧ Wat r (kDay σ) (rPass μ τ) := by
  obtain ⟨a1, b1⟩ := h.works hw hD (σ.2.1 1) (Nat.le_refl _)
  obtain ⟨ey, ny⟩ := a1.by hD
  have a2 := a1.dry ny
  have b2 := b1.dry (y := rBy μ (rMakes μ τ (σ.2.1 1))) (y' := rBy μ (rMakes μ τ (σ.2.1 1)))
  have e1 : kDay1 σ = kDry (kWorks σ (σ.2.1 1)) (rBy μ (rMakes μ τ (σ.2.1 1))) := by unfold kDay1; rw [ey]
  have e2 : rPass2 μ τ = rDr (rMakes μ τ (σ.2.1 1)) (rBy μ (rMakes μ τ (σ.2.1 1))) 16 := by unfold rPass2; rw [h.n1]
  rw [← e1, ← e2] at a2 b2
  obtain ⟨a3, b3⟩ := a2.serve b2
  have a3 : Sim D (kDay2 σ) μ (rServe (rPass2 μ τ)) := a3
  have b3 : Wat r (kDay2 σ) (rServe (rPass2 μ τ)) := b3
  have ed : (kDay2 σ).2.2 0 = (rServe (rPass2 μ τ)).2.2.2.2 0 := a3.sc 0 (by omega)
  have a4 : Sim (D + 1) (kDay σ) μ (rPass μ τ) := by
    unfold kDay rPass
    rw [ed]
    obtain ⟨n, n1, n2, e⟩ := a3.dy
    exact a3.sday _ ⟨n + 1, by omega, by omega, by rw [e]; exact nI_1 n⟩
  exact ⟨a4, b3⟩
theorem Sim.days {D : Nat} {σ : WS} {μ : MS} {τ : ST} {r : Prop} (h : Sim D σ μ τ) (hw : Wat r σ τ) : ∀ n, D + n ≤ 100000 → Sim (D + n) (kDays σ n) μ (rPassN μ τ n) ∧ Wat r (kDays σ n) (rPassN μ τ n)
  | 0, _ => ⟨h, hw⟩
  | n + 1, hn => by
    obtain ⟨a, b⟩ := Sim.days h hw n (by omega)
    exact a.day b (by omega)
