/-! the two sides agree: ready -/
set_option maxRecDepth 4000
theorem least_of (P : Nat → Prop) : ∀ n, P n → ∃ N, N ≤ n ∧ P N ∧ ∀ j, j < N → ¬ P j := by
  intro n
  induction n using Nat.strongRecOn with
  | ind n ih =>
    intro h
    by_cases c : ∃ j, j < n ∧ P j
    · obtain ⟨j, hj, pj⟩ := c
      obtain ⟨N, a, b, c⟩ := ih j hj pj
      exact ⟨N, by omega, b, c⟩
    · exact ⟨n, Nat.le_refl _, h, fun j hj pj => c ⟨j, hj, pj⟩⟩
/-- every order has at most B days left, less j -/
def DB (j : Nat) (τ : ST) : Prop := ∀ k, k < τ.2.2.2.1 1 → ∃ d, d + j ≤ 30 ∧ τ.2.2.1 k 2 = nI d
theorem DB.sv {j : Nat} {τ : ST} (h : DB j τ) : ∀ k, k ≤ τ.2.2.2.1 1 → ∀ i, i < (rSv τ k).1 → ∃ d, d + (j + 1) ≤ 30 ∧ (rSv τ k).2.2.2.1 i 2 = nI d
  | 0, _ => fun i hi => absurd hi (Nat.not_lt_zero i)
  | k + 1, hk => by
    have ih := DB.sv h k (by omega)
    obtain ⟨r1, r2, r3⟩ := rSv_row (τ := τ) k
    obtain ⟨d, d1, d2⟩ := h k (by omega)
    have d3 : (rSv τ k).2.2.2.1 k 2 = nI d := by rw [r3 k (Nat.le_refl _)]; exact d2
    show ∀ i, i < (rSvS (rSv τ k) k).1 → ∃ d, d + (j + 1) ≤ 30 ∧ (rSvS (rSv τ k) k).2.2.2.1 i 2 = nI d
    generalize rSv τ k = q at ih r1 d3 ⊢
    obtain ⟨p, s⟩ := q
    intro i hi
    by_cases c1 : s.2.2.1 k 1 ≤ s.1 2 (s.2.2.1 k 0).toNatClampNeg
    · rw [rSvS_1 c1] at hi ⊢
      obtain ⟨e, e1, e2⟩ := ih i hi
      exact ⟨e, e1, (congrFun (congrFun rServed_O.1 i) 2).trans e2⟩
    · by_cases c2 : s.2.2.1 k 2 - 1 < 0
      · rw [rSvS_2 c1 c2] at hi ⊢
        have hi : i < p := hi
        have r1 : p ≤ k := r1
        obtain ⟨e, e1, e2⟩ := ih i hi
        refine ⟨e, e1, (congrFun (congrFun rLost_O.1 i) 2).trans ?_⟩
        show (if i = k then _ else s.2.2.1 i) 2 = nI e
        rw [if_neg (by omega)]
        exact e2
      · rw [rSvS_3 c1 c2] at hi ⊢
        have hi : i < p + 1 := hi
        have r1 : p ≤ k := r1
        by_cases e : i = p
        · have d3 : s.2.2.1 k 2 = nI d := d3
          have hd : 1 ≤ d := by
            rcases Nat.eq_zero_or_pos d with c | c
            · rw [d3, c] at c2
              exact absurd (by decide) c2
            · exact c
          refine ⟨d - 1, by omega, ?_⟩
          show (rCpy (rLess s k) p k 5).2.2.1 i 2 = _
          rw [e, (rCpy_at 5 2).2, if_pos (by omega)]
          show (if k = k then upd (s.2.2.1 k) 2 (s.2.2.1 k 2 - 1) else _) 2 = _
          rw [if_pos rfl, pk_us, d3]
          exact pk_sub (a := d) (b := 1) hd
        · obtain ⟨f, e1, e2⟩ := ih i (show i < p by omega)
          refine ⟨f, e1, ?_⟩
          show (rCpy (rLess s k) p k 5).2.2.1 i 2 = _
          rw [rCpy_ne e]
          show (if i = k then _ else s.2.2.1 i) 2 = _
          rw [if_neg (by omega)]
          exact e2
theorem DB.pass {j : Nat} {μ : MS} {τ : ST} (h : DB j τ) : DB (j + 1) (rPass μ τ) := by
  have e : (rPass2 μ τ).2.2 = (rMakes μ τ (μ.2 1)).2.2 := (rDr_O 16).2
  obtain ⟨o1, o2, o3⟩ := rMakes_O (μ := μ) (τ := τ) (μ.2 1)
  have h2 : DB j (rPass2 μ τ) := by
    unfold DB
    rw [e, o1, o2]
    exact h
  exact fun k hk => h2.sv _ (Nat.le_refl _) k hk
theorem DB.passN {μ : MS} {τ : ST} (h : DB 0 τ) : ∀ j, DB j (rPassN μ τ j)
  | 0 => h
  | j + 1 => (DB.passN h j).pass
theorem kTl_eq {σ : WS} {N : Nat} (hN : N ≤ 31) (hP : (kDays σ N).2.2 8 = -1) (hQ : ∀ j, j < N → ¬ (kDays σ j).2.2 8 = -1) : ∀ m j, j + m = N → kTl (32 - j) (kDays σ j) j = (N, kDays σ N)
  | 0, j, hj => by
    have : j = N := by omega
    subst this
    rw [show 32 - j = (31 - j) + 1 by omega]
    exact if_pos (Or.inl hP)
  | m + 1, j, hj => by
    rw [show 32 - j = (32 - (j + 1)) + 1 by omega]
    refine (if_neg (fun q => q.elim (hQ j (by omega)) (fun q => by omega))).trans ?_
    exact kTl_eq hN hP hQ m (j + 1) (by omega)
section AG6
variable {D : Nat} {σ : WS} {μ : MS} {τ : ST}
theorem ready_n {φ : WS} {α : ST} (h : Sim D σ μ τ) (hD : D ≤ 90000) {i : Nat} (hi : i < σ.2.1 4) : ∃ N, N ≤ 40 ∧ (∀ j, j < N → PassOk (rPassN μ (rAsk α τ (nI i)) j) ∧ (rPassN μ (rAsk α τ (nI i)) j).2.2.2.2 9 = 0) ∧ ¬ (rPassN μ (rAsk α τ (nI i)) N).2.2.2.2 9 = 0 ∧ kTillV (kCopy φ σ) i = (if (rPassN μ (rAsk α τ (nI i)) N).2.2.2.2 9 = 1 then nI N else -1) := by
  obtain ⟨a, b⟩ := h.copyR (φ := φ) (α := α) hi
  have hS : ∀ j, j ≤ 40 → Sim (D + j) (kDays (uS (kCopy φ σ) 8 (nI i)) j) μ (rPassN μ (rAsk α τ (nI i)) j) ∧ Wat True (kDays (uS (kCopy φ σ) 8 (nI i)) j) (rPassN μ (rAsk α τ (nI i)) j) := fun j hj => a.days b j (by omega)
  have hDB : DB 0 (rAsk α τ (nI i)) := fun k hk => by
    rw [a.n4] at hk
    obtain ⟨-, d, d1, d2, e⟩ := a.ob k hk
    exact ⟨d, by omega, e⟩
  have h31 : (kDays (uS (kCopy φ σ) 8 (nI i)) 31).2.2 8 = -1 := by
    obtain ⟨s, w⟩ := hS 31 (by omega)
    rcases w with ⟨p, p1, -⟩ | ⟨p1, -⟩
    · rw [← s.n4] at p1
      obtain ⟨d, d1, -⟩ := hDB.passN (μ := μ) 31 p p1
      omega
    · exact p1
  obtain ⟨N, n1, n2, n3⟩ := least_of (fun j => (kDays (uS (kCopy φ σ) 8 (nI i)) j).2.2 8 = -1) 31 h31
  have hT : kTill (kCopy φ σ) i = (N, kDays (uS (kCopy φ σ) 8 (nI i)) N) := kTl_eq n1 n2 n3 N 0 (Nat.zero_add _)
  refine ⟨N, by omega, fun j hj => ⟨(hS j (by omega)).1.passOk (by omega), ?_⟩, ?_⟩
  · obtain ⟨s, w⟩ := hS j (by omega)
    rcases w with ⟨p, p1, p2, p3, -⟩ | ⟨p1, -⟩
    · exact p3
    · exact absurd p1 (n3 j hj)
  · obtain ⟨s, w⟩ := hS N (by omega)
    have hw4 := s.wb.2.2.2.2
    rcases w with ⟨p, p1, p2, -⟩ | ⟨p1, p2, p3⟩
    · exact absurd (p2.symm.trans n2) (nI_m1 (by omega))
    · unfold kTillV
      rw [hT]
      dsimp only
      rcases p3 trivial with ⟨q1, q2⟩ | ⟨q1, q2⟩
      · rw [q1, q2, if_neg (show ¬ (1 : Int32) = 0 by decide), if_pos rfl]
        exact ⟨by decide, rfl⟩
      · rw [q1, q2, if_pos rfl, if_neg (show ¬ (2 : Int32) = 1 by decide)]
        exact ⟨by decide, rfl⟩
theorem ag_ready {φ : WS} {α : ST} (h : Sim D σ μ τ) (w : Mw σ τ) (hD : D ≤ 90000) (x : Int32) : ∃ N, (¬ hR (τ.2.2.2.1 1) x = 0 → (N ≤ 40 ∧ MakeOk μ ∧ (∀ j, j < N → PassOk (rPassN μ (rAsk α τ x) j) ∧ (rPassN μ (rAsk α τ x) j).2.2.2.2 9 = 0) ∧ ¬ (rPassN μ (rAsk α τ x) N).2.2.2.2 9 = 0)) ∧ Agree (D + 40) σ (aReady σ φ x) (bReady α N (μ, τ) x) (cd3 IOE IOE) := by
  have h4 := h.wb.2.2.2.2
  unfold aReady bReady
  dsimp only
  rw [h.n4]
  by_cases c1 : hR (σ.2.1 4) x = 0
  · refine ⟨0, fun q => absurd c1 q, ?_⟩
    rw [if_pos c1, if_pos c1]; exact Agree.no h w (by decide) (by decide)
  · obtain ⟨i, hi, rfl⟩ := hR_of c1 (by omega)
    obtain ⟨N, a, b, c, d⟩ := ready_n (φ := φ) (α := α) h hD hi
    refine ⟨N, fun _ => ⟨a, h.makeOk, b, c⟩, ?_⟩
    rw [if_neg c1, if_neg c1, nI_clamp (by omega), d]
    exact Agree.yes (h.mono (by omega)) w rfl
end AG6
