/-! the two sides agree: what is foreseen begins with a copy; the looks -/
set_option maxRecDepth 4000
theorem cp_at {f g : Nat → Int32} {N k : Nat} (hk : k < N) : va_cpy f g 0 0 N k = f k := by
  rw [pk_cpy_in (Nat.zero_le _) (by omega), Nat.zero_add, Nat.sub_zero]
theorem rBecW_O {s τ : ST} : ∀ n, (rBecW s τ n).1 = s.1 ∧ (rBecW s τ n).2.2 = s.2.2
  | 0 => ⟨rfl, rfl⟩
  | n + 1 => rBecW_O (s := s) (τ := τ) n
theorem rBecW_at {s τ : ST} {k j : Nat} (hj : j < 4) : ∀ n, k < n → (rBecW s τ n).2.1 k j = τ.2.1 k j
  | 0, hk => absurd hk (Nat.not_lt_zero k)
  | n + 1, hk => by
    show (if k = n then va_cpy (τ.2.1 n) ((rBecW s τ n).2.1 n) 0 0 4 else (rBecW s τ n).2.1 k) j = _
    by_cases e : k = n
    · rw [if_pos e, cp_at hj, e]
    · rw [if_neg e]; exact rBecW_at hj n (by omega)
theorem rBecO_O {s τ : ST} : ∀ n, (rBecO s τ n).1 = s.1 ∧ (rBecO s τ n).2.1 = s.2.1 ∧ (rBecO s τ n).2.2.2 = s.2.2.2
  | 0 => ⟨rfl, rfl, rfl⟩
  | n + 1 => rBecO_O (s := s) (τ := τ) n
theorem rBecO_at {s τ : ST} {k j : Nat} (hj : j < 5) : ∀ n, k < n → (rBecO s τ n).2.2.1 k j = if j = 4 then nI k else τ.2.2.1 k j
  | 0, hk => absurd hk (Nat.not_lt_zero k)
  | n + 1, hk => by
    show (if k = n then upd ((rBecO1 (rBecO s τ n) τ n).2.2.1 n) 4 (nI n) else (rBecO1 (rBecO s τ n) τ n).2.2.1 k) j = _
    by_cases e : k = n
    · rw [if_pos e]
      by_cases e2 : j = 4
      · rw [e2, pk_us, if_pos rfl, e]
      · rw [pk_un e2, if_neg e2]
        show (if n = n then va_cpy (τ.2.2.1 n) ((rBecO s τ n).2.2.1 n) 0 0 5 else _) j = _
        rw [if_pos rfl, cp_at hj, e]
    · rw [if_neg e]
      show (if k = n then _ else (rBecO s τ n).2.2.1 k) j = _
      rw [if_neg e]; exact rBecO_at hj n (by omega)
theorem rBecome_eq {α τ : ST} : ∃ W O, rBecome α τ = (fun a => if a = 2 then va_cpy (τ.1 2) (α.1 2) 0 0 25 else if a = 1 then va_cpy (τ.1 1) (α.1 1) 0 0 6 else if a = 0 then va_cpy (τ.1 0) (α.1 0) 0 0 6 else α.1 a, W, O, (rBec1 α τ).2.2.2.1, (rBec1 α τ).2.2.2.2) ∧ (∀ k, k < 16 → ∀ j, j < 4 → W k j = τ.2.1 k j) ∧ (∀ k, k < 8 → ∀ j, j < 5 → O k j = if j = 4 then nI k else τ.2.2.1 k j) := by
  refine ⟨(rBec3 α τ).2.1, (rBecome α τ).2.2.1, ?_, fun k hk j hj => rBecW_at hj 16 hk, fun k hk j hj => rBecO_at hj 8 hk⟩
  obtain ⟨a1, a2, a3⟩ := rBecO_O (s := rBec4 α τ) (τ := τ) 8
  obtain ⟨b1, b2⟩ := rBecW_O (s := rBec2 α τ) (τ := τ) 16
  have e1 : (rBecome α τ).1 = fun a => if a = 2 then va_cpy (τ.1 2) (α.1 2) 0 0 25 else if a = 1 then va_cpy (τ.1 1) (α.1 1) 0 0 6 else if a = 0 then va_cpy (τ.1 0) (α.1 0) 0 0 6 else α.1 a := by
    refine a1.trans ?_
    unfold rBec4
    have e : (rBec3 α τ).1 = (rBec2 α τ).1 := b1
    funext a
    show (if a = 2 then va_cpy (τ.1 2) ((rBec3 α τ).1 2) 0 0 25 else (rBec3 α τ).1 a) = _
    rw [e]
    rfl
  have e2 : (rBecome α τ).2.1 = (rBec3 α τ).2.1 := a2
  have e3 : (rBecome α τ).2.2.2 = (rBec1 α τ).2.2.2 := a3.trans (congrArg Prod.snd b2)
  refine Prod.ext e1 (Prod.ext e2 (Prod.ext rfl e3))
theorem Sim.copy {D : Nat} {σ φ : WS} {μ : MS} {τ α : ST} (h : Sim D σ μ τ) : Sim D (kCopy φ σ) μ (rBecome α τ) ∧ (kCopy φ σ).2.2 8 = -1 ∧ (rBecome α τ).2.2.2.2 8 = -1 ∧ (rBecome α τ).2.2.2.2 9 = 0 ∧ ∀ k, k < 8 → (rBecome α τ).2.2.1 k 4 = nI k := by
  obtain ⟨W, O, e, hW, hO⟩ := rBecome_eq (α := α) (τ := τ)
  have hw0 := h.wb.1
  have hw1 := h.wb.2.1
  have hw2 := h.wb.2.2.1
  have hw4 := h.wb.2.2.2.2
  rw [e]
  refine ⟨?_, rfl, rfl, rfl, fun k hk => (hO k hk 4 (by omega)).trans (if_pos rfl)⟩
  exact ⟨kCopy_B h.wb, h.n0, h.n1, h.n2, h.n4, fun m hm => by
    have hm : m < σ.2.1 0 := hm
    exact (show va_cpy (σ.1 0) (φ.1 0) 0 0 18 (m * 3 + 0) = σ.1 0 (m * 3 + 0) from cp_at (by omega)).trans (h.ml m hm), fun m hm => by
    have hm : m < σ.2.1 0 := hm
    exact ((show va_cpy (σ.1 0) (φ.1 0) 0 0 18 (m * 3 + 1) = σ.1 0 (m * 3 + 1) from cp_at (by omega)).trans (h.mt m hm)).trans (cp_at (f := τ.1 0) (g := α.1 0) (N := 6) (k := m) (by omega)).symm, fun m hm => by
    have hm : m < σ.2.1 0 := hm
    exact ((show va_cpy (σ.1 0) (φ.1 0) 0 0 18 (m * 3 + 2) = σ.1 0 (m * 3 + 2) from cp_at (by omega)).trans (h.mw m hm)).trans (cp_at (f := τ.1 1) (g := α.1 1) (N := 6) (k := m) (by omega)).symm, fun m hm h6 => (cp_at (f := τ.1 1) (g := α.1 1) (N := 6) (k := m) h6).trans (h.mf m hm h6), fun m hm => by
    have hm : m < σ.2.1 0 := hm
    refine ⟨(h.mb m hm).1, ?_, ?_⟩
    · show Nn (va_cpy (τ.1 0) (α.1 0) 0 0 6 m) 0 9; rw [cp_at (by omega)]; exact (h.mb m hm).2.1
    · show Nn (va_cpy (τ.1 1) (α.1 1) 0 0 6 m) 0 100; rw [cp_at (by omega)]; exact (h.mb m hm).2.2, fun k hk => by
    have hk : k < σ.2.1 1 := hk
    exact (show va_cpy (σ.1 1) (φ.1 1) 0 0 10 (k * 2 + 0) = σ.1 1 (k * 2 + 0) from cp_at (by omega)).trans (h.ks k hk), fun k hk => by
    have hk : k < σ.2.1 1 := hk
    exact (show va_cpy (σ.1 1) (φ.1 1) 0 0 10 (k * 2 + 1) = σ.1 1 (k * 2 + 1) from cp_at (by omega)).trans (h.ka k hk), h.kb, fun k hk j hj => by
    have hk : k < σ.2.1 2 := hk
    exact ((show va_cpy (σ.1 2) (φ.1 2) 0 0 40 (k * 4 + j) = σ.1 2 (k * 4 + j) from cp_at (by omega)).trans (h.bd k hk j hj)).trans (hW k (by omega) j hj).symm, fun k hk => by
    have hk : k < σ.2.1 2 := hk
    show WBd (W k)
    unfold WBd
    rw [hW k (by omega) 0 (by omega), hW k (by omega) 1 (by omega), hW k (by omega) 2 (by omega), hW k (by omega) 3 (by omega)]
    exact h.bb k hk, fun k hk j hj => by
    exact ((show va_cpy (σ.1 3) (φ.1 3) 0 0 24 (k * 4 + j) = σ.1 3 (k * 4 + j) from cp_at (by omega)).trans (h.sg k hk j hj)).trans (hW (10 + k) (by omega) j hj).symm, fun k hk => by
    show SBd (W (10 + k))
    unfold SBd
    rw [hW (10 + k) (by omega) 0 (by omega), hW (10 + k) (by omega) 1 (by omega), hW (10 + k) (by omega) 2 (by omega), hW (10 + k) (by omega) 3 (by omega)]
    exact h.sb k hk, fun i hi => (show va_cpy (σ.1 5) (φ.1 5) 0 0 7 (i) = σ.1 5 (i) from cp_at (by omega)).trans (h.dr i hi), h.db, fun i hi => ((show va_cpy (σ.1 6) (φ.1 6) 0 0 25 (i) = σ.1 6 (i) from cp_at (by omega)).trans (h.st i hi)).trans (cp_at (f := τ.1 2) (g := α.1 2) (N := 25) (k := i) hi).symm, fun i hi => (cp_at (f := τ.1 2) (g := α.1 2) (N := 25) (k := i) (by omega)).trans (h.s0 i hi), fun k hk j hj => by
    have hk : k < σ.2.1 4 := hk
    exact ((show va_cpy (σ.1 4) (φ.1 4) 0 0 32 (k * 4 + j) = σ.1 4 (k * 4 + j) from cp_at (by omega)).trans (h.od k hk j hj)).trans ((hO k (by omega) j (by omega)).trans (if_neg (by omega))).symm, fun k hk => by
    have hk : k < σ.2.1 4 := hk
    show Nn (O k 0) 4 24 ∧ Nn (O k 2) 0 30
    rw [hO k (by omega) 0 (by omega), hO k (by omega) 2 (by omega)]
    exact h.ob k hk, fun i hi => by
    match i, hi with
    | 0, _ => exact h.sc 0 (by omega)
    | 1, _ => exact h.sc 1 (by omega)
    | 2, _ => exact h.sc 2 (by omega)
    | 3, _ => exact h.sc 3 (by omega)
    | 4, _ => exact h.sc 4 (by omega)
    | 5, _ => exact h.sc 5 (by omega)
    | 6, _ => exact h.sc 6 (by omega)
    | 7, _ => exact h.sc 7 (by omega), h.dy, h.cl⟩
theorem nI_inj {a b : Nat} (ha : a < 2 ^ 31) (hb : b < 2 ^ 31) (e : nI a = nI b) : a = b := by
  have := congrArg Int32.toNatClampNeg e
  rw [nI_clamp ha, nI_clamp hb] at this
  exact this
theorem nI_m1 {a : Nat} (ha : a < 2 ^ 31) : ¬ nI a = -1 := fun q => by
  have := nI_pos (n := a) ha
  rw [q] at this
  exact this (by decide)
theorem Sim.copyF {D : Nat} {σ φ : WS} {μ : MS} {τ α : ST} (h : Sim D σ μ τ) : Sim D (kCopy φ σ) μ (rBecome α τ) ∧ Wat False (kCopy φ σ) (rBecome α τ) := by
  obtain ⟨a, b, c, d, e⟩ := h.copy (φ := φ) (α := α)
  have h4 := h.wb.2.2.2.2
  refine ⟨a, Or.inr ⟨b, fun k hk => ?_, False.elim⟩⟩
  have hk : k < σ.2.1 4 := hk
  rw [e k (by omega), c]
  exact nI_m1 (by omega)
theorem Sim.copyR {D : Nat} {σ φ : WS} {μ : MS} {τ α : ST} (h : Sim D σ μ τ) {i : Nat} (hi : i < σ.2.1 4) : Sim D (uS (kCopy φ σ) 8 (nI i)) μ (rAsk α τ (nI i)) ∧ Wat True (uS (kCopy φ σ) 8 (nI i)) (rAsk α τ (nI i)) := by
  obtain ⟨a, b, c, d, e⟩ := h.copy (φ := φ) (α := α)
  have h4 := h.wb.2.2.2.2
  refine ⟨(a.u 8 (nI i) (by omega)).v 8 (nI i) (by omega), Or.inl ⟨i, hi, rfl, d, fun k hk => ?_⟩⟩
  have hk : k < σ.2.1 4 := hk
  show (rBecome α τ).2.2.1 k 4 = nI i ↔ k = i
  rw [e k (by omega)]
  exact ⟨fun q => nI_inj (by omega) (by omega) q, fun q => by rw [q]⟩
