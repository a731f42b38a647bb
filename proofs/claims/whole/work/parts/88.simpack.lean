/-! the two sides agree: packing and firing -/
set_option maxRecDepth 4000
theorem Sim.sag {D : Nat} {σ : WS} {μ : MS} {τ : ST} {σ' : WS} (h : Sim D σ μ τ) {s : Nat} {G : Nat → Int32} (e2 : σ'.2 = σ.2) (et : ∀ t, t ≠ 3 → σ'.1 t = σ.1 t) (h0 : ∀ k j, j < 4 → k ≠ s → σ'.1 3 (k * 4 + j) = σ.1 3 (k * 4 + j)) (h1 : ∀ j, j < 4 → σ'.1 3 (s * 4 + j) = G j) (hG : SBd G) : Sim D σ' μ (tW τ (10 + s) G) := by
  obtain ⟨a, b⟩ := σ'
  dsimp only at e2 et h0 h1
  subst e2
  exact ⟨h.wb, h.n0, h.n1, h.n2, h.n4, fun m hm => (congrFun (et 0 (by omega)) _).trans (h.ml m hm), fun m hm => (congrFun (et 0 (by omega)) _).trans (h.mt m hm), fun m hm => (congrFun (et 0 (by omega)) _).trans (h.mw m hm), h.mf, h.mb, fun m hm => (congrFun (et 1 (by omega)) _).trans (h.ks m hm), fun m hm => (congrFun (et 1 (by omega)) _).trans (h.ka m hm), h.kb, fun k hk j hj => by
    have h2 := h.wb.2.2.1
    have hk : k < σ.2.1 2 := hk
    show a 2 (k * 4 + j) = (if k = 10 + s then G else τ.2.1 k) j
    rw [show a 2 = σ.1 2 from et 2 (by omega), if_neg (by omega)]; exact h.bd k hk j hj, fun k hk => by
    have h2 := h.wb.2.2.1
    have hk : k < σ.2.1 2 := hk
    show WBd (if k = 10 + s then G else τ.2.1 k)
    rw [if_neg (by omega)]; exact h.bb k hk, fun k hk j hj => by
    show a 3 (k * 4 + j) = (if 10 + k = 10 + s then G else τ.2.1 (10 + k)) j
    by_cases e : k = s
    · rw [e, if_pos rfl]; exact h1 j hj
    · rw [if_neg (by omega), h0 k j hj e]; exact h.sg k hk j hj, fun k hk => by
    show SBd (if 10 + k = 10 + s then G else τ.2.1 (10 + k))
    by_cases e : k = s
    · rw [e, if_pos rfl]; exact hG
    · rw [if_neg (by omega)]; exact h.sb k hk, fun m hm => (congrFun (et 5 (by omega)) _).trans (h.dr m hm), h.db, fun m hm => (congrFun (et 6 (by omega)) _).trans (h.st m hm), h.s0, fun k hk j hj => (congrFun (et 4 (by omega)) _).trans (h.od k hk j hj), h.ob, h.sc, h.dy, h.cl⟩
theorem Sim.brd {D : Nat} {σ : WS} {μ : MS} {τ : ST} (h : Sim D σ μ τ) {i : Nat} {x : Int32} (hi : i < σ.2.1 2) (hx : Nn x 0 24) : Sim D (uC σ 2 i 4 1 x) μ (tW τ i (upd (τ.2.1 i) 1 x)) := ⟨h.wb, h.n0, h.n1, h.n2, h.n4, h.ml, h.mt, h.mw, h.mf, h.mb, h.ks, h.ka, h.kb, fun k hk j hj => by
    show upd (σ.1 2) (i * 4 + 1) x (k * 4 + j) = (if k = i then upd (τ.2.1 i) 1 x else τ.2.1 k) j
    by_cases e : k = i
    · rw [if_pos e, e]
      by_cases e1 : j = 1
      · rw [e1, pk_us, pk_us]
      · rw [pk_un (by omega), pk_un e1]; exact h.bd i hi j hj
    · rw [if_neg e, pk_un (by omega)]; exact h.bd k hk j hj, fun k hk => by
    show WBd (if k = i then upd (τ.2.1 i) 1 x else τ.2.1 k)
    by_cases e : k = i
    · rw [if_pos e]
      obtain ⟨c0, c1, c2, c3⟩ := h.bb i hi
      exact ⟨c0, hx, c2, c3⟩
    · rw [if_neg e]; exact h.bb k hk, fun k hk j hj => by
    have h2 := h.wb.2.2.1
    show σ.1 3 (k * 4 + j) = (if 10 + k = i then upd (τ.2.1 i) 1 x else τ.2.1 (10 + k)) j
    rw [if_neg (by omega)]; exact h.sg k hk j hj, fun k hk => by
    have h2 := h.wb.2.2.1
    show SBd (if 10 + k = i then upd (τ.2.1 i) 1 x else τ.2.1 (10 + k))
    rw [if_neg (by omega)]; exact h.sb k hk, h.dr, h.db, h.st, h.s0, h.od, h.ob, h.sc, h.dy, h.cl⟩
theorem rTk_O {τ : ST} {i : Nat} : ∀ n, (rTk τ i n).1 = τ.1 ∧ (rTk τ i n).2.2 = (tC τ 0 (τ.2.2.2.1 0 - 1)).2.2
  | 0 => ⟨rfl, rfl⟩
  | n + 1 => rTk_O (τ := τ) (i := i) n
theorem rTk_at {τ : ST} {i j : Nat} (hj : j < 4) : ∀ n k, (rTk τ i n).2.1 k j = if i ≤ k ∧ k < i + n then τ.2.1 (k + 1) j else τ.2.1 k j
  | 0, k => (if_neg (by omega)).symm
  | n + 1, k => by
    have e1 : ∀ a, a < 4 → (rTk τ i n).2.1 (i + n + 1) a = τ.2.1 (i + n + 1) a := fun a ha => (rTk_at ha n (i + n + 1)).trans (if_neg (by omega))
    show (if k = i + n then pF ((rTk τ i n).2.1 (i + n)) ((rTk τ i n).2.1 (i + n + 1) 0) ((rTk τ i n).2.1 (i + n + 1) 1) ((rTk τ i n).2.1 (i + n + 1) 2) ((rTk τ i n).2.1 (i + n + 1) 3) else (rTk τ i n).2.1 k) j = _
    by_cases e : k = i + n
    · rw [if_pos e, if_pos ⟨by omega, by omega⟩, e1 0 (by omega), e1 1 (by omega), e1 2 (by omega), e1 3 (by omega), e]
      match j, hj with
      | 0, _ => rfl
      | 1, _ => rfl
      | 2, _ => rfl
      | 3, _ => rfl
    · rw [if_neg e, rTk_at hj n k]
      by_cases c : i ≤ k ∧ k < i + n
      · rw [if_pos c, if_pos ⟨c.1, by omega⟩]
      · rw [if_neg c, if_neg (by omega)]
theorem Sim.rem2 {D : Nat} {σ : WS} {μ : MS} {τ : ST} (h : Sim D σ μ τ) {i : Nat} (hi : i < σ.2.1 2) : Sim D (kRemove σ 2 4 i) μ (rTake τ i) := by
  have hw := h.wb
  obtain ⟨a1, a2⟩ := rTk_O (τ := τ) (i := i) (σ.2.1 2 - 1 - i)
  have e : rTake τ i = (τ.1, (rTk τ i (σ.2.1 2 - 1 - i)).2.1, (tC τ 0 (τ.2.2.2.1 0 - 1)).2.2) := by
    unfold rTake
    rw [h.n2, ← a1]
    rw [h.n2] at a2
    rw [← a2]
  have hW : ∀ j, j < 4 → ∀ k, (rTk τ i (σ.2.1 2 - 1 - i)).2.1 k j = if i ≤ k ∧ k < i + (σ.2.1 2 - 1 - i) then τ.2.1 (k + 1) j else τ.2.1 k j := fun j hj k => rTk_at hj _ k
  rw [e]
  generalize (rTk τ i (σ.2.1 2 - 1 - i)).2.1 = W at hW
  exact ⟨⟨hw.1, hw.2.1, show σ.2.1 2 - 1 ≤ 10 by have := hw.2.2.1; omega, hw.2.2.2.1, hw.2.2.2.2⟩, h.n0, h.n1, by show τ.2.2.2.1 0 - 1 = σ.2.1 2 - 1; rw [h.n2], h.n4, h.ml, h.mt, h.mw, h.mf, h.mb, h.ks, h.ka, h.kb, fun k hk j hj => by
    have hk : k < σ.2.1 2 - 1 := hk
    show tRem (σ.1 2) 4 (σ.2.1 2) i (k * 4 + j) = W k j
    rw [tRem_at hj hk, hW j hj k]
    by_cases c : k < i
    · rw [if_pos c, if_neg (by omega)]; exact h.bd k (by omega) j hj
    · rw [if_neg c, if_pos ⟨by omega, by omega⟩]; exact h.bd (k + 1) (by omega) j hj, fun k hk => by
    have hk : k < σ.2.1 2 - 1 := hk
    show WBd (W k)
    unfold WBd
    rw [hW 0 (by omega) k, hW 1 (by omega) k, hW 2 (by omega) k, hW 3 (by omega) k]
    by_cases c : i ≤ k ∧ k < i + (σ.2.1 2 - 1 - i)
    · rw [if_pos c, if_pos c, if_pos c, if_pos c]; exact h.bb (k + 1) (by omega)
    · rw [if_neg c, if_neg c, if_neg c, if_neg c]; exact h.bb k (by omega), fun k hk j hj => by
    have h2 := h.wb.2.2.1
    show σ.1 3 (k * 4 + j) = W (10 + k) j
    rw [hW j hj (10 + k), if_neg (by omega)]; exact h.sg k hk j hj, fun k hk => by
    have h2 := h.wb.2.2.1
    show SBd (W (10 + k))
    unfold SBd
    rw [hW 0 (by omega) (10 + k), hW 1 (by omega) (10 + k), hW 2 (by omega) (10 + k), hW 3 (by omega) (10 + k), if_neg (by omega), if_neg (by omega), if_neg (by omega), if_neg (by omega)]
    exact h.sb k hk, h.dr, h.db, h.st, h.s0, h.od, h.ob, h.sc, h.dy, h.cl⟩
theorem Sim.store2 {D : Nat} {σ : WS} {μ : MS} {τ : ST} (h : Sim D σ μ τ) {l : Nat} {x : Int32} (hx : 4 ≤ l ∨ x = 0) : Sim D (uA σ 6 (upd (σ.1 6) l x)) μ (tA τ 2 (upd (τ.1 2) l x)) := ⟨h.wb, h.n0, h.n1, h.n2, h.n4, h.ml, h.mt, h.mw, h.mf, h.mb, h.ks, h.ka, h.kb, h.bd, h.bb, h.sg, h.sb, h.dr, h.db, fun i hi => by
    show upd (σ.1 6) l x i = upd (τ.1 2) l x i
    by_cases e : i = l
    · rw [e, pk_us, pk_us]
    · rw [pk_un e, pk_un e]; exact h.st i hi, fun i hi => by
    show upd (τ.1 2) l x i = 0
    by_cases e : i = l
    · rw [e, pk_us]; exact hx.resolve_left (by omega)
    · rw [pk_un e]; exact h.s0 i hi, h.od, h.ob, h.sc, h.dy, h.cl⟩
