/-! the two sides agree: drying, and the orders -/
set_option maxRecDepth 4000
def mx0 (x y : Int32) : Int32 := if 0 < x - y then x - y else 0
theorem tDr_at {f : Nat → Int32} {y : Int32} {k j : Nat} (hj : j < 4) : ∀ n, tDr f y n (k * 4 + j) = if k < n ∧ j = 2 then mx0 (f (k * 4 + 2)) y else f (k * 4 + j)
  | 0 => (if_neg (by omega)).symm
  | n + 1 => by
    show upd (tDr f y n) (n * 4 + 2) (if 0 < tDr f y n (n * 4 + 2) - y then tDr f y n (n * 4 + 2) - y else 0) (k * 4 + j) = _
    by_cases e : k = n ∧ j = 2
    · obtain ⟨rfl, rfl⟩ := e
      have e2 := tDr_at (f := f) (y := y) (k := k) (j := 2) (by omega) k
      rw [if_neg (by omega)] at e2
      rw [pk_us, e2, if_pos (show k < k + 1 ∧ 2 = 2 from ⟨by omega, rfl⟩)]
      rfl
    · rw [pk_un (by omega), tDr_at hj n]
      by_cases c : k < n ∧ j = 2
      · rw [if_pos c, if_pos ⟨by omega, c.2⟩]
      · rw [if_neg c, if_neg (by omega)]
theorem rDr_at {τ : ST} {y : Int32} {k j : Nat} : ∀ n, (rDr τ y n).2.1 k j = if k < n ∧ j = 2 then mx0 (τ.2.1 k 2) y else τ.2.1 k j
  | 0 => (if_neg (by omega)).symm
  | n + 1 => by
    show (if k = n then upd ((rDr τ y n).2.1 n) 2 (if 0 < (rDr τ y n).2.1 n 2 - y then (rDr τ y n).2.1 n 2 - y else 0) else (rDr τ y n).2.1 k) j = _
    by_cases e : k = n
    · subst e
      rw [if_pos rfl]
      by_cases e2 : j = 2
      · subst e2
        have e3 := rDr_at (τ := τ) (y := y) (k := k) (j := 2) k
        rw [if_neg (by omega)] at e3
        rw [pk_us, e3, if_pos (show k < k + 1 ∧ 2 = 2 from ⟨by omega, rfl⟩)]
        rfl
      · rw [pk_un e2, rDr_at k, if_neg (by omega), if_neg (by omega)]
    · rw [if_neg e, rDr_at n]
      by_cases c : k < n ∧ j = 2
      · rw [if_pos c, if_pos ⟨by omega, c.2⟩]
      · rw [if_neg c, if_neg (by omega)]
theorem mx0_n {x y : Int32} {a b : Nat} (hx : Nn x 0 a) (hy : Nn y 0 b) (ha : a < 1000) (hb : b < 1000) : Nn (mx0 x y) 0 a := by
  obtain ⟨n, n1, n2, rfl⟩ := hx
  obtain ⟨m, m1, m2, rfl⟩ := hy
  unfold mx0
  rw [mx_nI (by omega) (by omega)]
  exact ⟨n - m, by omega, by omega, rfl⟩
/-- a state with other wares and nothing else -/
theorem rDr_eq {τ : ST} {y : Int32} (n : Nat) : rDr τ y n = (τ.1, (rDr τ y n).2.1, τ.2.2) := by
  obtain ⟨a, b⟩ := rDr_O (τ := τ) (y := y) n
  rw [← a, ← b]
theorem Sim.dry {D : Nat} {σ : WS} {μ : MS} {τ : ST} (h : Sim D σ μ τ) {y : Int32} (hy : Nn y 0 3) : Sim D (kDry σ y) μ (rDr τ y 16) := by
  have hw2 := h.wb.2.2.1
  have h3 : σ.2.1 3 = 6 := h.wb.2.2.2.1
  rw [rDr_eq 16]
  have hA : ∀ k j, k < 16 → (rDr τ y 16).2.1 k j = if j = 2 then mx0 (τ.2.1 k 2) y else τ.2.1 k j := fun k j hk => by
    rw [rDr_at 16]
    by_cases c : j = 2
    · rw [if_pos ⟨hk, c⟩, if_pos c]
    · rw [if_neg (fun q => c q.2), if_neg c]
  generalize (rDr τ y 16).2.1 = W at hA
  have hB : ∀ k, k < 16 → W k 0 = τ.2.1 k 0 ∧ W k 1 = τ.2.1 k 1 ∧ W k 2 = mx0 (τ.2.1 k 2) y ∧ W k 3 = τ.2.1 k 3 := fun k hk => ⟨(hA k 0 hk).trans (if_neg (by decide)), (hA k 1 hk).trans (if_neg (by decide)), (hA k 2 hk).trans (if_pos rfl), (hA k 3 hk).trans (if_neg (by decide))⟩
  exact ⟨h.wb, h.n0, h.n1, h.n2, h.n4, h.ml, h.mt, h.mw, h.mf, h.mb, h.ks, h.ka, h.kb, fun k hk j hj => by
    have hk : k < σ.2.1 2 := hk
    show tDr (σ.1 2) y (σ.2.1 2) (k * 4 + j) = W k j
    rw [tDr_at hj, hA k j (by omega)]
    by_cases c : j = 2
    · subst c; rw [if_pos ⟨hk, rfl⟩, if_pos rfl, h.bd k hk 2 (by omega)]
    · rw [if_neg (fun q => c q.2), if_neg c]; exact h.bd k hk j hj, fun k hk => by
    have hk : k < σ.2.1 2 := hk
    obtain ⟨b0, b1, b2, b3⟩ := hB k (by omega)
    show WBd (W k)
    unfold WBd
    rw [b0, b1, b2, b3]
    obtain ⟨c0, c1, c2, c3⟩ := h.bb k hk
    exact ⟨c0, c1, mx0_n c2 hy (by omega) (by omega), c3⟩, fun k hk j hj => by
    show tDr (σ.1 3) y (σ.2.1 3) (k * 4 + j) = W (10 + k) j
    rw [tDr_at hj, hA (10 + k) j (by omega)]
    by_cases c : j = 2
    · subst c; rw [if_pos ⟨by omega, rfl⟩, if_pos rfl, h.sg k hk 2 (by omega)]
    · rw [if_neg (fun q => c q.2), if_neg c]; exact h.sg k hk j hj, fun k hk => by
    obtain ⟨b0, b1, b2, b3⟩ := hB (10 + k) (by omega)
    show SBd (W (10 + k))
    unfold SBd
    rw [b0, b1, b2, b3]
    obtain ⟨c0, c1, c2, c3, c4⟩ := h.sb k hk
    exact ⟨c0, c1, mx0_n c2 hy (by omega) (by omega), c3, c4⟩, h.dr, h.db, h.st, h.s0, h.od, h.ob, h.sc, h.dy, h.cl⟩
theorem Sim.u {D : Nat} {σ : WS} {μ : MS} {τ : ST} (h : Sim D σ μ τ) (i : Nat) (x : Int32) (hi : 8 ≤ i) : Sim D (uS σ i x) μ τ := ⟨h.wb, h.n0, h.n1, h.n2, h.n4, h.ml, h.mt, h.mw, h.mf, h.mb, h.ks, h.ka, h.kb, h.bd, h.bb, h.sg, h.sb, h.dr, h.db, h.st, h.s0, h.od, h.ob, fun a ha => by
    show (if a = i then x else σ.2.2 a) = _
    rw [if_neg (by omega)]; exact h.sc a ha, h.dy, h.cl⟩
theorem Sim.v {D : Nat} {σ : WS} {μ : MS} {τ : ST} (h : Sim D σ μ τ) (i : Nat) (x : Int32) (hi : 8 ≤ i) : Sim D σ μ (tS τ i x) := ⟨h.wb, h.n0, h.n1, h.n2, h.n4, h.ml, h.mt, h.mw, h.mf, h.mb, h.ks, h.ka, h.kb, h.bd, h.bb, h.sg, h.sb, h.dr, h.db, h.st, h.s0, h.od, h.ob, fun a ha => by
    show _ = (if a = i then x else τ.2.2.2.2 a)
    rw [if_neg (by omega)]; exact h.sc a ha, by show Nn (if 0 = i then x else τ.2.2.2.2 0) 0 D; rw [if_neg (by omega)]; exact h.dy, by show Nn (if 1 = i then x else τ.2.2.2.2 1) 0 _; rw [if_neg (by omega)]; exact h.cl⟩
theorem Sim.store {D : Nat} {σ : WS} {μ : MS} {τ : ST} (h : Sim D σ μ τ) {l : Nat} (x : Int32) (h4 : 4 ≤ l) : Sim D (uA σ 6 (upd (σ.1 6) l x)) μ (tA τ 2 (upd (τ.1 2) l x)) := ⟨h.wb, h.n0, h.n1, h.n2, h.n4, h.ml, h.mt, h.mw, h.mf, h.mb, h.ks, h.ka, h.kb, h.bd, h.bb, h.sg, h.sb, h.dr, h.db, fun i hi => by
    show upd (σ.1 6) l x i = upd (τ.1 2) l x i
    by_cases e : i = l
    · rw [e, pk_us, pk_us]
    · rw [pk_un e, pk_un e]; exact h.st i hi, fun i hi => by
    show upd (τ.1 2) l x i = 0
    rw [pk_un (by omega)]; exact h.s0 i hi, h.od, h.ob, h.sc, h.dy, h.cl⟩
def vRem (τ : ST) (p : Nat) : ST := (τ.1, τ.2.1, fun i => if i < p then τ.2.2.1 i else τ.2.2.1 (i + 1), fun a => if a = 1 then τ.2.2.2.1 1 - 1 else τ.2.2.2.1 a, τ.2.2.2.2)
theorem tRem_at {f : Nat → Int32} {w rows i k j : Nat} (hj : j < w) (hk : k < rows - 1) : tRem f w rows i (k * w + j) = if k < i then f (k * w + j) else f ((k + 1) * w + j) := by
  have h1 : k * w + j < (rows - 1) * w := by
    have : (k + 1) * w ≤ (rows - 1) * w := Nat.mul_le_mul_right _ hk
    rw [Nat.add_mul] at this
    omega
  unfold tRem
  by_cases c : k < i
  · have h2 : (k + 1) * w ≤ i * w := Nat.mul_le_mul_right _ c
    rw [Nat.add_mul] at h2
    rw [if_pos c, if_neg (by omega)]
  · have h2 : i * w ≤ k * w := Nat.mul_le_mul_right _ (by omega)
    rw [if_neg c, if_pos ⟨by omega, h1⟩, Nat.add_mul]
    congr 1
    omega
theorem Sim.rem4 {D : Nat} {σ : WS} {μ : MS} {τ : ST} (h : Sim D σ μ τ) {p : Nat} (hp : p < σ.2.1 4) : Sim D (kRemove σ 4 4 p) μ (vRem τ p) := by
  have hw := h.wb
  exact ⟨⟨hw.1, hw.2.1, hw.2.2.1, hw.2.2.2.1, show σ.2.1 4 - 1 ≤ 8 by have := hw.2.2.2.2; omega⟩, h.n0, h.n1, h.n2, by show τ.2.2.2.1 1 - 1 = σ.2.1 4 - 1; rw [h.n4], h.ml, h.mt, h.mw, h.mf, h.mb, h.ks, h.ka, h.kb, h.bd, h.bb, h.sg, h.sb, h.dr, h.db, h.st, h.s0, fun k hk j hj => by
    have hk : k < σ.2.1 4 - 1 := hk
    show tRem (σ.1 4) 4 (σ.2.1 4) p (k * 4 + j) = (if k < p then τ.2.2.1 k else τ.2.2.1 (k + 1)) j
    rw [tRem_at hj hk]
    by_cases c : k < p
    · rw [if_pos c, if_pos c]; exact h.od k (by omega) j hj
    · rw [if_neg c, if_neg c]; exact h.od (k + 1) (by omega) j hj, fun k hk => by
    have hk : k < σ.2.1 4 - 1 := hk
    show Nn ((if k < p then τ.2.2.1 k else τ.2.2.1 (k + 1)) 0) 4 24 ∧ Nn ((if k < p then τ.2.2.1 k else τ.2.2.1 (k + 1)) 2) 0 30
    by_cases c : k < p
    · rw [if_pos c]; exact h.ob k (by omega)
    · rw [if_neg c]; exact h.ob (k + 1) (by omega), h.sc, h.dy, h.cl⟩
theorem Sim.less {D : Nat} {σ : WS} {μ : MS} {τ : ST} (h : Sim D σ μ τ) {p : Nat} (hp : p < σ.2.1 4) (hx : Nn (τ.2.2.1 p 2 - 1) 0 30) : Sim D (uC σ 4 p 4 2 (τ.2.2.1 p 2 - 1)) μ (rLess τ p) := ⟨h.wb, h.n0, h.n1, h.n2, h.n4, h.ml, h.mt, h.mw, h.mf, h.mb, h.ks, h.ka, h.kb, h.bd, h.bb, h.sg, h.sb, h.dr, h.db, h.st, h.s0, fun k hk j hj => by
    show upd (σ.1 4) (p * 4 + 2) (τ.2.2.1 p 2 - 1) (k * 4 + j) = (if k = p then upd (τ.2.2.1 p) 2 (τ.2.2.1 p 2 - 1) else τ.2.2.1 k) j
    by_cases e : k = p
    · subst e
      rw [if_pos rfl]
      by_cases e2 : j = 2
      · rw [e2, pk_us, pk_us]
      · rw [pk_un (by omega), pk_un e2]; exact h.od k hk j hj
    · rw [if_neg e, pk_un (by omega)]; exact h.od k hk j hj, fun k hk => by
    show Nn ((if k = p then upd (τ.2.2.1 p) 2 (τ.2.2.1 p 2 - 1) else τ.2.2.1 k) 0) 4 24 ∧ Nn ((if k = p then upd (τ.2.2.1 p) 2 (τ.2.2.1 p 2 - 1) else τ.2.2.1 k) 2) 0 30
    by_cases e : k = p
    · rw [if_pos e, pk_un (by omega), pk_us]; exact ⟨(h.ob p hp).1, hx⟩
    · rw [if_neg e]; exact h.ob k hk, h.sc, h.dy, h.cl⟩
theorem Sim.cg {D : Nat} {σ : WS} {μ : MS} {τ : ST} {τ' : ST} (h : Sim D σ μ τ) (e1 : τ'.1 = τ.1) (e2 : τ'.2.1 = τ.2.1) (e3 : τ'.2.2.2 = τ.2.2.2) (e4 : ∀ k, k < σ.2.1 4 → ∀ j, j < 4 → τ'.2.2.1 k j = τ.2.2.1 k j) : Sim D σ μ τ' := by
  obtain ⟨a, b, c, d⟩ := τ'
  dsimp only at e1 e2 e3 e4
  subst e1
  subst e2
  subst e3
  exact ⟨h.wb, h.n0, h.n1, h.n2, h.n4, h.ml, h.mt, h.mw, h.mf, h.mb, h.ks, h.ka, h.kb, h.bd, h.bb, h.sg, h.sb, h.dr, h.db, h.st, h.s0, fun k hk j hj => (h.od k hk j hj).trans (e4 k hk j hj).symm, fun k hk => by
    show Nn (c k 0) 4 24 ∧ Nn (c k 2) 0 30
    rw [e4 k hk 0 (by omega), e4 k hk 2 (by omega)]; exact h.ob k hk, h.sc, h.dy, h.cl⟩
theorem Wat.cg {r : Prop} {σ : WS} {τ τ' : ST} (h : Wat r σ τ) (e3 : τ'.2.2.2 = τ.2.2.2) (e4 : ∀ k, k < σ.2.1 4 → τ'.2.2.1 k 4 = τ.2.2.1 k 4) : Wat r σ τ' := by
  unfold Wat at h ⊢
  rw [e3]
  rcases h with ⟨p, p1, p2, p3, p4⟩ | ⟨p1, p2, p3⟩
  · exact Or.inl ⟨p, p1, p2, p3, fun k hk => by rw [e4 k hk]; exact p4 k hk⟩
  · exact Or.inr ⟨p1, fun k hk => by rw [e4 k hk]; exact p2 k hk, p3⟩
/-- what becomes of the watch when order p goes, f telling how (1 served, 2 lost) -/
def vEnd (τ : ST) (p : Nat) (f : Int32) : ST := if τ.2.2.1 p 4 = τ.2.2.2.2 8 then tS τ 9 f else τ
theorem Wat.gone {r : Prop} {σ : WS} {τ : ST} (h : Wat r σ τ) (h8 : σ.2.1 4 ≤ 8) {p : Nat} (hp : p < σ.2.1 4) {x f : Int32} (hxf : (x = 1 ∧ f = 1) ∨ (x = 0 ∧ f = 2)) : Wat r (kDismiss σ p x) (vRem (vEnd τ p f) p) := by
  have hn1 : ¬ nI p = -1 := fun q => by
    have := nI_pos (n := p) (by omega)
    rw [q] at this
    exact this (by decide)
  have hn2 : ¬ nI p < -1 := fun q => nI_pos (n := p) (by omega) (Int32.lt_trans q (by decide))
  have eo : (vEnd τ p f).2.2.1 = τ.2.2.1 := by unfold vEnd; split <;> rfl
  have e8 : (vEnd τ p f).2.2.2.2 8 = τ.2.2.2.2 8 := by unfold vEnd; split <;> rfl
  have er : (kDismiss σ p x).2.1 4 = σ.2.1 4 - 1 := congrFun kDismiss_R 4
  rcases h with ⟨P, p1, p2, p3, p4⟩ | ⟨p1, p2, p3⟩
  · by_cases c : p = P
    · subst c
      have ew : τ.2.2.1 p 4 = τ.2.2.2.2 8 := (p4 p hp).mpr rfl
      have ek : kDismiss σ p x = uS (uS (kRemove σ 4 4 p) 8 (-1)) 9 x := by unfold kDismiss; rw [if_pos p2.symm]
      have ev : vEnd τ p f = tS τ 9 f := if_pos ew
      refine Or.inr ⟨by rw [ek]; rfl, fun k hk => ?_, fun _ => ?_⟩
      · rw [er] at hk
        show ¬ (if k < p then (vEnd τ p f).2.2.1 k else (vEnd τ p f).2.2.1 (k + 1)) 4 = (vEnd τ p f).2.2.2.2 8
        rw [eo, e8]
        by_cases c2 : k < p
        · rw [if_pos c2, p4 k (by omega)]; omega
        · rw [if_neg c2, p4 (k + 1) (by omega)]; omega
      · rw [ek, ev]
        exact hxf
    · have ew : ¬ τ.2.2.1 p 4 = τ.2.2.2.2 8 := fun q => c ((p4 p hp).mp q)
      have ev : vEnd τ p f = τ := if_neg ew
      have hpe : ¬ nI p = σ.2.2 8 := fun q => c (by
        have := congrArg Int32.toNatClampNeg q
        rw [p2, nI_clamp (by omega), nI_clamp (by omega)] at this
        exact this)
      rw [ev]
      by_cases c2 : p < P
      · have ek : kDismiss σ p x = uS (kRemove σ 4 4 p) 8 (σ.2.2 8 - 1) := by unfold kDismiss; rw [if_neg hpe, if_pos (by rw [p2]; exact nI_lt c2 (by omega))]
        refine Or.inl ⟨P - 1, by rw [er]; omega, by rw [ek]; show σ.2.2 8 - 1 = _; rw [p2]; exact pk_sub (a := P) (b := 1) (by omega), p3, fun k hk => ?_⟩
        rw [er] at hk
        show (if k < p then τ.2.2.1 k else τ.2.2.1 (k + 1)) 4 = τ.2.2.2.2 8 ↔ _
        by_cases c3 : k < p
        · rw [if_pos c3, p4 k (by omega)]; omega
        · rw [if_neg c3, p4 (k + 1) (by omega)]; omega
      · have ek : kDismiss σ p x = kRemove σ 4 4 p := by unfold kDismiss; rw [if_neg hpe, if_neg (by rw [p2]; exact nI_nlt (by omega) (by omega))]
        refine Or.inl ⟨P, by rw [er]; omega, by rw [ek]; exact p2, p3, fun k hk => ?_⟩
        rw [er] at hk
        show (if k < p then τ.2.2.1 k else τ.2.2.1 (k + 1)) 4 = τ.2.2.2.2 8 ↔ _
        by_cases c3 : k < p
        · rw [if_pos c3, p4 k (by omega)]
        · rw [if_neg c3, p4 (k + 1) (by omega)]; omega
  · have ev : vEnd τ p f = τ := if_neg (p2 p hp)
    have ek : kDismiss σ p x = kRemove σ 4 4 p := by unfold kDismiss; rw [p1, if_neg hn1, if_neg hn2]
    rw [ev]
    refine Or.inr ⟨by rw [ek]; exact p1, fun k hk => ?_, fun hr => by rw [ek]; exact p3 hr⟩
    rw [er] at hk
    show ¬ (if k < p then τ.2.2.1 k else τ.2.2.1 (k + 1)) 4 = τ.2.2.2.2 8
    by_cases c3 : k < p
    · rw [if_pos c3]; exact p2 k (by omega)
    · rw [if_neg c3]; exact p2 (k + 1) (by omega)
theorem Sim.gone {D : Nat} {σ : WS} {μ : MS} {τ : ST} (h : Sim D σ μ τ) {p : Nat} (hp : p < σ.2.1 4) {x f : Int32} : Sim D (kDismiss σ p x) μ (vRem (vEnd τ p f) p) := by
  have h1 : Sim D σ μ (vEnd τ p f) := by
    unfold vEnd
    split
    · exact h.v 9 f (by omega)
    · exact h
  have h2 := h1.rem4 hp
  unfold kDismiss
  split
  · exact (h2.u 8 (-1) (by omega)).u 9 x (by omega)
  · split
    · exact h2.u 8 (σ.2.2 8 - 1) (by omega)
    · exact h2
theorem kWholeOf_n {σ : WS} {l : Nat} (hl : l < 25) : kWholeOf σ (nI l) = σ.1 6 l := by
  unfold kWholeOf
  rw [if_neg (fun q => q.elim (nI_pos (by omega)) (fun q => nI_ge (a := l) (b := 25) hl (by omega) q)), nI_clamp (by omega)]
theorem kAddWhole_n {σ : WS} {l : Nat} {x : Int32} (hl : l < 25) : kAddWhole σ (nI l) x = uA σ 6 (upd (σ.1 6) l (σ.1 6 l + x)) := by
  unfold kAddWhole
  rw [if_neg (fun q => q.elim (nI_pos (by omega)) (fun q => nI_ge (a := l) (b := 25) hl (by omega) q)), nI_clamp (by omega)]
