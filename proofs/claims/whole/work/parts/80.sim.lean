/-! the two sides agree: the relation, and a maker's work -/
def Nn (x : Int32) (lo hi : Nat) : Prop := ∃ n, lo ≤ n ∧ n ≤ hi ∧ x = nI n
def WBd (f : Nat → Int32) : Prop := Nn (f 0) 4 24 ∧ Nn (f 1) 0 24 ∧ Nn (f 2) 0 6 ∧ Nn (f 3) 0 19
def SBd (f : Nat → Int32) : Prop := Nn (f 0) 0 24 ∧ Nn (f 1) 0 24 ∧ Nn (f 2) 0 6 ∧ Nn (f 3) 0 19 ∧ (f 1 = 0 ∨ Nn (f 0) 4 24)
def Sim (D : Nat) (σ : WS) (μ : MS) (τ : ST) : Prop :=
  (WB σ) ∧
  (μ.2 0 = σ.2.1 0) ∧
  (μ.2 1 = σ.2.1 1) ∧
  (τ.2.2.2.1 0 = σ.2.1 2) ∧
  (τ.2.2.2.1 1 = σ.2.1 4) ∧
  (∀ m, m < σ.2.1 0 → σ.1 0 (m * 3 + 0) = μ.1 1 m) ∧
  (∀ m, m < σ.2.1 0 → σ.1 0 (m * 3 + 1) = τ.1 0 m) ∧
  (∀ m, m < σ.2.1 0 → σ.1 0 (m * 3 + 2) = τ.1 1 m) ∧
  (∀ m, σ.2.1 0 ≤ m → m < 6 → τ.1 1 m = 0) ∧
  (∀ m, m < σ.2.1 0 → Nn (μ.1 1 m) 4 24 ∧ Nn (τ.1 0 m) 0 9 ∧ Nn (τ.1 1 m) 0 100) ∧
  (∀ k, k < σ.2.1 1 → σ.1 1 (k * 2 + 0) = μ.1 2 k) ∧
  (∀ k, k < σ.2.1 1 → σ.1 1 (k * 2 + 1) = μ.1 3 k) ∧
  (∀ k, k < σ.2.1 1 → Nn (μ.1 2 k) 1 9 ∧ (μ.1 3 k = -1 ∨ ∃ m, m < σ.2.1 0 ∧ μ.1 3 k = nI m)) ∧
  (∀ k, k < σ.2.1 2 → ∀ j, j < 4 → σ.1 2 (k * 4 + j) = τ.2.1 k j) ∧
  (∀ k, k < σ.2.1 2 → WBd (τ.2.1 k)) ∧
  (∀ k, k < 6 → ∀ j, j < 4 → σ.1 3 (k * 4 + j) = τ.2.1 (10 + k) j) ∧
  (∀ k, k < 6 → SBd (τ.2.1 (10 + k))) ∧
  (∀ i, i < 7 → σ.1 5 i = μ.1 0 i) ∧
  (∀ i, i < 7 → Nn (μ.1 0 i) 0 3) ∧
  (∀ i, i < 25 → σ.1 6 i = τ.1 2 i) ∧
  (∀ i, i < 4 → τ.1 2 i = 0) ∧
  (∀ k, k < σ.2.1 4 → ∀ j, j < 4 → σ.1 4 (k * 4 + j) = τ.2.2.1 k j) ∧
  (∀ k, k < σ.2.1 4 → Nn (τ.2.2.1 k 0) 4 24 ∧ Nn (τ.2.2.1 k 2) 0 30) ∧
  (∀ i, i < 8 → σ.2.2 i = τ.2.2.2.2 i) ∧
  (Nn (τ.2.2.2.2 0) 0 D) ∧
  (Nn (τ.2.2.2.2 1) 0 (200 + 5 * D))
section SIMA
variable {D : Nat} {σ : WS} {μ : MS} {τ : ST}
theorem Sim.wb (h : Sim D σ μ τ) : WB σ := h.1
theorem Sim.n0 (h : Sim D σ μ τ) : μ.2 0 = σ.2.1 0 := h.2.1
theorem Sim.n1 (h : Sim D σ μ τ) : μ.2 1 = σ.2.1 1 := h.2.2.1
theorem Sim.n2 (h : Sim D σ μ τ) : τ.2.2.2.1 0 = σ.2.1 2 := h.2.2.2.1
theorem Sim.n4 (h : Sim D σ μ τ) : τ.2.2.2.1 1 = σ.2.1 4 := h.2.2.2.2.1
theorem Sim.ml (h : Sim D σ μ τ) : ∀ m, m < σ.2.1 0 → σ.1 0 (m * 3 + 0) = μ.1 1 m := h.2.2.2.2.2.1
theorem Sim.mt (h : Sim D σ μ τ) : ∀ m, m < σ.2.1 0 → σ.1 0 (m * 3 + 1) = τ.1 0 m := h.2.2.2.2.2.2.1
theorem Sim.mw (h : Sim D σ μ τ) : ∀ m, m < σ.2.1 0 → σ.1 0 (m * 3 + 2) = τ.1 1 m := h.2.2.2.2.2.2.2.1
theorem Sim.mf (h : Sim D σ μ τ) : ∀ m, σ.2.1 0 ≤ m → m < 6 → τ.1 1 m = 0 := h.2.2.2.2.2.2.2.2.1
theorem Sim.mb (h : Sim D σ μ τ) : ∀ m, m < σ.2.1 0 → Nn (μ.1 1 m) 4 24 ∧ Nn (τ.1 0 m) 0 9 ∧ Nn (τ.1 1 m) 0 100 := h.2.2.2.2.2.2.2.2.2.1
theorem Sim.ks (h : Sim D σ μ τ) : ∀ k, k < σ.2.1 1 → σ.1 1 (k * 2 + 0) = μ.1 2 k := h.2.2.2.2.2.2.2.2.2.2.1
theorem Sim.ka (h : Sim D σ μ τ) : ∀ k, k < σ.2.1 1 → σ.1 1 (k * 2 + 1) = μ.1 3 k := h.2.2.2.2.2.2.2.2.2.2.2.1
theorem Sim.kb (h : Sim D σ μ τ) : ∀ k, k < σ.2.1 1 → Nn (μ.1 2 k) 1 9 ∧ (μ.1 3 k = -1 ∨ ∃ m, m < σ.2.1 0 ∧ μ.1 3 k = nI m) := h.2.2.2.2.2.2.2.2.2.2.2.2.1
theorem Sim.bd (h : Sim D σ μ τ) : ∀ k, k < σ.2.1 2 → ∀ j, j < 4 → σ.1 2 (k * 4 + j) = τ.2.1 k j := h.2.2.2.2.2.2.2.2.2.2.2.2.2.1
theorem Sim.bb (h : Sim D σ μ τ) : ∀ k, k < σ.2.1 2 → WBd (τ.2.1 k) := h.2.2.2.2.2.2.2.2.2.2.2.2.2.2.1
theorem Sim.sg (h : Sim D σ μ τ) : ∀ k, k < 6 → ∀ j, j < 4 → σ.1 3 (k * 4 + j) = τ.2.1 (10 + k) j := h.2.2.2.2.2.2.2.2.2.2.2.2.2.2.2.1
theorem Sim.sb (h : Sim D σ μ τ) : ∀ k, k < 6 → SBd (τ.2.1 (10 + k)) := h.2.2.2.2.2.2.2.2.2.2.2.2.2.2.2.2.1
theorem Sim.dr (h : Sim D σ μ τ) : ∀ i, i < 7 → σ.1 5 i = μ.1 0 i := h.2.2.2.2.2.2.2.2.2.2.2.2.2.2.2.2.2.1
theorem Sim.db (h : Sim D σ μ τ) : ∀ i, i < 7 → Nn (μ.1 0 i) 0 3 := h.2.2.2.2.2.2.2.2.2.2.2.2.2.2.2.2.2.2.1
theorem Sim.st (h : Sim D σ μ τ) : ∀ i, i < 25 → σ.1 6 i = τ.1 2 i := h.2.2.2.2.2.2.2.2.2.2.2.2.2.2.2.2.2.2.2.1
theorem Sim.s0 (h : Sim D σ μ τ) : ∀ i, i < 4 → τ.1 2 i = 0 := h.2.2.2.2.2.2.2.2.2.2.2.2.2.2.2.2.2.2.2.2.1
theorem Sim.od (h : Sim D σ μ τ) : ∀ k, k < σ.2.1 4 → ∀ j, j < 4 → σ.1 4 (k * 4 + j) = τ.2.2.1 k j := h.2.2.2.2.2.2.2.2.2.2.2.2.2.2.2.2.2.2.2.2.2.1
theorem Sim.ob (h : Sim D σ μ τ) : ∀ k, k < σ.2.1 4 → Nn (τ.2.2.1 k 0) 4 24 ∧ Nn (τ.2.2.1 k 2) 0 30 := h.2.2.2.2.2.2.2.2.2.2.2.2.2.2.2.2.2.2.2.2.2.2.1
theorem Sim.sc (h : Sim D σ μ τ) : ∀ i, i < 8 → σ.2.2 i = τ.2.2.2.2 i := h.2.2.2.2.2.2.2.2.2.2.2.2.2.2.2.2.2.2.2.2.2.2.2.1
theorem Sim.dy (h : Sim D σ μ τ) : Nn (τ.2.2.2.2 0) 0 D := h.2.2.2.2.2.2.2.2.2.2.2.2.2.2.2.2.2.2.2.2.2.2.2.2.1
theorem Sim.cl (h : Sim D σ μ τ) : Nn (τ.2.2.2.2 1) 0 (200 + 5 * D) := h.2.2.2.2.2.2.2.2.2.2.2.2.2.2.2.2.2.2.2.2.2.2.2.2.2
end SIMA
def Wat (r : Prop) (σ : WS) (τ : ST) : Prop :=
  (∃ p, p < σ.2.1 4 ∧ σ.2.2 8 = nI p ∧ τ.2.2.2.2 9 = 0 ∧ ∀ k, k < σ.2.1 4 → (τ.2.2.1 k 4 = τ.2.2.2.2 8 ↔ k = p)) ∨
  (σ.2.2 8 = -1 ∧ (∀ k, k < σ.2.1 4 → ¬ τ.2.2.1 k 4 = τ.2.2.2.2 8) ∧ (r → (σ.2.2 9 = 1 ∧ τ.2.2.2.2 9 = 1) ∨ (σ.2.2 9 = 0 ∧ τ.2.2.2.2 9 = 2)))
theorem Nn.wk {x : Int32} {a b c d : Nat} (h : Nn x a b) (h1 : c ≤ a) (h2 : b ≤ d) : Nn x c d := by
  obtain ⟨n, p, q, r⟩ := h
  exact ⟨n, by omega, by omega, r⟩
theorem kAt_eq {D : Nat} {σ : WS} {μ : MS} {τ : ST} (h : Sim D σ μ τ) {k : Nat} (hk : k < σ.2.1 1) : kAt σ k = μ.1 3 k := h.ka k hk
theorem Sim.clay {D : Nat} {σ : WS} {μ : MS} {τ : ST} (h : Sim D σ μ τ) {m : Nat} (hm : m < σ.2.1 0) : kClay σ m = rClay μ m ∧ Nn (rClay μ m) 1 3 := by
  unfold kClay rClay
  rw [h.ml m hm]
  obtain ⟨⟨n, n1, n2, e⟩, -⟩ := h.mb m hm
  refine ⟨rfl, ?_⟩
  rw [e]
  exact ⟨(n + 7) / 8, by omega, by omega, by rw [show (7 : Int32) = nI 7 from rfl, nI_add, show (8 : Int32) = nI 8 from rfl, pk_div (by omega) (by omega) (by omega)]⟩
theorem Sim.flaw {D : Nat} {σ : WS} {μ : MS} {τ : ST} (h : Sim D σ μ τ) {m : Nat} (hm : m < σ.2.1 0) : kFlaw σ m = rFlaw τ m ∧ Nn (rFlaw τ m) 0 19 := by
  unfold kFlaw rFlaw
  rw [h.mt m hm, h.mw m hm]
  obtain ⟨-, ⟨t, t1, t2, e⟩, ⟨w, w1, w2, e2⟩⟩ := h.mb m hm
  refine ⟨rfl, ?_⟩
  rw [e, e2]
  exact ⟨w / 10 + 9 - t, by omega, by omega, by rw [show (10 : Int32) = nI 10 from rfl, pk_div (by omega) (by omega) (by omega), show (9 : Int32) = nI 9 from rfl, nI_add, pk_sub (by omega)]⟩
theorem kOne_eq {D : Nat} {σ : WS} {μ : MS} {τ : ST} (h : Sim D σ μ τ) {m : Nat} (hm : m < σ.2.1 0) : kOne σ m = rClay μ m := by
  obtain ⟨e, n, n1, n2, en⟩ := h.clay hm
  unfold kOne
  rw [e, en]
  by_cases q : (1 : Int32) < nI n
  · rw [if_pos q]
  · rw [if_neg q]
    have : ¬ 1 < n := fun c => q (nI_lt (a := 1) c (by omega))
    rw [show n = 1 by omega]
    rfl
theorem kPipes_eq {D : Nat} {σ : WS} {μ : MS} {τ : ST} (h : Sim D σ μ τ) {k m : Nat} (hk : k < σ.2.1 1) (hm : m < σ.2.1 0) : kPipes σ k m = rPipesM μ τ k m := by
  unfold kPipes rPipesM
  rw [kOne_eq h hm, h.ks k hk, h.sc 1 (by omega)]
theorem mn_nI {a b : Nat} (ha : a < 2 ^ 31) (hb : b < 2 ^ 31) : (if nI a < nI b then nI a else nI b) = nI (if a < b then a else b) := by
  by_cases q : a < b
  · rw [if_pos q, if_pos (nI_lt q hb)]
  · rw [if_neg q, if_neg (nI_nlt (by omega) ha)]
theorem mx_nI {a b : Nat} (ha : a < 2 ^ 30) (hb : b < 2 ^ 30) : (if 0 < nI a - nI b then nI a - nI b else 0) = nI (a - b) := by
  by_cases q : b < a
  · rw [pk_sub (by omega)]
    exact if_pos (show nI 0 < nI (a - b) from nI_lt (by omega) (by omega))
  · rw [show a - b = 0 by omega]
    by_cases e : a = b
    · rw [e, pk_sub (Nat.le_refl _), Nat.sub_self]
      exact if_neg (show ¬ nI 0 < nI 0 from nI_nlt (Nat.le_refl _) (by omega))
    · have hn := pk_sneg (a := a) hb (by omega)
      rw [if_neg (fun c => Int32.lt_irrefl (Int32.lt_trans hn c))]; rfl
/-- the pipes that a maker makes, as a number -/
theorem rPipesM_n {D : Nat} {σ : WS} {μ : MS} {τ : ST} (h : Sim D σ μ τ) (hD : D ≤ 100000) {k m : Nat} (hk : k < σ.2.1 1) (hm : m < σ.2.1 0) : ∃ x q c, 1 ≤ q ∧ q ≤ 3 ∧ rClay μ m = nI q ∧ τ.2.2.2.2 1 = nI c ∧ c ≤ 200 + 5 * D ∧ x ≤ 9 ∧ x * q ≤ c ∧ rPipesM μ τ k m = nI x := by
  obtain ⟨-, q, q1, q2, eq⟩ := h.clay hm
  obtain ⟨c, c1, c2, ec⟩ := h.cl
  obtain ⟨⟨s, s1, s2, es⟩, -⟩ := h.kb k hk
  refine ⟨if c / q < s then c / q else s, q, c, q1, q2, eq, ec, c2, ?_, ?_, ?_⟩
  · split <;> omega
  · have hdm := Nat.div_mul_le_self c q
    split
    · exact hdm
    · rename_i hh
      exact Nat.le_trans (Nat.mul_le_mul_right q (show s ≤ c / q by omega)) hdm
  · unfold rPipesM
    have hcq : c / q ≤ c := Nat.div_le_self c q
    rw [eq, ec, es, pk_div (by omega) (by omega) (by omega), mn_nI (by omega) (by omega)]
theorem row4 {f : Nat → Int32} {b : Nat} {a0 a1 a2 a3 : Int32} : (∀ k j, j < 4 → k ≠ b → upd (upd (upd (upd f (b * 4 + 0) a0) (b * 4 + 1) a1) (b * 4 + 2) a2) (b * 4 + 3) a3 (k * 4 + j) = f (k * 4 + j)) ∧ (∀ j, j < 4 → upd (upd (upd (upd f (b * 4 + 0) a0) (b * 4 + 1) a1) (b * 4 + 2) a2) (b * 4 + 3) a3 (b * 4 + j) = pF (fun _ => 0) a0 a1 a2 a3 j) := by
  refine ⟨fun k j hj hk => ?_, fun j hj => ?_⟩
  · rw [pk_un (by omega), pk_un (by omega), pk_un (by omega), pk_un (by omega)]
  · match j, hj with
    | 0, _ => rw [pk_un (by omega), pk_un (by omega), pk_un (by omega), pk_us]; rfl
    | 1, _ => rw [pk_un (by omega), pk_un (by omega), pk_us]; rfl
    | 2, _ => rw [pk_un (by omega), pk_us]; rfl
    | 3, _ => rw [pk_us]; rfl
theorem pF_at {f : Nat → Int32} {a0 a1 a2 a3 : Int32} {j : Nat} (hj : j < 4) : pF f a0 a1 a2 a3 j = pF (fun _ => 0) a0 a1 a2 a3 j := by
  match j, hj with
  | 0, _ => rfl
  | 1, _ => rfl
  | 2, _ => rfl
  | 3, _ => rfl
/-- the wear, on both sides -/
theorem kThen_n {w x : Nat} (hw : w ≤ 100) (hx : x ≤ 9) : kThen (nI w) ((nI x + 3) / 4) = nI (if w + (x + 3) / 4 < 100 then w + (x + 3) / 4 else 100) ∧ (if w + (x + 3) / 4 < 100 then w + (x + 3) / 4 else 100) ≤ 100 := by
  refine ⟨?_, by split <;> omega⟩
  unfold kThen
  rw [show (3 : Int32) = nI 3 from rfl, nI_add, show (4 : Int32) = nI 4 from rfl, pk_div (by omega) (by omega) (by omega), nI_add, show (100 : Int32) = nI 100 from rfl, mn_nI (by omega) (by omega)]
