/-! the two sides agree: what is read -/
set_option maxRecDepth 4000
section READS
variable {D : Nat} {σ : WS} {μ : MS} {τ : ST}
theorem sum_pipes {f : Nat → Int32} {a : Nat} : ∀ n, (∀ k, k < n → f (k * 4 + 1) = τ.2.1 (a + k) 1) → tSum f 4 1 n = rPipes τ a n
  | 0, _ => rfl
  | n + 1, h => by
    show tSum f 4 1 n + f (n * 4 + 1) = rPipes τ a n + τ.2.1 (a + n) 1
    rw [sum_pipes n (fun k hk => h k (by omega)), h n (by omega)]
theorem Sim.boards (h : Sim D σ μ τ) : tSum (σ.1 2) 4 1 (σ.2.1 2) = rPipes τ 0 (τ.2.2.2.1 0) := by
  rw [h.n2]
  exact sum_pipes _ (fun k hk => by rw [Nat.zero_add]; exact h.bd k hk 1 (by omega))
theorem Sim.saggars (h : Sim D σ μ τ) : tSum (σ.1 3) 4 1 (σ.2.1 3) = rPipes τ 10 6 := by
  rw [show σ.2.1 3 = 6 from h.wb.2.2.2.1]
  exact sum_pipes _ (fun k hk => h.sg k hk 1 (by omega))
theorem wh_store {f g : Nat → Int32} (h0 : ∀ i, i < 4 → g i = 0) : ∀ n, (∀ i, i < 4 + n → f i = g i) → kWh f n = rStore g (4 + n)
  | 0, _ => by
    show (0 : Int32) = 0 + g 0 + g 1 + g 2 + g 3
    rw [h0 0 (by omega), h0 1 (by omega), h0 2 (by omega), h0 3 (by omega)]
    rfl
  | n + 1, h => by
    show kWh f n + f (4 + n) = rStore g (4 + n) + g (4 + n)
    rw [wh_store h0 n (fun i hi => h i (by omega)), h (4 + n) (by omega)]
theorem Sim.count (h : Sim D σ μ τ) {j : Nat} (hj : j < 12) : kCount σ j = rCount τ j := by
  match j, hj with
  | 0, _ => exact h.sc 0 (by omega)
  | 1, _ => exact h.sc 1 (by omega)
  | 2, _ => exact h.sc 2 (by omega)
  | 3, _ => exact h.sc 3 (by omega)
  | 4, _ => exact h.sc 4 (by omega)
  | 5, _ => exact h.sc 5 (by omega)
  | 6, _ => exact h.boards
  | 7, _ => exact h.saggars
  | 8, _ => exact wh_store h.s0 21 (fun i hi => h.st i (by omega))
  | 9, _ => exact congrArg nI h.n4.symm
  | 10, _ => exact h.sc 6 (by omega)
  | 11, _ => exact h.sc 7 (by omega)
theorem off_eq (len y : Int32) : kOff len y = rOff len y := by
  unfold kOff rOff
  have e : 4 * y - (20 + 2 * len) = 4 * y - 20 - 2 * len := by
    rw [Int32.sub_eq_add_neg, Int32.sub_eq_add_neg, Int32.sub_eq_add_neg, Int32.neg_add, Int32.sub_eq_add_neg, Int32.add_assoc]
  rw [e]
theorem min_eq (x : Int32) : (if 100 < x then 100 else x) = (if x < 100 then x else 100) := by
  by_cases c : (100 : Int32) < x
  · rw [if_pos c, if_neg (fun q => Int32.lt_irrefl (Int32.lt_trans c q))]
  · rw [if_neg c]
    by_cases c2 : x < 100
    · rw [if_pos c2]
    · rw [if_neg c2]
      exact Int32.le_antisymm (Int32.not_lt.mp c) (Int32.not_lt.mp c2)
theorem Sim.breaks (h : Sim D σ μ τ) {s : Nat} (hs : s < 6) (y : Int32) : kStems σ s y = rBreaks τ s y := by
  have e : kShare σ s y = rShare (τ.2.1 (10 + s)) s y := by
    unfold kShare rShare
    rw [h.sg s hs 0 (by omega), h.sg s hs 2 (by omega), h.sg s hs 3 (by omega), off_eq]
  unfold kStems rBreaks
  rw [e, min_eq, h.sg s hs 1 (by omega), Int32.mul_comm]
theorem Sim.stems (h : Sim D σ μ τ) (y : Int32) : ∀ n, n ≤ 6 → kStN σ y n = rStN τ y n
  | 0, _ => rfl
  | n + 1, hn => by
    show kStN σ y n + kStems σ n y = rStN τ y n + rBreaks τ n y
    rw [Sim.stems h y n (by omega), h.breaks (by omega)]
/-- with one coal no saggar breaks more than it holds -/
theorem Sim.one (h : Sim D σ μ τ) {s : Nat} (hs : s < 6) : Nn (rBreaks τ s 1) 0 24 := by
  obtain ⟨⟨l, l1, l2, el⟩, ⟨c, c1, c2, ec⟩, ⟨w, w1, w2, ew⟩, ⟨f, f1, f2, ef⟩, -⟩ := h.sb s hs
  have eo : rOff (τ.2.1 (10 + s) 0) 1 = nI (8 + l) := by
    unfold rOff
    rw [el]
    have e1 : (4 : Int32) * 1 - 20 = 0 - nI 16 := by decide
    have e2 : (4 : Int32) * 1 - 20 - 2 * nI l = 0 - nI (16 + 2 * l) := by
      rw [e1, show (2 : Int32) = nI 2 from rfl, pk_mul, ← nI_add, Int32.sub_eq_add_neg, Int32.sub_eq_add_neg, Int32.sub_eq_add_neg, Int32.neg_add, Int32.sub_eq_add_neg, Int32.add_assoc]
    have hneg : ¬ (0 : Int32) ≤ 0 - nI (16 + 2 * l) := fun q => by
      have := pk_sneg (a := 0) (b := 16 + 2 * l) (by omega) (by omega)
      exact Int32.lt_irrefl (Int32.lt_of_le_of_lt q this)
    rw [e2, if_neg hneg, show (0 : Int32) - (0 - nI (16 + 2 * l)) = nI (16 + 2 * l) by rw [Int32.zero_sub, Int32.zero_sub, Int32.neg_neg], show (2 : Int32) = nI 2 from rfl, pk_div (by omega) (by omega) (by omega), show (16 + 2 * l) / 2 = 8 + l by omega]
  obtain ⟨dd, hd, ed⟩ : ∃ dd, dd ≤ 5 ∧ (if s = 0 ∨ s = 5 then (5 : Int32) else 0) = nI dd := by
    by_cases q : s = 0 ∨ s = 5
    · exact ⟨5, by omega, by rw [if_pos q]; rfl⟩
    · exact ⟨0, by omega, by rw [if_neg q]; rfl⟩
  have es : rShare (τ.2.1 (10 + s)) s 1 = nI (8 * w + 2 * f + (8 + l) + dd) := by
    unfold rShare
    rw [ew, ef, eo, ed, show (8 : Int32) = nI 8 from rfl, show (2 : Int32) = nI 2 from rfl, pk_mul, pk_mul, nI_add, nI_add, nI_add]
  unfold rBreaks
  rw [es, ec, show (100 : Int32) = nI 100 from rfl, mn_nI (by omega) (by omega)]
  generalize hx : (if 8 * w + 2 * f + (8 + l) + dd < 100 then 8 * w + 2 * f + (8 + l) + dd else 100) = x
  have hx100 : x ≤ 100 := by rw [← hx]; split <;> omega
  have hm : c * x ≤ 24 * 100 := Nat.mul_le_mul c2 hx100
  rw [pk_mul, show (99 : Int32) = nI 99 from rfl, nI_add, pk_div (by omega) (by omega) (by omega)]
  exact ⟨(c * x + 99) / 100, by omega, by omega, rfl⟩
theorem Sim.ones (h : Sim D σ μ τ) : ∀ n, n ≤ 6 → Nn (rStN τ 1 n) 0 (24 * n)
  | 0, _ => ⟨0, by omega, by omega, rfl⟩
  | n + 1, hn => by
    obtain ⟨a, a1, a2, ea⟩ := Sim.ones h n (by omega)
    obtain ⟨b, b1, b2, eb⟩ := h.one (s := n) (by omega)
    exact ⟨a + b, by omega, by omega, by show rStN τ 1 n + rBreaks τ n 1 = _; rw [ea, eb, nI_add]⟩
theorem Sim.best (h : Sim D σ μ τ) : ∀ n, rBs τ (n + 1) = kBs σ n
  | 0 => by
    obtain ⟨a, a1, a2, ea⟩ := h.ones 6 (by omega)
    show (if (2147483647 : Int32) ≤ rStN τ (nI 1) 6 then (0, 2147483647) else (nI 1, rStN τ (nI 1) 6)) = (1, kStN σ 1 6)
    rw [h.stems 1 6 (by omega), show nI 1 = 1 from rfl, if_neg (fun q => by rw [ea] at q; exact nI_ge (a := a) (b := 2147483647) (by omega) (by omega) q)]
  | n + 1 => by
    show (if (rBs τ (n + 1)).2 ≤ rStN τ (nI (n + 1 + 1)) 6 then rBs τ (n + 1) else (nI (n + 1 + 1), rStN τ (nI (n + 1 + 1)) 6)) = (if kStN σ (nI (2 + n)) 6 < (kBs σ n).2 then (nI (2 + n), kStN σ (nI (2 + n)) 6) else kBs σ n)
    rw [Sim.best h n, h.stems _ 6 (by omega), show n + 1 + 1 = 2 + n by omega]
    by_cases c : rStN τ (nI (2 + n)) 6 < (kBs σ n).2
    · rw [if_pos c, if_neg (Int32.not_le.mpr c)]
    · rw [if_neg c, if_pos (Int32.not_lt.mp c)]
theorem Sim.advise (h : Sim D σ μ τ) : kAdvise σ = rAdvise τ := by
  unfold kAdvise rAdvise
  rw [h.saggars, h.best 29]
theorem Sim.mean (h : Sim D σ μ τ) : kMean σ = rMean τ := by
  have e : ∀ n, n ≤ σ.2.1 2 → tFl (σ.1 2) n = rFl τ n := by
    intro n
    induction n with
    | zero => intro _; rfl
    | succ n ih =>
      intro hn
      show tFl (σ.1 2) n + σ.1 2 (n * 4 + 1) * σ.1 2 (n * 4 + 3) = rFl τ n + τ.2.1 n 1 * τ.2.1 n 3
      rw [ih (by omega), h.bd n (by omega) 1 (by omega), h.bd n (by omega) 3 (by omega)]
  unfold kMean rMean
  rw [h.boards, e _ (Nat.le_refl _), h.n2]
theorem mk_eq {f g : Nat → Int32} {x : Int32} : ∀ n k, (∀ i, i < k + n → f (i * 2 + 1) = g i) → kMk f x n k = rMk g x n k
  | 0, _, _ => rfl
  | n + 1, k, h => by
    show (if f (k * 2 + 1) = x then nI k else kMk f x n (k + 1)) = (if g k = x then nI k else rMk g x n (k + 1))
    rw [h k (by omega), mk_eq n (k + 1) (fun i hi => h i (by omega))]
theorem Sim.maker (h : Sim D σ μ τ) (x : Int32) : kMaker σ x = rMaker μ x := by
  unfold kMaker rMaker
  rw [h.n1]
  exact mk_eq _ 0 (fun i hi => h.ka i (by omega))
theorem Sim.about (h : Sim D σ μ τ) {i j : Nat} (hi : i < σ.2.1 0) (hj : j < 6) : kAbout σ i j = rTold (μ, τ) i j := by
  match j, hj with
  | 0, _ => exact h.ml i hi
  | 1, _ => exact h.mt i hi
  | 2, _ => exact h.mw i hi
  | 3, _ => exact (h.flaw hi).1
  | 4, _ => exact (h.clay hi).1
  | 5, _ => exact h.maker (nI i)
theorem dgN_cg {g g' : Nat → Int32} {d : Int64} : ∀ n, (∀ i, i < n → g i = g' i) → dgN g d n = dgN g' d n
  | 0, _ => rfl
  | n + 1, h => by
    show dgS (dgN g d n) (g n) = dgS (dgN g' d n) (g' n)
    rw [dgN_cg n (fun i hi => h i (by omega)), h n (by omega)]
theorem dgT_cg {g g' : Nat → Nat → Int32} {w : Nat} {d : Int64} : ∀ n, (∀ i, i < n → ∀ j, j < w → g i j = g' i j) → dgT g w d n = dgT g' w d n
  | 0, _ => rfl
  | n + 1, h => by
    show dgN (g n) (dgT g w d n) w = dgN (g' n) (dgT g' w d n) w
    rw [dgT_cg n (fun i hi => h i (by omega)), dgN_cg w (h n (by omega))]
theorem Sim.digest (h : Sim D σ μ τ) : kDig σ = rDig μ τ := by
  have h3 : σ.2.1 3 = 6 := h.wb.2.2.2.1
  have e1 : kDg1 σ = rDg1 τ := dgN_cg 12 (fun i hi => h.count hi)
  have e2 : kDg2 σ = rDg2 μ τ := by
    unfold kDg2 rDg2
    rw [e1]
    exact dgN_cg 7 (fun i hi => (kDries_n hi).trans (h.dr i hi))
  have e3 : kDg3 σ = rDg3 μ τ := by
    unfold kDg3 rDg3
    rw [e2, h.n0]
    exact dgT_cg _ (fun i hi j hj => h.about hi hj)
  have e4 : kDg4 σ = rDg4 μ τ := by
    unfold kDg4 rDg4
    rw [e3, h.n1]
    refine dgT_cg _ (fun i hi j hj => ?_)
    match j, hj with
    | 0, _ => exact h.ks i hi
    | 1, _ => exact h.ka i hi
  have e5 : kDg5 σ = rDg5 μ τ := by
    unfold kDg5 rDg5
    rw [e4, h.n2]
    exact dgT_cg _ (fun i hi j hj => h.bd i hi j hj)
  have e6 : kDg6 σ = rDg6 μ τ := by
    unfold kDg6 rDg6
    rw [e5, h3]
    exact dgT_cg _ (fun i hi j hj => h.sg i hi j hj)
  have e7 : kDg7 σ = rDg7 μ τ := by
    unfold kDg7 rDg7
    rw [e6]
    exact dgN_cg _ (fun i hi => (kWholeOf_n (by omega)).trans (h.st _ (by omega)))
  unfold kDig rDig
  rw [e7, h.n4]
  exact dgT_cg _ (fun i hi j hj => h.od i hi j hj)
end READS
