/-! the two sides agree: looking at the orders, and a day -/
set_option maxRecDepth 4000
def vView (τ : ST) (k p c : Nat) : ST := (τ.1, τ.2.1, fun i => τ.2.2.1 (if i < p then i else k + (i - p)), fun a => if a = 1 then c else τ.2.2.2.1 a, τ.2.2.2.2)
theorem rCpy_at {τ : ST} {l k : Nat} : ∀ n j, (rCpy τ l k n).2.2.1 k j = τ.2.2.1 k j ∧ (rCpy τ l k n).2.2.1 l j = if j < n then τ.2.2.1 k j else τ.2.2.1 l j
  | 0, j => ⟨rfl, (if_neg (Nat.not_lt_zero j)).symm⟩
  | n + 1, j => by
    obtain ⟨a1, a2⟩ := rCpy_at (τ := τ) (l := l) (k := k) n j
    obtain ⟨b1, b2⟩ := rCpy_at (τ := τ) (l := l) (k := k) n n
    have eS : ∀ i, (rCpy τ l k (n + 1)).2.2.1 i = if i = l then upd ((rCpy τ l k n).2.2.1 l) n ((rCpy τ l k n).2.2.1 k n) else (rCpy τ l k n).2.2.1 i := fun i => rfl
    have eL : (rCpy τ l k (n + 1)).2.2.1 l j = if j < n + 1 then τ.2.2.1 k j else τ.2.2.1 l j := by
      rw [eS, if_pos rfl]
      by_cases e : j = n
      · rw [e, pk_us, b1, if_pos (by omega)]
      · rw [pk_un e, a2]
        by_cases c : j < n
        · rw [if_pos c, if_pos (by omega)]
        · rw [if_neg c, if_neg (by omega)]
    refine ⟨?_, eL⟩
    by_cases e : k = l
    · subst e
      rw [eL]
      split <;> rfl
    · rw [eS, if_neg e]; exact a1
theorem rCpy_ne {τ : ST} {l k i : Nat} (hi : i ≠ l) : ∀ n, (rCpy τ l k n).2.2.1 i = τ.2.2.1 i
  | 0 => rfl
  | n + 1 => (if_neg hi).trans (rCpy_ne hi n)
theorem kRem_w {σ : WS} {t w i : Nat} : (kRemove σ t w i).2.2 = σ.2.2 := rfl
/-- one look -/
theorem Sim.look {D n k p : Nat} {σ : WS} {μ : MS} {s : ST} {r : Prop} (hp : p ≤ k) (hk : k < n) (h : Sim D σ μ (vView s k p (n - k + p))) (hw : Wat r σ (vView s k p (n - k + p))) :
    (if (kLook σ p).1 = 0 then p else p + 1) = (rSvS (p, s) k).1 ∧ Sim D (kLook σ p).2 μ (vView (rSvS (p, s) k).2 (k + 1) (rSvS (p, s) k).1 (n - (k + 1) + (rSvS (p, s) k).1)) ∧ Wat r (kLook σ p).2 (vView (rSvS (p, s) k).2 (k + 1) (rSvS (p, s) k).1 (n - (k + 1) + (rSvS (p, s) k).1)) := by
  have hc : σ.2.1 4 = n - k + p := by rw [← h.n4]; rfl
  have hpc : p < σ.2.1 4 := by omega
  have h8 := h.wb.2.2.2.2
  have R0 : (vView s k p (n - k + p)).2.2.1 p = s.2.2.1 k := by
    show s.2.2.1 (if p < p then p else k + (p - p)) = _
    rw [if_neg (Nat.lt_irrefl _), Nat.sub_self, Nat.add_zero]
  obtain ⟨⟨l, l1, l2, el⟩, ⟨dd, d1, d2, ed⟩⟩ := h.ob p hpc
  have e0 := h.od p hpc 0 (by omega)
  have e1 := h.od p hpc 1 (by omega)
  have e2 := h.od p hpc 2 (by omega)
  have e3 := h.od p hpc 3 (by omega)
  rw [R0] at el ed e0 e1 e2 e3
  have el0 := e0.trans el
  have hst : σ.1 6 l = s.1 2 l := h.st l (by omega)
  have hcl : (s.2.2.1 k 0).toNatClampNeg = l := by rw [el]; exact nI_clamp (by omega)
  have hK : kWholeOf σ (σ.1 4 (p * 4 + 0)) = s.1 2 l := by rw [el0, kWholeOf_n (by omega), hst]
  by_cases cA : s.2.2.1 k 1 ≤ s.1 2 l
  · have hr : rSvS (p, s) k = (p, rServed s k) := rSvS_1 (by rw [hcl]; exact cA)
    have hl : kLook σ p = (0, kDismiss (kServe σ p) p 1) := by unfold kLook; rw [hK, e1, if_neg (Int32.not_lt.mpr cA)]
    have hs3 : σ.2.2 3 = s.2.2.2.2 3 := h.sc 3 (by omega)
    have hs6 : σ.2.2 6 = s.2.2.2.2 6 := h.sc 6 (by omega)
    have hS : kServe σ p = uS (uS (uA σ 6 (upd (σ.1 6) l (s.1 2 l - s.2.2.1 k 1))) 3 (s.2.2.2.2 3 + s.2.2.1 k 3)) 6 (s.2.2.2.2 6 + 1) := by
      unfold kServe
      rw [el0, e1, kAddWhole_n (by omega), hst, ← Int32.sub_eq_add_neg]
      show uS (uS (uA σ 6 _) 3 (σ.2.2 3 + σ.1 4 (p * 4 + 3))) 6 (σ.2.2 6 + 1) = _
      rw [hs3, hs6, e3]
    have h1 := ((h.store (l := l) (s.1 2 l - s.2.2.1 k 1) l1).s_ 3 (s.2.2.2.2 3 + s.2.2.1 k 3) (by omega) (by omega)).s_ 6 (s.2.2.2.2 6 + 1) (by omega) (by omega)
    rw [← hS] at h1
    have w1 : Wat r (kServe σ p) (tS (tS (tA (vView s k p (n - k + p)) 2 (upd ((vView s k p (n - k + p)).1 2) l (s.1 2 l - s.2.2.1 k 1))) 3 (s.2.2.2.2 3 + s.2.2.1 k 3)) 6 (s.2.2.2.2 6 + 1)) := by rw [hS]; exact hw
    have hpc2 : p < (kServe σ p).2.1 4 := by rw [hS]; exact hpc
    have h2 := h1.gone (x := 1) (f := 1) hpc2
    have w2 := w1.gone (x := 1) (f := 1) (by rw [hS]; exact h8) hpc2 (Or.inl ⟨rfl, rfl⟩)
    have hcnt : (kDismiss (kServe σ p) p 1).2.1 4 = n - k + p - 1 := by rw [kDismiss_R]; show (kServe σ p).2.1 4 - 1 = _; rw [kServe_R, hc]
    rw [hr, hl]
    have eR : rServed1 s k = tS (tS (tA s 2 (upd (s.1 2) l (s.1 2 l - s.2.2.1 k 1))) 3 (s.2.2.2.2 3 + s.2.2.1 k 3)) 6 (s.2.2.2.2 6 + 1) := by unfold rServed1; rw [hcl]
    have hV : ∀ i, i < (kDismiss (kServe σ p) p 1).2.1 4 → (vView (rServed s k) (k + 1) p (n - (k + 1) + p)).2.2.1 i = (vRem (vEnd (tS (tS (tA (vView s k p (n - k + p)) 2 (upd ((vView s k p (n - k + p)).1 2) l (s.1 2 l - s.2.2.1 k 1))) 3 (s.2.2.2.2 3 + s.2.2.1 k 3)) 6 (s.2.2.2.2 6 + 1)) p 1) p).2.2.1 i := fun i _ => by
      show (rServed s k).2.2.1 (if i < p then i else k + 1 + (i - p)) = if i < p then (vEnd _ p 1).2.2.1 i else (vEnd _ p 1).2.2.1 (i + 1)
      rw [rServed_O.1]
      have eo : ∀ t : ST, (vEnd t p 1).2.2.1 = t.2.2.1 := fun t => by unfold vEnd; split <;> rfl
      rw [eo]
      show _ = if i < p then s.2.2.1 (if i < p then i else k + (i - p)) else s.2.2.1 (if i + 1 < p then i + 1 else k + (i + 1 - p))
      by_cases c : i < p
      · rw [if_pos c, if_pos c, if_pos c]
      · rw [if_neg c, if_neg c, if_neg (by omega), show k + 1 + (i - p) = k + (i + 1 - p) by omega]
    have hE : (vView (rServed s k) (k + 1) p (n - (k + 1) + p)).1 = (vRem (vEnd (tS (tS (tA (vView s k p (n - k + p)) 2 (upd ((vView s k p (n - k + p)).1 2) l (s.1 2 l - s.2.2.1 k 1))) 3 (s.2.2.2.2 3 + s.2.2.1 k 3)) 6 (s.2.2.2.2 6 + 1)) p 1) p).1 ∧ (vView (rServed s k) (k + 1) p (n - (k + 1) + p)).2.1 = (vRem (vEnd (tS (tS (tA (vView s k p (n - k + p)) 2 (upd ((vView s k p (n - k + p)).1 2) l (s.1 2 l - s.2.2.1 k 1))) 3 (s.2.2.2.2 3 + s.2.2.1 k 3)) 6 (s.2.2.2.2 6 + 1)) p 1) p).2.1 ∧ (vView (rServed s k) (k + 1) p (n - (k + 1) + p)).2.2.2 = (vRem (vEnd (tS (tS (tA (vView s k p (n - k + p)) 2 (upd ((vView s k p (n - k + p)).1 2) l (s.1 2 l - s.2.2.1 k 1))) 3 (s.2.2.2.2 3 + s.2.2.1 k 3)) 6 (s.2.2.2.2 6 + 1)) p 1) p).2.2.2 := by
      have hn : n - (k + 1) + p = n - k + p - 1 := by omega
      unfold rServed vEnd
      rw [eR, show (tS (tS (tA (vView s k p (n - k + p)) 2 (upd ((vView s k p (n - k + p)).1 2) l (s.1 2 l - s.2.2.1 k 1))) 3 (s.2.2.2.2 3 + s.2.2.1 k 3)) 6 (s.2.2.2.2 6 + 1)).2.2.1 p = s.2.2.1 k from R0]
      show _ ∧ _ ∧ _
      by_cases c : s.2.2.1 k 4 = s.2.2.2.2 8
      · rw [if_pos c, if_pos (show s.2.2.1 k 4 = (tS (tS (tA (vView s k p (n - k + p)) 2 (upd ((vView s k p (n - k + p)).1 2) l (s.1 2 l - s.2.2.1 k 1))) 3 (s.2.2.2.2 3 + s.2.2.1 k 3)) 6 (s.2.2.2.2 6 + 1)).2.2.2.2 8 from c), hn]
        refine ⟨rfl, rfl, Prod.ext (funext fun a => ?_) rfl⟩
        show (if a = 1 then n - k + p - 1 else s.2.2.2.1 a) = (if a = 1 then (if (1 : Nat) = 1 then n - k + p else s.2.2.2.1 1) - 1 else if a = 1 then n - k + p else s.2.2.2.1 a)
        by_cases c2 : a = 1
        · rw [if_pos c2, if_pos c2, if_pos rfl]
        · rw [if_neg c2, if_neg c2, if_neg c2]
      · rw [if_neg c, if_neg (show ¬ s.2.2.1 k 4 = (tS (tS (tA (vView s k p (n - k + p)) 2 (upd ((vView s k p (n - k + p)).1 2) l (s.1 2 l - s.2.2.1 k 1))) 3 (s.2.2.2.2 3 + s.2.2.1 k 3)) 6 (s.2.2.2.2 6 + 1)).2.2.2.2 8 from c), hn]
        refine ⟨rfl, rfl, Prod.ext (funext fun a => ?_) rfl⟩
        show (if a = 1 then n - k + p - 1 else s.2.2.2.1 a) = (if a = 1 then (if (1 : Nat) = 1 then n - k + p else s.2.2.2.1 1) - 1 else if a = 1 then n - k + p else s.2.2.2.1 a)
        by_cases c2 : a = 1
        · rw [if_pos c2, if_pos c2, if_pos rfl]
        · rw [if_neg c2, if_neg c2, if_neg c2]
    exact ⟨if_pos rfl, h2.cg hE.1 hE.2.1 hE.2.2 (fun i hi j _ => congrFun (hV i hi) j), w2.cg hE.2.2 (fun i hi => congrFun (hV i hi) 4)⟩
  · have cA2 : ¬ s.2.2.1 k 1 ≤ s.1 2 (s.2.2.1 k 0).toNatClampNeg := by rw [hcl]; exact cA
    have ed2 := e2.trans ed
    by_cases cB : s.2.2.1 k 2 - 1 < 0
    · have hr : rSvS (p, s) k = (p, rLost (rLess s k) k) := rSvS_2 cA2 cB
      have hs7 : σ.2.2 7 = s.2.2.2.2 7 := h.sc 7 (by omega)
      have hl : kLook σ p = (0, kDismiss (uS σ 7 (s.2.2.2.2 7 + 1)) p 0) := by unfold kLook; rw [hK, e1, if_pos (Int32.not_le.mp cA), e2, if_neg (Int32.not_le.mpr cB), hs7]
      have h1 := h.s_ 7 (s.2.2.2.2 7 + 1) (by omega) (by omega)
      have w1 : Wat r (uS σ 7 (s.2.2.2.2 7 + 1)) (tS (vView s k p (n - k + p)) 7 (s.2.2.2.2 7 + 1)) := hw
      have h2 := h1.gone (x := 0) (f := 2) hpc
      have w2 := w1.gone (x := 0) (f := 2) h8 hpc (Or.inr ⟨rfl, rfl⟩)
      rw [hr, hl]
      have eo : ∀ t : ST, (vEnd t p 2).2.2.1 = t.2.2.1 := fun t => by unfold vEnd; split <;> rfl
      have hV : ∀ i, i < (kDismiss (uS σ 7 (s.2.2.2.2 7 + 1)) p 0).2.1 4 → (vView (rLost (rLess s k) k) (k + 1) p (n - (k + 1) + p)).2.2.1 i = (vRem (vEnd (tS (vView s k p (n - k + p)) 7 (s.2.2.2.2 7 + 1)) p 2) p).2.2.1 i := fun i _ => by
        show (rLost (rLess s k) k).2.2.1 (if i < p then i else k + 1 + (i - p)) = if i < p then (vEnd _ p 2).2.2.1 i else (vEnd _ p 2).2.2.1 (i + 1)
        rw [rLost_O.1, eo]
        show (if (if i < p then i else k + 1 + (i - p)) = k then _ else s.2.2.1 (if i < p then i else k + 1 + (i - p))) = if i < p then s.2.2.1 (if i < p then i else k + (i - p)) else s.2.2.1 (if i + 1 < p then i + 1 else k + (i + 1 - p))
        by_cases c : i < p
        · rw [if_pos c, if_pos c, if_neg (by omega), if_pos c]
        · rw [if_neg c, if_neg c, if_neg (by omega), if_neg (by omega), show k + 1 + (i - p) = k + (i + 1 - p) by omega]
      have hE : (vView (rLost (rLess s k) k) (k + 1) p (n - (k + 1) + p)).1 = (vRem (vEnd (tS (vView s k p (n - k + p)) 7 (s.2.2.2.2 7 + 1)) p 2) p).1 ∧ (vView (rLost (rLess s k) k) (k + 1) p (n - (k + 1) + p)).2.1 = (vRem (vEnd (tS (vView s k p (n - k + p)) 7 (s.2.2.2.2 7 + 1)) p 2) p).2.1 ∧ (vView (rLost (rLess s k) k) (k + 1) p (n - (k + 1) + p)).2.2.2 = (vRem (vEnd (tS (vView s k p (n - k + p)) 7 (s.2.2.2.2 7 + 1)) p 2) p).2.2.2 := by
        have hn : n - (k + 1) + p = n - k + p - 1 := by omega
        have eL4 : (rLess s k).2.2.1 k 4 = s.2.2.1 k 4 := by show (if k = k then upd (s.2.2.1 k) 2 _ else _) 4 = _; rw [if_pos rfl, pk_un (by omega)]
        unfold rLost vEnd
        rw [eL4, show (tS (vView s k p (n - k + p)) 7 (s.2.2.2.2 7 + 1)).2.2.1 p = s.2.2.1 k from R0]
        by_cases c : s.2.2.1 k 4 = s.2.2.2.2 8
        · rw [if_pos (show s.2.2.1 k 4 = (rLess s k).2.2.2.2 8 from c), if_pos (show s.2.2.1 k 4 = (tS (vView s k p (n - k + p)) 7 (s.2.2.2.2 7 + 1)).2.2.2.2 8 from c), hn]
          refine ⟨rfl, rfl, Prod.ext (funext fun a => ?_) rfl⟩
          show (if a = 1 then n - k + p - 1 else s.2.2.2.1 a) = (if a = 1 then (if (1 : Nat) = 1 then n - k + p else s.2.2.2.1 1) - 1 else if a = 1 then n - k + p else s.2.2.2.1 a)
          by_cases c2 : a = 1
          · rw [if_pos c2, if_pos c2, if_pos rfl]
          · rw [if_neg c2, if_neg c2, if_neg c2]
        · rw [if_neg (show ¬ s.2.2.1 k 4 = (rLess s k).2.2.2.2 8 from c), if_neg (show ¬ s.2.2.1 k 4 = (tS (vView s k p (n - k + p)) 7 (s.2.2.2.2 7 + 1)).2.2.2.2 8 from c), hn]
          refine ⟨rfl, rfl, Prod.ext (funext fun a => ?_) rfl⟩
          show (if a = 1 then n - k + p - 1 else s.2.2.2.1 a) = (if a = 1 then (if (1 : Nat) = 1 then n - k + p else s.2.2.2.1 1) - 1 else if a = 1 then n - k + p else s.2.2.2.1 a)
          by_cases c2 : a = 1
          · rw [if_pos c2, if_pos c2, if_pos rfl]
          · rw [if_neg c2, if_neg c2, if_neg c2]
      exact ⟨if_pos rfl, h2.cg hE.1 hE.2.1 hE.2.2 (fun i hi j _ => congrFun (hV i hi) j), w2.cg hE.2.2 (fun i hi => congrFun (hV i hi) 4)⟩
    · have hr : rSvS (p, s) k = (p + 1, rCpy (rLess s k) p k 5) := rSvS_3 cA2 cB
      have hl : kLook σ p = (1, uC σ 4 p 4 2 (s.2.2.1 k 2 - 1)) := by unfold kLook; rw [hK, e1, if_pos (Int32.not_le.mp cA), e2, if_pos (Int32.not_lt.mp cB)]
      have hdd : 1 ≤ dd := by
        rcases Nat.eq_zero_or_pos dd with c | c
        · rw [ed, c] at cB
          exact absurd (by decide) cB
        · exact c
      have hx : Nn ((vView s k p (n - k + p)).2.2.1 p 2 - 1) 0 30 := by
        rw [R0, ed]
        exact ⟨dd - 1, by omega, by omega, pk_sub (a := dd) (b := 1) hdd⟩
      have h1 := h.less hpc hx
      rw [R0] at h1
      have wL : ∀ i, (rLess (vView s k p (n - k + p)) p).2.2.1 i 4 = (vView s k p (n - k + p)).2.2.1 i 4 := fun i => by
        show (if i = p then upd _ 2 _ else _) 4 = _
        by_cases c : i = p
        · rw [if_pos c, pk_un (by omega), c]
        · rw [if_neg c]
      have w1 : Wat r (uC σ 4 p 4 2 (s.2.2.1 k 2 - 1)) (rLess (vView s k p (n - k + p)) p) := Wat.cg (τ := vView s k p (n - k + p)) hw rfl (fun i _ => wL i)
      rw [hr, hl]
      have hn : n - (k + 1) + (p + 1) = n - k + p := by omega
      obtain ⟨a1, a2, a3⟩ := rCpy_C (τ := rLess s k) (l := p) (k := k) 5
      have hV : ∀ i, i < σ.2.1 4 → ∀ j, j < 5 → (vView (rCpy (rLess s k) p k 5) (k + 1) (p + 1) (n - (k + 1) + (p + 1))).2.2.1 i j = (rLess (vView s k p (n - k + p)) p).2.2.1 i j := fun i hi j hj => by
        show (rCpy (rLess s k) p k 5).2.2.1 (if i < p + 1 then i else k + 1 + (i - (p + 1))) j = (if i = p then upd ((vView s k p (n - k + p)).2.2.1 p) 2 ((vView s k p (n - k + p)).2.2.1 p 2 - 1) else (vView s k p (n - k + p)).2.2.1 i) j
        rw [R0]
        by_cases c : i = p
        · rw [if_pos c, c, if_pos (by omega), (rCpy_at 5 j).2, if_pos hj]
          show (if k = k then upd (s.2.2.1 k) 2 (s.2.2.1 k 2 - 1) else s.2.2.1 k) j = _
          rw [if_pos rfl]
        · rw [if_neg c]
          show _ = s.2.2.1 (if i < p then i else k + (i - p)) j
          by_cases c2 : i < p
          · rw [if_pos (by omega), if_pos c2, rCpy_ne c]
            show (if i = k then upd (s.2.2.1 k) 2 (s.2.2.1 k 2 - 1) else s.2.2.1 i) j = _
            rw [if_neg (by omega)]
          · rw [if_neg (by omega), if_neg c2, rCpy_ne (by omega)]
            show (if k + 1 + (i - (p + 1)) = k then upd (s.2.2.1 k) 2 (s.2.2.1 k 2 - 1) else s.2.2.1 (k + 1 + (i - (p + 1)))) j = _
            rw [if_neg (by omega), show k + 1 + (i - (p + 1)) = k + (i - p) by omega]
      have e4 : (vView (rCpy (rLess s k) p k 5) (k + 1) (p + 1) (n - (k + 1) + (p + 1))).2.2.2 = (rLess (vView s k p (n - k + p)) p).2.2.2 := by
        rw [hn]
        refine Prod.ext (funext fun a => ?_) ?_
        · show (if a = 1 then _ else (rCpy (rLess s k) p k 5).2.2.2.1 a) = if a = 1 then _ else s.2.2.2.1 a
          rw [a3]; rfl
        · show (rCpy (rLess s k) p k 5).2.2.2.2 = _
          rw [a3]; rfl
      exact ⟨if_neg (show ¬ (1 : Int32) = 0 by decide), h1.cg a1 a2 e4 (fun i hi j hj => hV i hi j (by omega)), w1.cg e4 (fun i hi => hV i hi 4 (by omega))⟩
