/-! the two sides agree: call by call -/
set_option maxRecDepth 4000
def Mw (σ : WS) (τ : ST) : Prop := Wat False σ τ ∧ σ.2.2 8 = -1 ∧ τ.2.2.2.2 8 = -1
theorem kDismiss_8 {σ : WS} {i : Nat} {x : Int32} (h : σ.2.2 8 = -1) (hi : i < 2 ^ 31) : (kDismiss σ i x).2.2 8 = -1 := by
  unfold kDismiss
  rw [h, if_neg (nI_m1 hi), if_neg (fun q => nI_pos (n := i) hi (Int32.lt_trans q (by decide)))]
  exact h
theorem kLook_8 {σ : WS} {i : Nat} (h : σ.2.2 8 = -1) (hi : i < 2 ^ 31) : (kLook σ i).2.2.2 8 = -1 := by
  unfold kLook
  split
  · split
    · exact h
    · exact kDismiss_8 (σ := uS σ 7 (σ.2.2 7 + 1)) h hi
  · refine kDismiss_8 (σ := kServe σ i) ?_ hi
    unfold kServe kAddWhole
    split <;> exact h
theorem kLks_1 {σ : WS} : ∀ n, (kLks σ n).1 ≤ n
  | 0 => Nat.le_refl _
  | n + 1 => by
    show (if _ then (kLks σ n).1 else (kLks σ n).1 + 1) ≤ n + 1
    have h1 := kLks_1 (σ := σ) n
    split
    · exact Nat.le_succ_of_le h1
    · exact Nat.succ_le_succ h1
theorem kLks_8 {σ : WS} (h : σ.2.2 8 = -1) : ∀ n, n < 2 ^ 31 → (kLks σ n).2.2.2 8 = -1
  | 0, _ => h
  | n + 1, hn => kLook_8 (kLks_8 h n (by omega)) (by have := kLks_1 (σ := σ) n; omega)
theorem kWork_8 {σ : WS} {k : Nat} : (kWork σ k).2.2 8 = σ.2.2 8 := by
  unfold kWork
  split
  · rfl
  · split
    · rfl
    · exact kMade_W.2.1
theorem kWorks_8 {σ : WS} : ∀ n, (kWorks σ n).2.2 8 = σ.2.2 8
  | 0 => rfl
  | n + 1 => kWork_8.trans (kWorks_8 n)
theorem kDay_8 {σ : WS} (h : σ.2.2 8 = -1) (hB : WB σ) : (kDay σ).2.2 8 = -1 := by
  show (kDay2 σ).2.2 8 = -1
  have h1 : (kDay1 σ).2.2 8 = -1 := (kWorks_8 _).trans h
  exact kLks_8 h1 _ (by have := (kDay1_B hB).2.2.2.2; omega)
theorem kDays_8 {σ : WS} (h : σ.2.2 8 = -1) (hB : WB σ) : ∀ n, (kDays σ n).2.2 8 = -1
  | 0 => h
  | n + 1 => kDay_8 (kDays_8 h hB n) (kDays_B hB n)
theorem rMake_8 {μ : MS} {τ : ST} {k : Nat} : (rMake μ τ k).2.2.2.2 8 = τ.2.2.2.2 8 := by
  unfold rMake
  split
  · rfl
  · split
    · rfl
    · exact rMade_W.2.1
theorem rMakes_8 {μ : MS} {τ : ST} : ∀ n, (rMakes μ τ n).2.2.2.2 8 = τ.2.2.2.2 8
  | 0 => rfl
  | n + 1 => rMake_8.trans (rMakes_8 n)
theorem rSv_8 {τ : ST} : ∀ n, (rSv τ n).2.2.2.2.2 8 = τ.2.2.2.2 8
  | 0 => rfl
  | n + 1 => by
    refine Eq.trans ?_ (rSv_8 (τ := τ) n)
    show (rSvS (rSv τ n) n).2.2.2.2.2 8 = _
    unfold rSvS
    split
    · unfold rServed; split <;> rfl
    · split
      · unfold rLost; split <;> rfl
      · show (rCpy _ _ _ 5).2.2.2.2 8 = _
        rw [(rCpy_C 5).2.2]; rfl
theorem rPass_8 {μ : MS} {τ : ST} : (rPass μ τ).2.2.2.2 8 = τ.2.2.2.2 8 := by
  show (rSv (rPass2 μ τ) _).2.2.2.2.2 8 = _
  rw [rSv_8]
  unfold rPass2
  rw [(rDr_O 16).2]
  exact rMakes_8 _
theorem rPassN_8 {μ : MS} {τ : ST} : ∀ n, (rPassN μ τ n).2.2.2.2 8 = τ.2.2.2.2 8
  | 0 => rfl
  | n + 1 => rPass_8.trans (rPassN_8 n)
def Agree (D : Nat) (σ : WS) (res : Res) (rr : RR) (code : String → Int32) : Prop := match res with
  | .inl E => rr.1 = code E ∧ ¬ rr.1 = 0 ∧ Sim D σ rr.2.2.1 rr.2.2.2 ∧ Mw σ rr.2.2.2
  | .inr q => rr.1 = 0 ∧ rr.2.1 = q.1 ∧ Sim D q.2 rr.2.2.1 rr.2.2.2 ∧ Mw q.2 rr.2.2.2
theorem Sim.mono {D : Nat} {σ : WS} {μ : MS} {τ : ST} (h : Sim D σ μ τ) {D' : Nat} (hD : D ≤ D') : Sim D' σ μ τ := ⟨h.wb, h.n0, h.n1, h.n2, h.n4, h.ml, h.mt, h.mw, h.mf, h.mb, h.ks, h.ka, h.kb, h.bd, h.bb, h.sg, h.sb, h.dr, h.db, h.st, h.s0, h.od, h.ob, h.sc, h.dy.wk (Nat.le_refl _) hD, h.cl.wk (Nat.le_refl _) (by omega)⟩
theorem Agree.no {D : Nat} {σ : WS} {μ : MS} {τ : ST} {code : String → Int32} (h : Sim D σ μ τ) (w : Mw σ τ) {E : String} {v u : Int32} (hv : v = code E) (hz : ¬ v = 0) : Agree (D + 40) σ (.inl E) (v, u, (μ, τ)) code := ⟨hv, hz, h.mono (by omega), w⟩
theorem Agree.yes {D : Nat} {σ σ' : WS} {μ' : MS} {τ' : ST} {code : String → Int32} {v u : Int32} (h : Sim (D + 40) σ' μ' τ') (w : Mw σ' τ') (e : u = v) : Agree (D + 40) σ (.inr (v, σ')) (0, u, (μ', τ')) code := ⟨rfl, e, h, w⟩
theorem Mw.of {σ σ' : WS} {τ τ' : ST} (h : Mw σ τ) (e1 : σ'.2.1 4 = σ.2.1 4) (e2 : σ'.2.2 8 = σ.2.2 8) (e3 : σ'.2.2 9 = σ.2.2 9) (e4 : τ'.2.2.1 = τ.2.2.1) (e5 : τ'.2.2.2.2 8 = τ.2.2.2.2 8) (e6 : τ'.2.2.2.2 9 = τ.2.2.2.2 9) : Mw σ' τ' := ⟨h.1.of e1 e2 e3 e4 e5 e6, e2.trans h.2.1, e5.trans h.2.2⟩
theorem Sim.addMould {D : Nat} {σ : WS} {μ : MS} {τ : ST} (h : Sim D σ μ τ) {x y : Int32} (hn : σ.2.1 0 < 6) (hx : Nn x 4 24) (hy : Nn y 0 9) : Sim D (kAddMould σ x y) (mC (mA μ 1 (upd (μ.1 1) (σ.2.1 0) x)) 0 (σ.2.1 0 + 1)) (tA τ 0 (upd (τ.1 0) (σ.2.1 0) y)) := by
  have hw := h.wb
  have hF : (kAddMould σ x y).1 0 = upd (upd (upd (σ.1 0) (σ.2.1 0 * 3 + 0) x) (σ.2.1 0 * 3 + 1) y) (σ.2.1 0 * 3 + 2) 0 := rfl
  exact ⟨⟨show σ.2.1 0 + 1 ≤ 6 by omega, hw.2⟩, rfl, h.n1, h.n2, h.n4, fun m hm => by
    have hm : m < σ.2.1 0 + 1 := hm
    show (kAddMould σ x y).1 0 (m * 3 + 0) = upd (μ.1 1) (σ.2.1 0) x m
    rw [hF]
    by_cases e : m = σ.2.1 0
    · rw [e, pk_un (by omega), pk_un (by omega), pk_us, pk_us]
    · rw [pk_un (by omega), pk_un (by omega), pk_un (by omega), pk_un e]; exact h.ml m (by omega), fun m hm => by
    have hm : m < σ.2.1 0 + 1 := hm
    show (kAddMould σ x y).1 0 (m * 3 + 1) = upd (τ.1 0) (σ.2.1 0) y m
    rw [hF]
    by_cases e : m = σ.2.1 0
    · rw [e, pk_un (by omega), pk_us, pk_us]
    · rw [pk_un (by omega), pk_un (by omega), pk_un (by omega), pk_un e]; exact h.mt m (by omega), fun m hm => by
    have hm : m < σ.2.1 0 + 1 := hm
    show (kAddMould σ x y).1 0 (m * 3 + 2) = τ.1 1 m
    rw [hF]
    by_cases e : m = σ.2.1 0
    · rw [e, pk_us]; exact (h.mf _ (Nat.le_refl _) hn).symm
    · rw [pk_un (by omega), pk_un (by omega), pk_un (by omega)]; exact h.mw m (by omega), fun m hm h6 => by
    have hm : σ.2.1 0 + 1 ≤ m := hm
    exact h.mf m (by omega) h6, fun m hm => by
    have hm : m < σ.2.1 0 + 1 := hm
    show Nn (upd (μ.1 1) (σ.2.1 0) x m) 4 24 ∧ Nn (upd (τ.1 0) (σ.2.1 0) y m) 0 9 ∧ Nn (τ.1 1 m) 0 100
    by_cases e : m = σ.2.1 0
    · rw [e, pk_us, pk_us]; exact ⟨hx, hy, ⟨0, by omega, by omega, h.mf _ (Nat.le_refl _) hn⟩⟩
    · rw [pk_un e, pk_un e]; exact h.mb m (by omega), h.ks, h.ka, fun k hk => ⟨(h.kb k hk).1, (h.kb k hk).2.imp id (fun ⟨m, hm, e⟩ => ⟨m, show m < σ.2.1 0 + 1 by omega, e⟩)⟩, h.bd, h.bb, h.sg, h.sb, h.dr, h.db, h.st, h.s0, h.od, h.ob, h.sc, h.dy, h.cl⟩
theorem Sim.addMaker {D : Nat} {σ : WS} {μ : MS} {τ : ST} (h : Sim D σ μ τ) {x : Int32} (hn : σ.2.1 1 < 5) (hx : Nn x 1 9) : Sim D (kAddMaker σ x) (mC (mA (mA μ 2 (upd (μ.1 2) (σ.2.1 1) x)) 3 (upd (μ.1 3) (σ.2.1 1) (-1))) 1 (σ.2.1 1 + 1)) τ := by
  have hw := h.wb
  have hF : (kAddMaker σ x).1 1 = upd (upd (σ.1 1) (σ.2.1 1 * 2 + 0) x) (σ.2.1 1 * 2 + 1) (-1) := rfl
  exact ⟨⟨hw.1, show σ.2.1 1 + 1 ≤ 5 by omega, hw.2.2⟩, h.n0, rfl, h.n2, h.n4, h.ml, h.mt, h.mw, h.mf, h.mb, fun m hm => by
    have hm : m < σ.2.1 1 + 1 := hm
    show (kAddMaker σ x).1 1 (m * 2 + 0) = upd (μ.1 2) (σ.2.1 1) x m
    rw [hF]
    by_cases e : m = σ.2.1 1
    · rw [e, pk_un (by omega), pk_us, pk_us]
    · rw [pk_un (by omega), pk_un (by omega), pk_un e]; exact h.ks m (by omega), fun m hm => by
    have hm : m < σ.2.1 1 + 1 := hm
    show (kAddMaker σ x).1 1 (m * 2 + 1) = upd (μ.1 3) (σ.2.1 1) (-1) m
    rw [hF]
    by_cases e : m = σ.2.1 1
    · rw [e, pk_us, pk_us]
    · rw [pk_un (by omega), pk_un (by omega), pk_un e]; exact h.ka m (by omega), fun m hm => by
    have hm : m < σ.2.1 1 + 1 := hm
    show Nn (upd (μ.1 2) (σ.2.1 1) x m) 1 9 ∧ (upd (μ.1 3) (σ.2.1 1) (-1) m = -1 ∨ ∃ a, a < σ.2.1 0 ∧ upd (μ.1 3) (σ.2.1 1) (-1) m = nI a)
    by_cases e : m = σ.2.1 1
    · rw [e, pk_us, pk_us]; exact ⟨hx, Or.inl rfl⟩
    · rw [pk_un e, pk_un e]; exact h.kb m (by omega), h.bd, h.bb, h.sg, h.sb, h.dr, h.db, h.st, h.s0, h.od, h.ob, h.sc, h.dy, h.cl⟩
theorem Sim.place {D : Nat} {σ : WS} {μ : MS} {τ : ST} (h : Sim D σ μ τ) {k : Nat} {y : Int32} (hk : k < σ.2.1 1) (hy : y = -1 ∨ ∃ m, m < σ.2.1 0 ∧ y = nI m) : Sim D (uC σ 1 k 2 1 y) (mA μ 3 (upd (μ.1 3) k y)) τ := ⟨h.wb, h.n0, h.n1, h.n2, h.n4, h.ml, h.mt, h.mw, h.mf, h.mb, fun m hm => by
    show upd (σ.1 1) (k * 2 + 1) y (m * 2 + 0) = _
    rw [pk_un (by omega)]; exact h.ks m hm, fun m hm => by
    show upd (σ.1 1) (k * 2 + 1) y (m * 2 + 1) = upd (μ.1 3) k y m
    by_cases e : m = k
    · rw [e, pk_us, pk_us]
    · rw [pk_un (by omega), pk_un e]; exact h.ka m hm, fun m hm => by
    show Nn (μ.1 2 m) 1 9 ∧ (upd (μ.1 3) k y m = -1 ∨ ∃ a, a < σ.2.1 0 ∧ upd (μ.1 3) k y m = nI a)
    by_cases e : m = k
    · rw [e, pk_us]; exact ⟨(h.kb k hk).1, hy⟩
    · rw [pk_un e]; exact h.kb m hm, h.bd, h.bb, h.sg, h.sb, h.dr, h.db, h.st, h.s0, h.od, h.ob, h.sc, h.dy, h.cl⟩
theorem Sim.setDry {D : Nat} {σ : WS} {μ : MS} {τ : ST} (h : Sim D σ μ τ) {i : Nat} {y : Int32} (hy : Nn y 0 3) : Sim D (kSetDry σ i y) (mA μ 0 (upd (μ.1 0) i y)) τ := ⟨h.wb, h.n0, h.n1, h.n2, h.n4, h.ml, h.mt, h.mw, h.mf, h.mb, h.ks, h.ka, h.kb, h.bd, h.bb, h.sg, h.sb, fun a ha => by
    show upd (σ.1 5) i y a = upd (μ.1 0) i y a
    by_cases e : a = i
    · rw [e, pk_us, pk_us]
    · rw [pk_un e, pk_un e]; exact h.dr a ha, fun a ha => by
    show Nn (upd (μ.1 0) i y a) 0 3
    by_cases e : a = i
    · rw [e, pk_us]; exact hy
    · rw [pk_un e]; exact h.db a ha, h.st, h.s0, h.od, h.ob, h.sc, h.dy, h.cl⟩
theorem Sim.addOrder {D : Nat} {σ : WS} {μ : MS} {τ : ST} (h : Sim D σ μ τ) {x y u o : Int32} (hn : σ.2.1 4 < 8) (hx : Nn x 4 24) (hu : Nn u 0 30) : Sim D (kAddOrder σ x y u o) μ (tC (tO τ (σ.2.1 4) (va_cpy (rOwn x y u o) (τ.2.2.1 (σ.2.1 4)) 0 0 5)) 1 (σ.2.1 4 + 1)) := by
  have hw := h.wb
  have hR := row4 (f := σ.1 4) (b := σ.2.1 4) (a0 := x) (a1 := y) (a2 := u) (a3 := o)
  have hO : ∀ j, j < 4 → va_cpy (rOwn x y u o) (τ.2.2.1 (σ.2.1 4)) 0 0 5 j = pF (fun _ => 0) x y u o j := fun j hj => by
    rw [cp_at (by omega)]
    match j, hj with
    | 0, _ => rfl
    | 1, _ => rfl
    | 2, _ => rfl
    | 3, _ => rfl
  have hF : (kAddOrder σ x y u o).1 4 = upd (upd (upd (upd (σ.1 4) (σ.2.1 4 * 4 + 0) x) (σ.2.1 4 * 4 + 1) y) (σ.2.1 4 * 4 + 2) u) (σ.2.1 4 * 4 + 3) o := rfl
  exact ⟨⟨hw.1, hw.2.1, hw.2.2.1, hw.2.2.2.1, show σ.2.1 4 + 1 ≤ 8 by omega⟩, h.n0, h.n1, h.n2, rfl, h.ml, h.mt, h.mw, h.mf, h.mb, h.ks, h.ka, h.kb, h.bd, h.bb, h.sg, h.sb, h.dr, h.db, h.st, h.s0, fun k hk j hj => by
    have hk : k < σ.2.1 4 + 1 := hk
    show (kAddOrder σ x y u o).1 4 (k * 4 + j) = (if k = σ.2.1 4 then va_cpy (rOwn x y u o) (τ.2.2.1 (σ.2.1 4)) 0 0 5 else τ.2.2.1 k) j
    rw [hF]
    by_cases e : k = σ.2.1 4
    · rw [if_pos e, e, hR.2 j hj, hO j hj]
    · rw [if_neg e, hR.1 k j hj e]; exact h.od k (by omega) j hj, fun k hk => by
    have hk : k < σ.2.1 4 + 1 := hk
    show Nn ((if k = σ.2.1 4 then va_cpy (rOwn x y u o) (τ.2.2.1 (σ.2.1 4)) 0 0 5 else τ.2.2.1 k) 0) 4 24 ∧ Nn ((if k = σ.2.1 4 then va_cpy (rOwn x y u o) (τ.2.2.1 (σ.2.1 4)) 0 0 5 else τ.2.2.1 k) 2) 0 30
    by_cases e : k = σ.2.1 4
    · rw [if_pos e, hO 0 (by omega), hO 2 (by omega)]; exact ⟨hx, hu⟩
    · rw [if_neg e]; exact h.ob k (by omega), h.sc, h.dy, h.cl⟩
