/-! Works: a day -/
theorem w_sV {d : Nat} {M M' : MD} {z : Option (Nat × (Nat → Int32))} {k n pc i np : Nat} {ls st stk As : List Value} {h h1 : AH} {P : AO → AH → Prop} (hd : decode (mdB M) pc = .ok (.invokestatic i, 3)) (hg : GS (mdY M).cls i M' np) (hct : Ct d M' 0 0 As h (RV h1)) (hA : As.length = np) (hx : noX As = true) (hst : stk = As.reverse ++ st) (ho : okC st = true)
    (kk : WP (d + 1) M z k n (pc + 3) ls st h1 P) : WP (d + 1) M z k n pc ls stk h P :=
  w_s hd hg hct hA hx hst ho (Nat.zero_add k).symm (Nat.zero_add n).symm (fun av h' q => by obtain ⟨q1, rfl⟩ := q; injection q1 with q2; subst q2; exact kk) (fun E h' q => by cases q.1)
def kLay (σ : WS) (m : Nat) (pipes : Int32) : WS := uC (uC (uC (uC (kRow σ 2) 2 (σ.2.1 2) 4 0 (σ.1 0 (m * 3 + 0))) 2 (σ.2.1 2) 4 1 pipes) 2 (σ.2.1 2) 4 2 6) 2 (σ.2.1 2) 4 3 (kFlaw σ m)
def kThen (x y : Int32) : Int32 := if x + y < 100 then x + y else 100
def kWear (σ : WS) (m : Nat) (y : Int32) : WS := if kThen (σ.1 0 (m * 3 + 2)) y / 10 ≤ σ.1 0 (m * 3 + 2) / 10 then uC σ 0 m 3 2 (kThen (σ.1 0 (m * 3 + 2)) y) else uC (uC σ 0 m 3 2 (kThen (σ.1 0 (m * 3 + 2)) y)) 0 m 3 1 (if 0 < (uC σ 0 m 3 2 (kThen (σ.1 0 (m * 3 + 2)) y)).1 0 (m * 3 + 1) - 1 then (uC σ 0 m 3 2 (kThen (σ.1 0 (m * 3 + 2)) y)).1 0 (m * 3 + 1) - 1 else 0)
def kAt (σ : WS) (k : Nat) : Int32 := σ.1 1 (k * 2 + 1)
def kOne (σ : WS) (m : Nat) : Int32 := if 1 < kClay σ m then kClay σ m else 1
def kPipes (σ : WS) (k m : Nat) : Int32 := if σ.2.2 1 / kOne σ m < σ.1 1 (k * 2 + 0) then σ.2.2 1 / kOne σ m else σ.1 1 (k * 2 + 0)
def kMade (σ : WS) (m : Nat) (x : Int32) : WS := kWear (kLay (uS (uS σ 1 (σ.2.2 1 - x * kOne σ m)) 4 (σ.2.2 4 + x)) m x) m ((x + 3) / 4)
def kWork (σ : WS) (k : Nat) : WS := if (kAt σ k < 0 ∨ nI (σ.2.1 0) ≤ kAt σ k) ∨ 40 < (σ.2.1 2 + 1) * 4 then σ else if kPipes σ k (kAt σ k).toNatClampNeg < 1 then σ else kMade σ (kAt σ k).toNatClampNeg (kPipes σ k (kAt σ k).toNatClampNeg)
def tDr (f : Nat → Int32) (y : Int32) : Nat → Nat → Int32
  | 0 => f
  | n + 1 => upd (tDr f y n) (n * 4 + 2) (if 0 < tDr f y n (n * 4 + 2) - y then tDr f y n (n * 4 + 2) - y else 0)
def kDismiss (σ : WS) (i : Nat) (x : Int32) : WS := if nI i = σ.2.2 8 then uS (uS (kRemove σ 4 4 i) 8 (-1)) 9 x else if nI i < σ.2.2 8 then uS (kRemove σ 4 4 i) 8 (σ.2.2 8 - 1) else kRemove σ 4 4 i
def kServe (σ : WS) (i : Nat) : WS := uS (uS (kAddWhole σ (σ.1 4 (i * 4 + 0)) (-σ.1 4 (i * 4 + 1))) 3 ((kAddWhole σ (σ.1 4 (i * 4 + 0)) (-σ.1 4 (i * 4 + 1))).2.2 3 + (kAddWhole σ (σ.1 4 (i * 4 + 0)) (-σ.1 4 (i * 4 + 1))).1 4 (i * 4 + 3))) 6 ((kAddWhole σ (σ.1 4 (i * 4 + 0)) (-σ.1 4 (i * 4 + 1))).2.2 6 + 1)
def kLook (σ : WS) (i : Nat) : Int32 × WS := if kWholeOf σ (σ.1 4 (i * 4 + 0)) < σ.1 4 (i * 4 + 1) then (if 0 ≤ σ.1 4 (i * 4 + 2) - 1 then (1, uC σ 4 i 4 2 (σ.1 4 (i * 4 + 2) - 1)) else (0, kDismiss (uS σ 7 (σ.2.2 7 + 1)) i 0)) else (0, kDismiss (kServe σ i) i 1)
def kLks (σ : WS) : Nat → Nat × WS
  | 0 => (0, σ)
  | n + 1 => (if (kLook (kLks σ n).2 (kLks σ n).1).1 = 0 then (kLks σ n).1 else (kLks σ n).1 + 1, (kLook (kLks σ n).2 (kLks σ n).1).2)
def kWorks (σ : WS) : Nat → WS
  | 0 => σ
  | n + 1 => kWork (kWorks σ n) n
def kDry (σ : WS) (y : Int32) : WS := uA (uA σ 2 (tDr (σ.1 2) y (σ.2.1 2))) 3 (tDr (σ.1 3) y (σ.2.1 3))
def kDay1 (σ : WS) : WS := kDry (kWorks σ (σ.2.1 1)) (kDries (kWorks σ (σ.2.1 1)) (fmSpec ((kWorks σ (σ.2.1 1)).2.2 0) 7))
def kDay2 (σ : WS) : WS := (kLks (kDay1 σ) ((kDay1 σ).2.1 4)).2
def kDay (σ : WS) : WS := uS (kDay2 σ) 0 ((kDay2 σ).2.2 0 + 1)
def kDays (σ : WS) : Nat → WS
  | 0 => σ
  | n + 1 => kDay (kDays σ n)
def kTl : Nat → WS → Nat → Nat × WS
  | 0, σ, n => (n, σ)
  | f + 1, σ, n => if σ.2.2 8 = -1 ∨ 30 < n then (n, σ) else kTl f (kDay σ) (n + 1)
def kTill (σ : WS) (i : Nat) : Nat × WS := kTl 32 (uS σ 8 (nI i)) 0
def kTillV (σ : WS) (i : Nat) : Int32 := if (kTill σ i).2.2.2 9 = 0 then -1 else nI (kTill σ i).1
theorem kOne_ne {σ : WS} {m : Nat} : ¬ kOne σ m = 0 := by
  unfold kOne
  split
  · intro q
    rename_i h1
    rw [q] at h1
    exact absurd h1 (by decide)
  · decide
theorem kLay_R {σ : WS} {m : Nat} {x : Int32} : (kLay σ m x).2.1 = (kRow σ 2).2.1 := rfl
theorem kWear_R {σ : WS} {m : Nat} {x : Int32} : (kWear σ m x).2.1 = σ.2.1 := by unfold kWear; split <;> rfl
theorem WB.row2 {σ : WS} (h : WB σ) (h2 : ¬ 40 < (σ.2.1 2 + 1) * 4) : WB (kRow σ 2) := ⟨h.1, h.2.1, show σ.2.1 2 + 1 ≤ 10 by omega, h.2.2.2⟩
theorem kMade_R {σ : WS} {m : Nat} {x : Int32} : (kMade σ m x).2.1 = (kRow σ 2).2.1 := by unfold kMade; rw [kWear_R, kLay_R]; rfl
theorem kWork_B {σ : WS} {k : Nat} (h : WB σ) : WB (kWork σ k) := by
  unfold kWork
  split
  · exact h
  · rename_i h1
    split
    · exact h
    · exact (h.row2 (fun q => h1 (Or.inr q))).of kMade_R
theorem kWork_R {σ : WS} {k t : Nat} (ht : t ≠ 2) : (kWork σ k).2.1 t = σ.2.1 t := by
  unfold kWork
  split
  · rfl
  · split
    · rfl
    · rw [kMade_R]
      exact if_neg ht
theorem kWorks_B {σ : WS} (h : WB σ) : ∀ n, WB (kWorks σ n)
  | 0 => h
  | n + 1 => kWork_B (kWorks_B h n)
theorem kWorks_R {σ : WS} {t : Nat} (ht : t ≠ 2) : ∀ n, (kWorks σ n).2.1 t = σ.2.1 t
  | 0 => rfl
  | n + 1 => (kWork_R ht).trans (kWorks_R ht n)
theorem WB.rem4 {σ : WS} {w i : Nat} (h : WB σ) : WB (kRemove σ 4 w i) := ⟨h.1, h.2.1, h.2.2.1, h.2.2.2.1, show σ.2.1 4 - 1 ≤ 8 by have := h.2.2.2.2; omega⟩
theorem kDismiss_R {σ : WS} {i : Nat} {x : Int32} : (kDismiss σ i x).2.1 = (kRemove σ 4 4 i).2.1 := by
  unfold kDismiss
  split
  · rfl
  · split <;> rfl
theorem kServe_R {σ : WS} {i : Nat} : (kServe σ i).2.1 = σ.2.1 := by unfold kServe; exact kAddWhole_R
theorem kLook_R {σ : WS} {i : Nat} : (kLook σ i).2.2.1 = if (kLook σ i).1 = 0 then (kRemove σ 4 4 i).2.1 else σ.2.1 := by
  unfold kLook
  split
  · split
    · rfl
    · exact kDismiss_R
  · refine (kDismiss_R).trans ?_
    show (fun a => if a = 4 then (kServe σ i).2.1 4 - 1 else (kServe σ i).2.1 a) = _
    rw [kServe_R]
    rfl
theorem kLook_B {σ : WS} {i : Nat} (h : WB σ) : WB (kLook σ i).2 := by
  have e := kLook_R (σ := σ) (i := i)
  by_cases q : (kLook σ i).1 = 0
  · rw [if_pos q] at e
    exact h.rem4.of e
  · rw [if_neg q] at e
    exact h.of e
theorem kLks_B {σ : WS} (h : WB σ) : ∀ n, WB (kLks σ n).2
  | 0 => h
  | n + 1 => kLook_B (kLks_B h n)
theorem kLks_R4 {σ : WS} : ∀ n, n ≤ σ.2.1 4 → (kLks σ n).2.2.1 4 + n = σ.2.1 4 + (kLks σ n).1
  | 0, _ => rfl
  | n + 1, hn => by
    have ih := kLks_R4 (σ := σ) n (by omega)
    have e : (kLks σ (n + 1)).2.2.1 4 = _ := congrFun (kLook_R (σ := (kLks σ n).2) (i := (kLks σ n).1)) 4
    show (kLook (kLks σ n).2 (kLks σ n).1).2.2.1 4 + (n + 1) = σ.2.1 4 + (if (kLook (kLks σ n).2 (kLks σ n).1).1 = 0 then (kLks σ n).1 else (kLks σ n).1 + 1)
    rw [congrFun (kLook_R (σ := (kLks σ n).2) (i := (kLks σ n).1)) 4]
    by_cases q : (kLook (kLks σ n).2 (kLks σ n).1).1 = 0
    · rw [if_pos q, if_pos q]
      show (kLks σ n).2.2.1 4 - 1 + (n + 1) = _
      omega
    · rw [if_neg q, if_neg q]
      omega
theorem kLks_R {σ : WS} {t : Nat} (ht : t ≠ 4) : ∀ n, (kLks σ n).2.2.1 t = σ.2.1 t
  | 0 => rfl
  | n + 1 => by
    show (kLook (kLks σ n).2 (kLks σ n).1).2.2.1 t = _
    rw [congrFun (kLook_R (σ := (kLks σ n).2) (i := (kLks σ n).1)) t]
    split
    · exact (if_neg ht).trans (kLks_R ht n)
    · exact kLks_R ht n
theorem kDay1_B {σ : WS} (h : WB σ) : WB (kDay1 σ) := (kWorks_B h _).uA.uA
theorem kDay2_B {σ : WS} (h : WB σ) : WB (kDay2 σ) := kLks_B (kDay1_B h) _
theorem kDay_B {σ : WS} (h : WB σ) : WB (kDay σ) := (kDay2_B h).uS
theorem kDays_B {σ : WS} (h : WB σ) : ∀ n, WB (kDays σ n)
  | 0 => h
  | n + 1 => kDay_B (kDays_B h n)
section WORKS4
variable {d b : Nat} {σ : WS} {h : AH}
set_option maxHeartbeats 1000000 in
theorem c_layOnBoards (m : Nat) (x : Int32) (hw : Wk b σ h) (hB : WB σ) (hm : m < σ.2.1 0) (hn : ¬ 40 < (σ.2.1 2 + 1) * 4) : Ct (d + 2) mX1_layOnBoards 0 0 [.ref b, .int (nI m), .int x] h (NT (fun v h1 => v = none ∧ Wk b (kLay σ m x) h1 ∧ Out b 13 h h1)) := by
  refine Ct.of (by decide +kernel) rfl (Nat.le_of_ble_eq_true rfl) ?_
  show WP (d + 2) mX1_layOnBoards none 0 0 0 [.ref b, .int (nI m), .int x, vU] [] h _
  have ho : Out b 13 h h := Out.rf
  refine w_aload_n (pc := 0) (i := 0) dX1_layOnBoards_0 rfl rfl ?_
  refine w_get (pc := 1) dX1_layOnBoards_1 FX1_23 hw.1 rfl ?_
  refine w_vI (pc := 4) dX1_layOnBoards_4 GX1_81 hw.t2.1 (c_addRow hw.t2 hB.b2 (by omega)) rfl rfl rfl rfl ?_
  obtain ⟨s4, hs4⟩ : ∃ z : WS, z = uR σ 2 (σ.2.1 2 + 1) := ⟨_, rfl⟩
  have hw4 : Wk b s4 (h.set (b + 5) (.inr (0, [.ref (b + 6), .int (nI 4), .int (nI (σ.2.1 2 + 1))]))) := by rw [hs4]; exact hw.r2 _
  have ho4 : Out b 13 h (h.set (b + 5) (.inr (0, [.ref (b + 6), .int (nI 4), .int (nI (σ.2.1 2 + 1))]))) := ho.set (by omega) (by omega)
  have hB4 : WB s4 := by rw [hs4]; exact hB.row2 hn
  generalize hh4 : (h.set (b + 5) (.inr (0, [.ref (b + 6), .int (nI 4), .int (nI (σ.2.1 2 + 1))]))) = h4 at hw4 ho4 ⊢
  clear hh4
  refine w_topi (fun x7 e7 => ?_)
  refine w_istore_n (pc := 7) (i := 3) (ls' := [.ref b, .int (nI m), .int x, .int x7]) dX1_layOnBoards_7 rfl (by decide) rfl rfl rfl ?_
  subst e7
  have hlt : σ.2.1 2 < s4.2.1 2 := by rw [hs4]; exact Nat.lt_succ_self _
  refine w_aload_n (pc := 8) (i := 0) dX1_layOnBoards_8 rfl rfl ?_
  refine w_get (pc := 9) dX1_layOnBoards_9 FX1_23 hw4.1 rfl ?_
  refine w_iload_n (pc := 12) (i := 3) dX1_layOnBoards_12 rfl rfl ?_
  refine w_iconst (pc := 13) (v := 0) dX1_layOnBoards_13 (by decide) ?_
  refine w_aload_n (pc := 14) (i := 0) dX1_layOnBoards_14 rfl rfl ?_
  refine w_get (pc := 15) dX1_layOnBoards_15 FX1_14 hw4.1 rfl ?_
  refine w_iload_n (pc := 18) (i := 1) dX1_layOnBoards_18 rfl rfl ?_
  refine w_iconst (pc := 19) (v := 0) dX1_layOnBoards_19 (by decide) ?_
  refine w_vI (pc := 20) dX1_layOnBoards_20 GX1_96 hw4.t0.1 (c_at m 0 hw4.t0 hB4.b0 (by rw [hs4]; exact hm) (by omega)) rfl rfl rfl rfl ?_
  rw [show s4.1 0 (m * 3 + 0) = σ.1 0 (m * 3 + 0) from by rw [hs4]; rfl]
  refine w_vV (pc := 23) dX1_layOnBoards_23 GX1_85 hw4.t2.1 (c_put (σ.2.1 2) 0 (σ.1 0 (m * 3 + 0)) hw4.t2 hB4.b2 hlt (by omega)) rfl rfl rfl rfl ?_
  obtain ⟨s23, hs23⟩ : ∃ z : WS, z = uA s4 2 (upd (s4.1 2) ((σ.2.1 2) * 4 + 0) (σ.1 0 (m * 3 + 0))) := ⟨_, rfl⟩
  have hw23 : Wk b s23 (h4.set (b + 6) (.inl (40, .inl (upd (s4.1 2) ((σ.2.1 2) * 4 + 0) (σ.1 0 (m * 3 + 0)))))) := by rw [hs23]; exact hw4.c2 _
  have ho23 : Out b 13 h (h4.set (b + 6) (.inl (40, .inl (upd (s4.1 2) ((σ.2.1 2) * 4 + 0) (σ.1 0 (m * 3 + 0)))))) := ho4.set (by omega) (by omega)
  have hB23 : WB s23 := by rw [hs23]; exact hB4.uA
  generalize hh23 : (h4.set (b + 6) (.inl (40, .inl (upd (s4.1 2) ((σ.2.1 2) * 4 + 0) (σ.1 0 (m * 3 + 0)))))) = h23 at hw23 ho23 ⊢
  clear hh23
  refine w_aload_n (pc := 26) (i := 0) dX1_layOnBoards_26 rfl rfl ?_
  refine w_get (pc := 27) dX1_layOnBoards_27 FX1_23 hw23.1 rfl ?_
  refine w_iload_n (pc := 30) (i := 3) dX1_layOnBoards_30 rfl rfl ?_
  refine w_iconst (pc := 31) (v := 1) dX1_layOnBoards_31 (by decide) ?_
  refine w_iload_n (pc := 32) (i := 2) dX1_layOnBoards_32 rfl rfl ?_
  refine w_vV (pc := 33) dX1_layOnBoards_33 GX1_85 hw23.t2.1 (c_put (σ.2.1 2) 1 x hw23.t2 hB23.b2 (by rw [hs23]; exact hlt) (by omega)) rfl rfl rfl rfl ?_
  obtain ⟨s33, hs33⟩ : ∃ z : WS, z = uA s23 2 (upd (s23.1 2) ((σ.2.1 2) * 4 + 1) x) := ⟨_, rfl⟩
  have hw33 : Wk b s33 (h23.set (b + 6) (.inl (40, .inl (upd (s23.1 2) ((σ.2.1 2) * 4 + 1) x)))) := by rw [hs33]; exact hw23.c2 _
  have ho33 : Out b 13 h (h23.set (b + 6) (.inl (40, .inl (upd (s23.1 2) ((σ.2.1 2) * 4 + 1) x)))) := ho23.set (by omega) (by omega)
  have hB33 : WB s33 := by rw [hs33]; exact hB23.uA
  generalize hh33 : (h23.set (b + 6) (.inl (40, .inl (upd (s23.1 2) ((σ.2.1 2) * 4 + 1) x)))) = h33 at hw33 ho33 ⊢
  clear hh33
  refine w_aload_n (pc := 36) (i := 0) dX1_layOnBoards_36 rfl rfl ?_
  refine w_get (pc := 37) dX1_layOnBoards_37 FX1_23 hw33.1 rfl ?_
  refine w_iload_n (pc := 40) (i := 3) dX1_layOnBoards_40 rfl rfl ?_
  refine w_iconst (pc := 41) (v := 2) dX1_layOnBoards_41 (by decide) ?_
  refine w_bipush (pc := 42) (v := 6) dX1_layOnBoards_42 (by decide) ?_
  refine w_vV (pc := 44) dX1_layOnBoards_44 GX1_85 hw33.t2.1 (c_put (σ.2.1 2) 2 6 hw33.t2 hB33.b2 (by rw [hs33, hs23]; exact hlt) (by omega)) rfl rfl rfl rfl ?_
  obtain ⟨s44, hs44⟩ : ∃ z : WS, z = uA s33 2 (upd (s33.1 2) ((σ.2.1 2) * 4 + 2) 6) := ⟨_, rfl⟩
  have hw44 : Wk b s44 (h33.set (b + 6) (.inl (40, .inl (upd (s33.1 2) ((σ.2.1 2) * 4 + 2) 6)))) := by rw [hs44]; exact hw33.c2 _
  have ho44 : Out b 13 h (h33.set (b + 6) (.inl (40, .inl (upd (s33.1 2) ((σ.2.1 2) * 4 + 2) 6)))) := ho33.set (by omega) (by omega)
  have hB44 : WB s44 := by rw [hs44]; exact hB33.uA
  generalize hh44 : (h33.set (b + 6) (.inl (40, .inl (upd (s33.1 2) ((σ.2.1 2) * 4 + 2) 6)))) = h44 at hw44 ho44 ⊢
  clear hh44
  refine w_aload_n (pc := 47) (i := 0) dX1_layOnBoards_47 rfl rfl ?_
  refine w_get (pc := 48) dX1_layOnBoards_48 FX1_23 hw44.1 rfl ?_
  refine w_iload_n (pc := 51) (i := 3) dX1_layOnBoards_51 rfl rfl ?_
  refine w_iconst (pc := 52) (v := 3) dX1_layOnBoards_52 (by decide) ?_
  refine w_aload_n (pc := 53) (i := 0) dX1_layOnBoards_53 rfl rfl ?_
  refine w_iload_n (pc := 54) (i := 1) dX1_layOnBoards_54 rfl rfl ?_
  refine w_vI (pc := 55) dX1_layOnBoards_55 GX1_103 hw44.1 (c_flawOf m hw44 hB44 (by rw [hs44, hs33, hs23, hs4]; exact hm)) rfl rfl rfl rfl ?_
  rw [show kFlaw s44 m = kFlaw σ m from by rw [hs44, hs33, hs23, hs4]; rfl]
  refine w_vV (pc := 58) dX1_layOnBoards_58 GX1_85 hw44.t2.1 (c_put (σ.2.1 2) 3 (kFlaw σ m) hw44.t2 hB44.b2 (by rw [hs44, hs33, hs23]; exact hlt) (by omega)) rfl rfl rfl rfl ?_
  obtain ⟨s58, hs58⟩ : ∃ z : WS, z = uA s44 2 (upd (s44.1 2) ((σ.2.1 2) * 4 + 3) (kFlaw σ m)) := ⟨_, rfl⟩
  have hw58 : Wk b s58 (h44.set (b + 6) (.inl (40, .inl (upd (s44.1 2) ((σ.2.1 2) * 4 + 3) (kFlaw σ m))))) := by rw [hs58]; exact hw44.c2 _
  have ho58 : Out b 13 h (h44.set (b + 6) (.inl (40, .inl (upd (s44.1 2) ((σ.2.1 2) * 4 + 3) (kFlaw σ m))))) := ho44.set (by omega) (by omega)
  have hB58 : WB s58 := by rw [hs58]; exact hB44.uA
  generalize hh58 : (h44.set (b + 6) (.inl (40, .inl (upd (s44.1 2) ((σ.2.1 2) * 4 + 3) (kFlaw σ m))))) = h58 at hw58 ho58 ⊢
  clear hh58
  subst hs4 hs23 hs33 hs44 hs58
  exact w_return (pc := 61) dX1_layOnBoards_61 rfl ⟨none, rfl, rfl, hw58, ho58⟩
set_option maxHeartbeats 1000000 in
theorem c_wearMould (m : Nat) (y : Int32) (hw : Wk b σ h) (hB : WB σ) (hm : m < σ.2.1 0) : Ct (d + 2) mX1_wearMould 0 0 [.ref b, .int (nI m), .int y] h (NT (fun v h1 => v = none ∧ Wk b (kWear σ m y) h1 ∧ Out b 13 h h1)) := by
  refine Ct.of (by decide +kernel) rfl (Nat.le_of_ble_eq_true rfl) ?_
  show WP (d + 2) mX1_wearMould none 0 0 0 [.ref b, .int (nI m), .int y, vU, vU] [] h _
  have ho : Out b 13 h h := Out.rf
  refine w_aload_n (pc := 0) (i := 0) dX1_wearMould_0 rfl rfl ?_
  refine w_get (pc := 1) dX1_wearMould_1 FX1_14 hw.1 rfl ?_
  refine w_iload_n (pc := 4) (i := 1) dX1_wearMould_4 rfl rfl ?_
  refine w_iconst (pc := 5) (v := 2) dX1_wearMould_5 (by decide) ?_
  refine w_vI (pc := 6) dX1_wearMould_6 GX1_96 hw.t0.1 (c_at m 2 hw.t0 hB.b0 hm (by omega)) rfl rfl rfl rfl ?_
  refine w_topi (fun x9 e9 => ?_)
  refine w_istore_n (pc := 9) (i := 3) (ls' := [.ref b, .int (nI m), .int y, .int x9, vU]) dX1_wearMould_9 rfl (by decide) rfl rfl rfl ?_
  subst e9
  refine w_bipush (pc := 10) (v := 100) dX1_wearMould_10 (by decide) ?_
  refine w_iload_n (pc := 12) (i := 3) dX1_wearMould_12 rfl rfl ?_
  refine w_iload_n (pc := 13) (i := 2) dX1_wearMould_13 rfl rfl ?_
  refine w_iadd (pc := 14) dX1_wearMould_14 ?_
  refine w_min (pc := 15) dX1_wearMould_15 LX1_124 (by omega) rfl (Nat.le_of_ble_eq_true rfl) ?_
  refine w_topi (fun x18 e18 => ?_)
  refine w_istore (pc := 18) (i := 4) (ls' := [.ref b, .int (nI m), .int y, .int (σ.1 0 (m * 3 + 2)), .int x18]) dX1_wearMould_18 (by decide) rfl rfl rfl ?_
  have e18 : x18 = kThen (σ.1 0 (m * 3 + 2)) y := e18
  subst e18
  refine w_aload_n (pc := 20) (i := 0) dX1_wearMould_20 rfl rfl ?_
  refine w_get (pc := 21) dX1_wearMould_21 FX1_14 hw.1 rfl ?_
  refine w_iload_n (pc := 24) (i := 1) dX1_wearMould_24 rfl rfl ?_
  refine w_iconst (pc := 25) (v := 2) dX1_wearMould_25 (by decide) ?_
  refine w_iload (pc := 26) (i := 4) dX1_wearMould_26 rfl ?_
  refine w_vV (pc := 28) dX1_wearMould_28 GX1_85 hw.t0.1 (c_put m 2 (kThen (σ.1 0 (m * 3 + 2)) y) hw.t0 hB.b0 hm (by omega)) rfl rfl rfl rfl ?_
  obtain ⟨s28, hs28⟩ : ∃ z : WS, z = uA σ 0 (upd (σ.1 0) (m * 3 + 2) (kThen (σ.1 0 (m * 3 + 2)) y)) := ⟨_, rfl⟩
  have hw28 : Wk b s28 (h.set (b + 2) (.inl (18, .inl (upd (σ.1 0) (m * 3 + 2) (kThen (σ.1 0 (m * 3 + 2)) y))))) := by rw [hs28]; exact hw.c0 _
  have ho28 : Out b 13 h (h.set (b + 2) (.inl (18, .inl (upd (σ.1 0) (m * 3 + 2) (kThen (σ.1 0 (m * 3 + 2)) y))))) := ho.set (by omega) (by omega)
  have hB28 : WB s28 := by rw [hs28]; exact hB.uA
  generalize hh28 : (h.set (b + 2) (.inl (18, .inl (upd (σ.1 0) (m * 3 + 2) (kThen (σ.1 0 (m * 3 + 2)) y))))) = h28 at hw28 ho28 ⊢
  clear hh28
  refine w_iload (pc := 31) (i := 4) dX1_wearMould_31 rfl ?_
  refine w_bipush (pc := 33) (v := 10) dX1_wearMould_33 (by decide) ?_
  refine w_idiv (pc := 35) dX1_wearMould_35 (by decide) ?_
  refine w_iload_n (pc := 36) (i := 3) dX1_wearMould_36 rfl rfl ?_
  refine w_bipush (pc := 37) (v := 10) dX1_wearMould_37 (by decide) ?_
  refine w_idiv (pc := 39) dX1_wearMould_39 (by decide) ?_
  refine w_icmp_le (pc := 40) (tgt := 67) dX1_wearMould_40 (by decide) (fun c40 => ?_) (fun c40 => ?_)
  · subst hs28
    exact w_return (pc := 67) dX1_wearMould_67 rfl ⟨none, rfl, rfl, by unfold kWear; rw [if_pos c40]; exact hw28, ho28⟩
  · refine w_aload_n (pc := 43) (i := 0) dX1_wearMould_43 rfl rfl ?_
    refine w_get (pc := 44) dX1_wearMould_44 FX1_14 hw28.1 rfl ?_
    refine w_iload_n (pc := 47) (i := 1) dX1_wearMould_47 rfl rfl ?_
    refine w_iconst (pc := 48) (v := 1) dX1_wearMould_48 (by decide) ?_
    refine w_iconst (pc := 49) (v := 0) dX1_wearMould_49 (by decide) ?_
    refine w_aload_n (pc := 50) (i := 0) dX1_wearMould_50 rfl rfl ?_
    refine w_get (pc := 51) dX1_wearMould_51 FX1_14 hw28.1 rfl ?_
    refine w_iload_n (pc := 54) (i := 1) dX1_wearMould_54 rfl rfl ?_
    refine w_iconst (pc := 55) (v := 1) dX1_wearMould_55 (by decide) ?_
    refine w_vI (pc := 56) dX1_wearMould_56 GX1_96 hw28.t0.1 (c_at m 1 hw28.t0 hB28.b0 (by rw [hs28]; exact hm) (by omega)) rfl rfl rfl rfl ?_
    refine w_iconst (pc := 59) (v := 1) dX1_wearMould_59 (by decide) ?_
    refine w_isub (pc := 60) dX1_wearMould_60 ?_
    refine w_max (pc := 61) dX1_wearMould_61 LX1_167 (by omega) rfl (Nat.le_of_ble_eq_true rfl) ?_
    refine w_vV (pc := 64) dX1_wearMould_64 GX1_85 hw28.t0.1 (c_put m 1 (if 0 < s28.1 0 (m * 3 + 1) - 1 then s28.1 0 (m * 3 + 1) - 1 else 0) hw28.t0 hB28.b0 (by rw [hs28]; exact hm) (by omega)) rfl rfl rfl rfl ?_
    obtain ⟨s64, hs64⟩ : ∃ z : WS, z = uA s28 0 (upd (s28.1 0) (m * 3 + 1) (if 0 < s28.1 0 (m * 3 + 1) - 1 then s28.1 0 (m * 3 + 1) - 1 else 0)) := ⟨_, rfl⟩
    have hw64 : Wk b s64 (h28.set (b + 2) (.inl (18, .inl (upd (s28.1 0) (m * 3 + 1) (if 0 < s28.1 0 (m * 3 + 1) - 1 then s28.1 0 (m * 3 + 1) - 1 else 0))))) := by rw [hs64]; exact hw28.c0 _
    have ho64 : Out b 13 h (h28.set (b + 2) (.inl (18, .inl (upd (s28.1 0) (m * 3 + 1) (if 0 < s28.1 0 (m * 3 + 1) - 1 then s28.1 0 (m * 3 + 1) - 1 else 0))))) := ho28.set (by omega) (by omega)
    have hB64 : WB s64 := by rw [hs64]; exact hB28.uA
    generalize hh64 : (h28.set (b + 2) (.inl (18, .inl (upd (s28.1 0) (m * 3 + 1) (if 0 < s28.1 0 (m * 3 + 1) - 1 then s28.1 0 (m * 3 + 1) - 1 else 0))))) = h64 at hw64 ho64 ⊢
    clear hh64
    subst hs28 hs64
    exact w_return (pc := 67) dX1_wearMould_67 rfl ⟨none, rfl, rfl, by unfold kWear; rw [if_neg c40]; exact hw64, ho64⟩
set_option maxHeartbeats 1000000 in
theorem c_letWork (k : Nat) (hw : Wk b σ h) (hB : WB σ) (hk : k < σ.2.1 1) : Ct (d + 3) mX1_letWork 0 0 [.ref b, .int (nI k)] h (NT (fun v h1 => v = none ∧ Wk b (kWork σ k) h1 ∧ Out b 13 h h1)) := by
  refine Ct.of (by decide +kernel) rfl (Nat.le_of_ble_eq_true rfl) ?_
  show WP (d + 3) mX1_letWork none 0 0 0 [.ref b, .int (nI k), vU, vU, vU] [] h _
  have ho : Out b 13 h h := Out.rf
  refine w_aload_n (pc := 0) (i := 0) dX1_letWork_0 rfl rfl ?_
  refine w_get (pc := 1) dX1_letWork_1 FX1_20 hw.1 rfl ?_
  refine w_iload_n (pc := 4) (i := 1) dX1_letWork_4 rfl rfl ?_
  refine w_iconst (pc := 5) (v := 1) dX1_letWork_5 (by decide) ?_
  refine w_vI (pc := 6) dX1_letWork_6 GX1_96 hw.t1.1 (c_at k 1 hw.t1 hB.b1 hk (by omega)) rfl rfl rfl rfl ?_
  refine w_topi (fun x9 e9 => ?_)
  refine w_istore_n (pc := 9) (i := 2) (ls' := [.ref b, .int (nI k), .int x9, vU, vU]) dX1_letWork_9 rfl (by decide) rfl rfl rfl ?_
  have e9 : x9 = kAt σ k := e9
  subst e9
  refine w_aload_n (pc := 10) (i := 0) dX1_letWork_10 rfl rfl ?_
  refine w_get (pc := 11) dX1_letWork_11 FX1_14 hw.1 rfl ?_
  refine w_iload_n (pc := 14) (i := 2) dX1_letWork_14 rfl rfl ?_
  refine w_vI (pc := 15) dX1_letWork_15 GX1_159 hw.t0.1 (c_hasRow (kAt σ k) hw.t0) rfl rfl rfl rfl ?_
  by_cases hm : kAt σ k < 0 ∨ nI (σ.2.1 0) ≤ kAt σ k
  · rw [if_pos hm]
    refine w_if_eq (pc := 18) (tgt := 31) dX1_letWork_18 (by decide) (fun c18 => ?_) (fun c18 => absurd rfl c18)
    exact w_return (pc := 31) dX1_letWork_31 rfl ⟨none, rfl, rfl, by unfold kWork; rw [if_pos (Or.inl hm)]; exact hw, ho⟩
  rw [if_neg hm]
  refine w_if_eq (pc := 18) (tgt := 31) dX1_letWork_18 (by decide) (fun c18 => absurd c18 (by decide)) (fun c18 => ?_)
  refine w_aload_n (pc := 21) (i := 0) dX1_letWork_21 rfl rfl ?_
  refine w_get (pc := 22) dX1_letWork_22 FX1_23 hw.1 rfl ?_
  refine w_vI (pc := 25) dX1_letWork_25 GX1_163 hw.t2.1 (c_isFull hw.t2 hB.b2) rfl rfl rfl rfl ?_
  by_cases hf : 40 < (σ.2.1 2 + 1) * 4
  · rw [if_pos hf]
    refine w_if_eq (pc := 28) (tgt := 32) dX1_letWork_28 (by decide) (fun c28 => absurd c28 (by decide)) (fun c28 => ?_)
    exact w_return (pc := 31) dX1_letWork_31 rfl ⟨none, rfl, rfl, by unfold kWork; rw [if_pos (Or.inr hf)]; exact hw, ho⟩
  rw [if_neg hf]
  refine w_if_eq (pc := 28) (tgt := 32) dX1_letWork_28 (by decide) (fun c28 => ?_) (fun c28 => absurd rfl c28)
  obtain ⟨m, hm1, hm2⟩ : ∃ m : Nat, m < σ.2.1 0 ∧ kAt σ k = nI m := by
    rcases pk_ix (kAt σ k) (show σ.2.1 0 < 2 ^ 31 by have := hB.1; omega) with q | q | q
    · exact absurd (Or.inl q) hm
    · exact absurd (Or.inr q) hm
    · exact q
  have hmn : (kAt σ k).toNatClampNeg = m := by rw [hm2]; exact nI_clamp (by have := hB.1; omega)
  rw [hm2]
  refine w_iconst (pc := 32) (v := 1) dX1_letWork_32 (by decide) ?_
  refine w_aload_n (pc := 33) (i := 0) dX1_letWork_33 rfl rfl ?_
  refine w_iload_n (pc := 34) (i := 2) dX1_letWork_34 rfl rfl ?_
  refine w_vI (pc := 35) dX1_letWork_35 GX1_106 hw.1 (c_clayOf m hw hB hm1) rfl rfl rfl rfl ?_
  refine w_max (pc := 38) dX1_letWork_38 LX1_167 (by omega) rfl (Nat.le_of_ble_eq_true rfl) ?_
  refine w_topi (fun x41 e41 => ?_)
  refine w_istore_n (pc := 41) (i := 3) (ls' := [.ref b, .int (nI k), .int (nI m), .int x41, vU]) dX1_letWork_41 rfl (by decide) rfl rfl rfl ?_
  have e41 : x41 = kOne σ m := e41
  subst e41
  refine w_aload_n (pc := 42) (i := 0) dX1_letWork_42 rfl rfl ?_
  refine w_get (pc := 43) dX1_letWork_43 FX1_20 hw.1 rfl ?_
  refine w_iload_n (pc := 46) (i := 1) dX1_letWork_46 rfl rfl ?_
  refine w_iconst (pc := 47) (v := 0) dX1_letWork_47 (by decide) ?_
  refine w_vI (pc := 48) dX1_letWork_48 GX1_96 hw.t1.1 (c_at k 0 hw.t1 hB.b1 hk (by omega)) rfl rfl rfl rfl ?_
  refine w_aload_n (pc := 51) (i := 0) dX1_letWork_51 rfl rfl ?_
  refine w_get (pc := 52) dX1_letWork_52 FX1_39 hw.1 rfl ?_
  refine w_iload_n (pc := 55) (i := 3) dX1_letWork_55 rfl rfl ?_
  refine w_idiv (pc := 56) dX1_letWork_56 kOne_ne ?_
  refine w_min (pc := 57) dX1_letWork_57 LX1_124 (by omega) rfl (Nat.le_of_ble_eq_true rfl) ?_
  refine w_topi (fun x60 e60 => ?_)
  refine w_istore (pc := 60) (i := 4) (ls' := [.ref b, .int (nI k), .int (nI m), .int (kOne σ m), .int x60]) dX1_letWork_60 (by decide) rfl rfl rfl ?_
  have e60 : x60 = kPipes σ k m := e60
  subst e60
  refine w_iload (pc := 62) (i := 4) dX1_letWork_62 rfl ?_
  refine w_iconst (pc := 64) (v := 1) dX1_letWork_64 (by decide) ?_
  refine w_icmp_ge (pc := 65) (tgt := 69) dX1_letWork_65 (by decide) (fun c65 => ?_) (fun c65 => ?_)
  · obtain ⟨x, ex⟩ : ∃ x, x = kPipes σ k m := ⟨_, rfl⟩
    rw [← ex]
    refine w_aload_n (pc := 69) (i := 0) dX1_letWork_69 rfl rfl ?_
    refine w_dup (pc := 70) dX1_letWork_70 rfl ?_
    refine w_get (pc := 71) dX1_letWork_71 FX1_39 hw.1 rfl ?_
    refine w_iload (pc := 74) (i := 4) dX1_letWork_74 rfl ?_
    refine w_iload_n (pc := 76) (i := 3) dX1_letWork_76 rfl rfl ?_
    refine w_imul (pc := 77) dX1_letWork_77 ?_
    refine w_isub (pc := 78) dX1_letWork_78 ?_
    refine w_put (pc := 79) dX1_letWork_79 UX1_39 hw.1 (Nat.le_of_ble_eq_true rfl) nv_i (fun _ q => by cases q) ?_
    obtain ⟨s79, hs79⟩ : ∃ z : WS, z = uS σ 1 (σ.2.2 1 - x * kOne σ m) := ⟨_, rfl⟩
    have hw79 : Wk b s79 (h.set b (.inr (1, (wkF b σ).set 8 (.int (σ.2.2 1 - x * kOne σ m))))) := by rw [hs79]; exact hw.s1 _
    have ho79 : Out b 13 h (h.set b (.inr (1, (wkF b σ).set 8 (.int (σ.2.2 1 - x * kOne σ m))))) := ho.set (by omega) (by omega)
    have hB79 : WB s79 := by rw [hs79]; exact hB.uS
    generalize hh79 : (h.set b (.inr (1, (wkF b σ).set 8 (.int (σ.2.2 1 - x * kOne σ m))))) = h79 at hw79 ho79 ⊢
    clear hh79
    refine w_aload_n (pc := 82) (i := 0) dX1_letWork_82 rfl rfl ?_
    refine w_dup (pc := 83) dX1_letWork_83 rfl ?_
    refine w_get (pc := 84) dX1_letWork_84 FX1_65 hw79.1 rfl ?_
    refine w_iload (pc := 87) (i := 4) dX1_letWork_87 rfl ?_
    refine w_iadd (pc := 89) dX1_letWork_89 ?_
    rw [show s79.2.2 4 = σ.2.2 4 from by rw [hs79]; rfl]
    refine w_put (pc := 90) dX1_letWork_90 UX1_65 hw79.1 (Nat.le_of_ble_eq_true rfl) nv_i (fun _ q => by cases q) ?_
    obtain ⟨s90, hs90⟩ : ∃ z : WS, z = uS s79 4 (σ.2.2 4 + x) := ⟨_, rfl⟩
    have hw90 : Wk b s90 (h79.set b (.inr (1, (wkF b s79).set 11 (.int (σ.2.2 4 + x))))) := by rw [hs90]; exact hw79.s4 _
    have ho90 : Out b 13 h (h79.set b (.inr (1, (wkF b s79).set 11 (.int (σ.2.2 4 + x))))) := ho79.set (by omega) (by omega)
    have hB90 : WB s90 := by rw [hs90]; exact hB79.uS
    generalize hh90 : (h79.set b (.inr (1, (wkF b s79).set 11 (.int (σ.2.2 4 + x))))) = h90 at hw90 ho90 ⊢
    clear hh90
    refine w_aload_n (pc := 93) (i := 0) dX1_letWork_93 rfl rfl ?_
    refine w_iload_n (pc := 94) (i := 2) dX1_letWork_94 rfl rfl ?_
    refine w_iload (pc := 95) (i := 4) dX1_letWork_95 rfl ?_
    refine w_vQ (pc := 97) dX1_letWork_97 GX1_170 hw90.1 (c_layOnBoards m x hw90 hB90 (by rw [hs90, hs79]; exact hm1) (by rw [hs90, hs79]; exact hf)) rfl rfl rfl rfl ?_
    rintro v97 h97 ⟨rfl, hw97, hq97⟩
    have ho97 := ho90.tr hq97
    obtain ⟨s97, hs97⟩ : ∃ z : WS, z = kLay s90 m x := ⟨_, rfl⟩
    rw [← hs97] at hw97
    have hB97 : WB s97 := by rw [hs97]; exact (hB90.row2 (by rw [hs90, hs79]; exact hf)).of kLay_R
    refine w_aload_n (pc := 100) (i := 0) dX1_letWork_100 rfl rfl ?_
    refine w_iload_n (pc := 101) (i := 2) dX1_letWork_101 rfl rfl ?_
    refine w_iload (pc := 102) (i := 4) dX1_letWork_102 rfl ?_
    refine w_iconst (pc := 104) (v := 3) dX1_letWork_104 (by decide) ?_
    refine w_iadd (pc := 105) dX1_letWork_105 ?_
    refine w_iconst (pc := 106) (v := 4) dX1_letWork_106 (by decide) ?_
    refine w_idiv (pc := 107) dX1_letWork_107 (by decide) ?_
    refine w_vQ (pc := 108) dX1_letWork_108 GX1_173 hw97.1 (c_wearMould m ((x + 3) / 4) hw97 hB97 (by rw [hs97, hs90, hs79]; exact hm1)) rfl rfl rfl rfl ?_
    rintro v108 h108 ⟨rfl, hw108, hq108⟩
    have ho108 := ho97.tr hq108
    obtain ⟨s108, hs108⟩ : ∃ z : WS, z = kWear s97 m ((x + 3) / 4) := ⟨_, rfl⟩
    rw [← hs108] at hw108
    have hB108 : WB s108 := by rw [hs108]; exact hB97.of kWear_R
    subst hs79 hs90 hs97 hs108
    exact w_return (pc := 111) dX1_letWork_111 rfl ⟨none, rfl, rfl, by unfold kWork; rw [if_neg (fun q => q.elim hm hf), hmn, if_neg (Int32.not_lt.mpr c65), ← ex]; exact hw108, ho108⟩
  · exact w_return (pc := 68) dX1_letWork_68 rfl ⟨none, rfl, rfl, by unfold kWork; rw [if_neg (fun q => q.elim hm hf), hmn, if_pos (Int32.not_le.mp c65)]; exact hw, ho⟩
set_option maxHeartbeats 1000000 in
theorem c_dry_loop {tb c N rows : Nat} {f : Nat → Int32} (y : Int32) (hT0 : TbO tb c N 4 rows f h) (hne : c ≠ tb) (hB : TbB N 4 rows) : ∀ (m k : Nat), k + m = rows → WP (d + 1) mX1_dry none 0 0 2 [.ref tb, .int y, .int (nI k)] [] (h.set c (.inl (N, .inl (tDr f y k)))) (RV (h.set c (.inl (N, .inl (tDr f y rows))))) := by
  have hr := hB.rows
  intro m
  induction m with
  | zero =>
    intro k hk
    have hk : k = rows := by omega
    subst hk
    have hT : TbO tb c N 4 k (tDr f y k) (h.set c (.inl (N, .inl (tDr f y k)))) := ⟨by rw [gsn hne]; exact hT0.1, gss hT0.2⟩
    refine w_iload_n (pc := 2) (i := 2) dX1_dry_2 rfl rfl ?_
    refine w_aload_n (pc := 3) (i := 0) dX1_dry_3 rfl rfl ?_
    refine w_vI (pc := 4) dX1_dry_4 GX1_89 hT.1 (c_size hT) rfl rfl rfl rfl ?_
    refine w_icmp_ge (pc := 7) (tgt := 34) dX1_dry_7 (by decide) (fun c7 => ?_) (fun c7 => absurd (nI_le (Nat.le_refl _) (by omega)) c7)
    exact w_return (pc := 34) dX1_dry_34 rfl ⟨rfl, rfl⟩
  | succ m ih =>
    intro k hk
    have hT : TbO tb c N 4 rows (tDr f y k) (h.set c (.inl (N, .inl (tDr f y k)))) := ⟨by rw [gsn hne]; exact hT0.1, gss hT0.2⟩
    refine w_iload_n (pc := 2) (i := 2) dX1_dry_2 rfl rfl ?_
    refine w_aload_n (pc := 3) (i := 0) dX1_dry_3 rfl rfl ?_
    refine w_vI (pc := 4) dX1_dry_4 GX1_89 hT.1 (c_size hT) rfl rfl rfl rfl ?_
    refine w_icmp_ge (pc := 7) (tgt := 34) dX1_dry_7 (by decide) (fun c7 => absurd c7 (nI_ge (by omega) (by omega))) (fun c7 => ?_)
    refine w_aload_n (pc := 10) (i := 0) dX1_dry_10 rfl rfl ?_
    refine w_iload_n (pc := 11) (i := 2) dX1_dry_11 rfl rfl ?_
    refine w_iconst (pc := 12) (v := 2) dX1_dry_12 (by decide) ?_
    refine w_iconst (pc := 13) (v := 0) dX1_dry_13 (by decide) ?_
    refine w_aload_n (pc := 14) (i := 0) dX1_dry_14 rfl rfl ?_
    refine w_iload_n (pc := 15) (i := 2) dX1_dry_15 rfl rfl ?_
    refine w_iconst (pc := 16) (v := 2) dX1_dry_16 (by decide) ?_
    refine w_vI (pc := 17) dX1_dry_17 GX1_96 hT.1 (c_at k 2 hT hB (by omega) (by omega)) rfl rfl rfl rfl ?_
    refine w_iload_n (pc := 20) (i := 1) dX1_dry_20 rfl rfl ?_
    refine w_isub (pc := 21) dX1_dry_21 ?_
    refine w_max (pc := 22) dX1_dry_22 LX1_167 (by omega) rfl (Nat.le_of_ble_eq_true rfl) ?_
    refine w_vV (pc := 25) dX1_dry_25 GX1_85 hT.1 (c_put k 2 _ hT hB (by omega) (by omega)) rfl rfl rfl rfl ?_
    rw [List.set_set]
    obtain ⟨x28, e28⟩ : ∃ y : Int32, y = (nI k) + 1 := ⟨_, rfl⟩
    refine w_iinc (pc := 28) (i := 2) (y := x28) (ls' := [.ref tb, .int y, .int x28]) dX1_dry_28 rfl (by rw [e28]; rfl) (by decide) rfl rfl rfl ?_
    refine w_goto (pc := 31) (tgt := 2) dX1_dry_31 (by decide) ?_
    obtain rfl : x28 = nI (k + 1) := by rw [e28]; exact nI_1 k
    exact ih (k + 1) (by omega)
set_option maxHeartbeats 1000000 in
theorem c_dry {tb c N rows : Nat} {f : Nat → Int32} (y : Int32) (hT : TbO tb c N 4 rows f h) (hne : c ≠ tb) (hB : TbB N 4 rows) : Ct (d + 1) mX1_dry 0 0 [.ref tb, .int y] h (RV (h.set c (.inl (N, .inl (tDr f y rows))))) := by
  refine Ct.of (by decide +kernel) rfl (Nat.le_of_ble_eq_true rfl) ?_
  show WP (d + 1) mX1_dry none 0 0 0 [.ref tb, .int y, vU] [] h _
  refine w_iconst (pc := 0) (v := 0) dX1_dry_0 (by decide) ?_
  refine w_topi (fun x1 e1 => ?_)
  refine w_istore_n (pc := 1) (i := 2) (ls' := [.ref tb, .int y, .int x1]) dX1_dry_1 rfl (by decide) rfl rfl rfl ?_
  subst e1
  have hL := c_dry_loop (d := d) y hT hne hB rows 0 (Nat.zero_add _)
  rw [show tDr f y 0 = f from rfl, gself hT.2] at hL
  exact hL
set_option maxHeartbeats 1000000 in
theorem c_dismiss (i : Nat) (x : Int32) (hw : Wk b σ h) (hB : WB σ) (hi : i < σ.2.1 4) (hx : x = 0 ∨ x = 1) : Ct (d + 2) mX1_dismiss 0 0 [.ref b, .int (nI i), .int x] h (NT (fun v h1 => v = none ∧ Wk b (kDismiss σ i x) h1 ∧ Out b 13 h h1)) := by
  refine Ct.of (by decide +kernel) rfl (Nat.le_of_ble_eq_true rfl) ?_
  show WP (d + 2) mX1_dismiss none 0 0 0 [.ref b, .int (nI i), .int x] [] h _
  have ho : Out b 13 h h := Out.rf
  refine w_aload_n (pc := 0) (i := 0) dX1_dismiss_0 rfl rfl ?_
  refine w_get (pc := 1) dX1_dismiss_1 FX1_29 hw.1 rfl ?_
  refine w_iload_n (pc := 4) (i := 1) dX1_dismiss_4 rfl rfl ?_
  refine w_vV (pc := 5) dX1_dismiss_5 GX1_115 hw.t4.1 (c_removeRow i hw.t4 (by omega) hB.b4 hi (by omega)) rfl rfl rfl rfl ?_
  obtain ⟨s5a, hs5a⟩ : ∃ z : WS, z = uR σ 4 (σ.2.1 4 - 1) := ⟨_, rfl⟩
  have hw5a : Wk b s5a (h.set (b + 9) (.inr (0, [.ref (b + 10), .int (nI 4), .int (nI (σ.2.1 4 - 1))]))) := by rw [hs5a]; exact hw.r4 _
  have ho5a : Out b 13 h (h.set (b + 9) (.inr (0, [.ref (b + 10), .int (nI 4), .int (nI (σ.2.1 4 - 1))]))) := ho.set (by omega) (by omega)
  have hB5a : WB s5a := by rw [hs5a]; exact ⟨hB.1, hB.2.1, hB.2.2.1, hB.2.2.2.1, show σ.2.1 4 - 1 ≤ 8 by have := hB.2.2.2.2; omega⟩
  generalize hh5a : (h.set (b + 9) (.inr (0, [.ref (b + 10), .int (nI 4), .int (nI (σ.2.1 4 - 1))]))) = h5a at hw5a ho5a ⊢
  clear hh5a
  obtain ⟨s5b, hs5b⟩ : ∃ z : WS, z = uA s5a 4 (tRem (σ.1 4) 4 (σ.2.1 4) i) := ⟨_, rfl⟩
  have hw5b : Wk b s5b (h5a.set (b + 10) (.inl (32, .inl (tRem (σ.1 4) 4 (σ.2.1 4) i)))) := by rw [hs5b]; exact hw5a.c4 _
  have ho5b : Out b 13 h (h5a.set (b + 10) (.inl (32, .inl (tRem (σ.1 4) 4 (σ.2.1 4) i)))) := ho5a.set (by omega) (by omega)
  have hB5b : WB s5b := by rw [hs5b]; exact hB5a.uA
  generalize hh5b : (h5a.set (b + 10) (.inl (32, .inl (tRem (σ.1 4) 4 (σ.2.1 4) i)))) = h5b at hw5b ho5b ⊢
  clear hh5b
  refine w_iload_n (pc := 8) (i := 1) dX1_dismiss_8 rfl rfl ?_
  refine w_aload_n (pc := 9) (i := 0) dX1_dismiss_9 rfl rfl ?_
  refine w_get (pc := 10) dX1_dismiss_10 FX1_49 hw5b.1 rfl ?_
  have h8 : s5b.2.2 8 = σ.2.2 8 := by rw [hs5b, hs5a]; rfl
  rw [h8]
  refine w_icmp_ne (pc := 13) (tgt := 29) dX1_dismiss_13 (by decide) (fun c13 => ?_) (fun c13 => ?_)
  · refine w_iload_n (pc := 29) (i := 1) dX1_dismiss_29 rfl rfl ?_
    refine w_aload_n (pc := 30) (i := 0) dX1_dismiss_30 rfl rfl ?_
    refine w_get (pc := 31) dX1_dismiss_31 FX1_49 hw5b.1 rfl ?_
    rw [h8]
    refine w_icmp_ge (pc := 34) (tgt := 47) dX1_dismiss_34 (by decide) (fun c34 => ?_) (fun c34 => ?_)
    · subst hs5a hs5b
      exact w_return (pc := 47) dX1_dismiss_47 rfl ⟨none, rfl, rfl, by unfold kDismiss; rw [if_neg c13, if_neg (Int32.not_lt.mpr c34)]; exact hw5b, ho5b⟩
    · refine w_aload_n (pc := 37) (i := 0) dX1_dismiss_37 rfl rfl ?_
      refine w_dup (pc := 38) dX1_dismiss_38 rfl ?_
      refine w_get (pc := 39) dX1_dismiss_39 FX1_49 hw5b.1 rfl ?_
      refine w_iconst (pc := 42) (v := 1) dX1_dismiss_42 (by decide) ?_
      refine w_isub (pc := 43) dX1_dismiss_43 ?_
      rw [h8]
      refine w_put (pc := 44) dX1_dismiss_44 UX1_49 hw5b.1 (Nat.le_of_ble_eq_true rfl) nv_i (fun _ q => by cases q) ?_
      obtain ⟨s44, hs44⟩ : ∃ z : WS, z = uS s5b 8 (σ.2.2 8 - 1) := ⟨_, rfl⟩
      have hw44 : Wk b s44 (h5b.set b (.inr (1, (wkF b s5b).set 15 (.int (σ.2.2 8 - 1))))) := by rw [hs44]; exact hw5b.s8 _
      have ho44 : Out b 13 h (h5b.set b (.inr (1, (wkF b s5b).set 15 (.int (σ.2.2 8 - 1))))) := ho5b.set (by omega) (by omega)
      have hB44 : WB s44 := by rw [hs44]; exact hB5b.uS
      generalize hh44 : (h5b.set b (.inr (1, (wkF b s5b).set 15 (.int (σ.2.2 8 - 1))))) = h44 at hw44 ho44 ⊢
      clear hh44
      subst hs5a hs5b hs44
      exact w_return (pc := 47) dX1_dismiss_47 rfl ⟨none, rfl, rfl, by unfold kDismiss; rw [if_neg c13, if_pos (Int32.not_le.mp c34)]; exact hw44, ho44⟩
  · refine w_aload_n (pc := 16) (i := 0) dX1_dismiss_16 rfl rfl ?_
    refine w_iconst (pc := 17) (v := -1) dX1_dismiss_17 (by decide) ?_
    refine w_put (pc := 18) dX1_dismiss_18 UX1_49 hw5b.1 (Nat.le_of_ble_eq_true rfl) nv_i (fun _ q => by cases q) ?_
    obtain ⟨s18, hs18⟩ : ∃ z : WS, z = uS s5b 8 (-1) := ⟨_, rfl⟩
    have hw18 : Wk b s18 (h5b.set b (.inr (1, (wkF b s5b).set 15 (.int (-1))))) := by rw [hs18]; exact hw5b.s8 _
    have ho18 : Out b 13 h (h5b.set b (.inr (1, (wkF b s5b).set 15 (.int (-1))))) := ho5b.set (by omega) (by omega)
    have hB18 : WB s18 := by rw [hs18]; exact hB5b.uS
    generalize hh18 : (h5b.set b (.inr (1, (wkF b s5b).set 15 (.int (-1))))) = h18 at hw18 ho18 ⊢
    clear hh18
    refine w_aload_n (pc := 21) (i := 0) dX1_dismiss_21 rfl rfl ?_
    refine w_iload_n (pc := 22) (i := 2) dX1_dismiss_22 rfl rfl ?_
    refine w_put (pc := 23) dX1_dismiss_23 UX1_77 hw18.1 (Nat.le_of_ble_eq_true rfl) (nv_z hx) (fun _ q => by cases q) ?_
    obtain ⟨s23, hs23⟩ : ∃ z : WS, z = uS s18 9 (x) := ⟨_, rfl⟩
    have hw23 : Wk b s23 (h18.set b (.inr (1, (wkF b s18).set 16 (.int (x))))) := by rw [hs23]; exact hw18.s9 _
    have ho23 : Out b 13 h (h18.set b (.inr (1, (wkF b s18).set 16 (.int (x))))) := ho18.set (by omega) (by omega)
    have hB23 : WB s23 := by rw [hs23]; exact hB18.uS
    generalize hh23 : (h18.set b (.inr (1, (wkF b s18).set 16 (.int (x))))) = h23 at hw23 ho23 ⊢
    clear hh23
    refine w_goto (pc := 26) (tgt := 47) dX1_dismiss_26 (by decide) ?_
    subst hs5a hs5b hs18 hs23
    exact w_return (pc := 47) dX1_dismiss_47 rfl ⟨none, rfl, rfl, by unfold kDismiss; rw [if_pos c13]; exact hw23, ho23⟩
set_option maxHeartbeats 1000000 in
theorem c_lookAtOrder (i : Nat) (hw : Wk b σ h) (hB : WB σ) (hi : i < σ.2.1 4) : Ct (d + 3) mX1_lookAtOrder 0 0 [.ref b, .int (nI i)] h (NT (fun v h1 => v = some (.int (kLook σ i).1) ∧ Wk b ((kLook σ i).2) h1 ∧ Out b 13 h h1)) := by
  refine Ct.of (by decide +kernel) rfl (Nat.le_of_ble_eq_true rfl) ?_
  show WP (d + 3) mX1_lookAtOrder none 0 0 0 [.ref b, .int (nI i), vU, vU, vU] [] h _
  have ho : Out b 13 h h := Out.rf
  refine w_aload_n (pc := 0) (i := 0) dX1_lookAtOrder_0 rfl rfl ?_
  refine w_get (pc := 1) dX1_lookAtOrder_1 FX1_29 hw.1 rfl ?_
  refine w_iload_n (pc := 4) (i := 1) dX1_lookAtOrder_4 rfl rfl ?_
  refine w_iconst (pc := 5) (v := 0) dX1_lookAtOrder_5 (by decide) ?_
  refine w_vI (pc := 6) dX1_lookAtOrder_6 GX1_96 hw.t4.1 (c_at i 0 hw.t4 hB.b4 hi (by omega)) rfl rfl rfl rfl ?_
  refine w_topi (fun x9 e9 => ?_)
  refine w_istore_n (pc := 9) (i := 2) (ls' := [.ref b, .int (nI i), .int x9, vU, vU]) dX1_lookAtOrder_9 rfl (by decide) rfl rfl rfl ?_
  subst e9
  refine w_aload_n (pc := 10) (i := 0) dX1_lookAtOrder_10 rfl rfl ?_
  refine w_get (pc := 11) dX1_lookAtOrder_11 FX1_29 hw.1 rfl ?_
  refine w_iload_n (pc := 14) (i := 1) dX1_lookAtOrder_14 rfl rfl ?_
  refine w_iconst (pc := 15) (v := 1) dX1_lookAtOrder_15 (by decide) ?_
  refine w_vI (pc := 16) dX1_lookAtOrder_16 GX1_96 hw.t4.1 (c_at i 1 hw.t4 hB.b4 hi (by omega)) rfl rfl rfl rfl ?_
  refine w_topi (fun x19 e19 => ?_)
  refine w_istore_n (pc := 19) (i := 3) (ls' := [.ref b, .int (nI i), .int (σ.1 4 (i * 4 + 0)), .int x19, vU]) dX1_lookAtOrder_19 rfl (by decide) rfl rfl rfl ?_
  subst e19
  refine w_aload_n (pc := 20) (i := 0) dX1_lookAtOrder_20 rfl rfl ?_
  refine w_get (pc := 21) dX1_lookAtOrder_21 FX1_29 hw.1 rfl ?_
  refine w_iload_n (pc := 24) (i := 1) dX1_lookAtOrder_24 rfl rfl ?_
  refine w_iconst (pc := 25) (v := 2) dX1_lookAtOrder_25 (by decide) ?_
  refine w_vI (pc := 26) dX1_lookAtOrder_26 GX1_96 hw.t4.1 (c_at i 2 hw.t4 hB.b4 hi (by omega)) rfl rfl rfl rfl ?_
  refine w_iconst (pc := 29) (v := 1) dX1_lookAtOrder_29 (by decide) ?_
  refine w_isub (pc := 30) dX1_lookAtOrder_30 ?_
  refine w_topi (fun x31 e31 => ?_)
  refine w_istore (pc := 31) (i := 4) (ls' := [.ref b, .int (nI i), .int (σ.1 4 (i * 4 + 0)), .int (σ.1 4 (i * 4 + 1)), .int x31]) dX1_lookAtOrder_31 (by decide) rfl rfl rfl ?_
  subst e31
  refine w_aload_n (pc := 33) (i := 0) dX1_lookAtOrder_33 rfl rfl ?_
  refine w_iload_n (pc := 34) (i := 2) dX1_lookAtOrder_34 rfl rfl ?_
  refine w_vI (pc := 35) dX1_lookAtOrder_35 GX1_92 hw.1 (c_wholeOf _ hw) rfl rfl rfl rfl ?_
  refine w_iload_n (pc := 38) (i := 3) dX1_lookAtOrder_38 rfl rfl ?_
  refine w_icmp_lt (pc := 39) (tgt := 85) dX1_lookAtOrder_39 (by decide) (fun c39 => ?_) (fun c39 => ?_)
  · refine w_iload (pc := 85) (i := 4) dX1_lookAtOrder_85 rfl ?_
    refine w_if_ge (pc := 87) (tgt := 108) dX1_lookAtOrder_87 (by decide) (fun c87 => ?_) (fun c87 => ?_)
    · refine w_aload_n (pc := 108) (i := 0) dX1_lookAtOrder_108 rfl rfl ?_
      refine w_get (pc := 109) dX1_lookAtOrder_109 FX1_29 hw.1 rfl ?_
      refine w_iload_n (pc := 112) (i := 1) dX1_lookAtOrder_112 rfl rfl ?_
      refine w_iconst (pc := 113) (v := 2) dX1_lookAtOrder_113 (by decide) ?_
      refine w_iload (pc := 114) (i := 4) dX1_lookAtOrder_114 rfl ?_
      refine w_vV (pc := 116) dX1_lookAtOrder_116 GX1_85 hw.t4.1 (c_put i 2 (σ.1 4 (i * 4 + 2) - 1) hw.t4 hB.b4 hi (by omega)) rfl rfl rfl rfl ?_
      obtain ⟨s116, hs116⟩ : ∃ z : WS, z = uA σ 4 (upd (σ.1 4) (i * 4 + 2) (σ.1 4 (i * 4 + 2) - 1)) := ⟨_, rfl⟩
      have hw116 : Wk b s116 (h.set (b + 10) (.inl (32, .inl (upd (σ.1 4) (i * 4 + 2) (σ.1 4 (i * 4 + 2) - 1))))) := by rw [hs116]; exact hw.c4 _
      have ho116 : Out b 13 h (h.set (b + 10) (.inl (32, .inl (upd (σ.1 4) (i * 4 + 2) (σ.1 4 (i * 4 + 2) - 1))))) := ho.set (by omega) (by omega)
      have hB116 : WB s116 := by rw [hs116]; exact hB.uA
      generalize hh116 : (h.set (b + 10) (.inl (32, .inl (upd (σ.1 4) (i * 4 + 2) (σ.1 4 (i * 4 + 2) - 1))))) = h116 at hw116 ho116 ⊢
      clear hh116
      refine w_iconst (pc := 119) (v := 1) dX1_lookAtOrder_119 (by decide) ?_
      subst hs116
      exact w_ireturn (pc := 120) dX1_lookAtOrder_120 ⟨_, rfl, rfl⟩ ⟨_, rfl, by unfold kLook; rw [if_pos c39, if_pos c87], by unfold kLook; rw [if_pos c39, if_pos c87]; exact hw116, ho116⟩
    · refine w_aload_n (pc := 90) (i := 0) dX1_lookAtOrder_90 rfl rfl ?_
      refine w_dup (pc := 91) dX1_lookAtOrder_91 rfl ?_
      refine w_get (pc := 92) dX1_lookAtOrder_92 FX1_74 hw.1 rfl ?_
      refine w_iconst (pc := 95) (v := 1) dX1_lookAtOrder_95 (by decide) ?_
      refine w_iadd (pc := 96) dX1_lookAtOrder_96 ?_
      refine w_put (pc := 97) dX1_lookAtOrder_97 UX1_74 hw.1 (Nat.le_of_ble_eq_true rfl) nv_i (fun _ q => by cases q) ?_
      obtain ⟨s97, hs97⟩ : ∃ z : WS, z = uS σ 7 (σ.2.2 7 + 1) := ⟨_, rfl⟩
      have hw97 : Wk b s97 (h.set b (.inr (1, (wkF b σ).set 14 (.int (σ.2.2 7 + 1))))) := by rw [hs97]; exact hw.s7 _
      have ho97 : Out b 13 h (h.set b (.inr (1, (wkF b σ).set 14 (.int (σ.2.2 7 + 1))))) := ho.set (by omega) (by omega)
      have hB97 : WB s97 := by rw [hs97]; exact hB.uS
      generalize hh97 : (h.set b (.inr (1, (wkF b σ).set 14 (.int (σ.2.2 7 + 1))))) = h97 at hw97 ho97 ⊢
      clear hh97
      refine w_aload_n (pc := 100) (i := 0) dX1_lookAtOrder_100 rfl rfl ?_
      refine w_iload_n (pc := 101) (i := 1) dX1_lookAtOrder_101 rfl rfl ?_
      refine w_iconst (pc := 102) (v := 0) dX1_lookAtOrder_102 (by decide) ?_
      refine w_vQ (pc := 103) dX1_lookAtOrder_103 GX1_179 hw97.1 (c_dismiss i 0 hw97 hB97 (by rw [hs97]; exact hi) (Or.inl rfl)) rfl rfl rfl rfl ?_
      rintro v103 h103 ⟨rfl, hw103, hq103⟩
      have ho103 := ho97.tr hq103
      obtain ⟨s103, hs103⟩ : ∃ z : WS, z = kDismiss s97 i 0 := ⟨_, rfl⟩
      rw [← hs103] at hw103
      have hB103 : WB s103 := by rw [hs103]; exact hB97.rem4.of kDismiss_R
      refine w_iconst (pc := 106) (v := 0) dX1_lookAtOrder_106 (by decide) ?_
      subst hs97 hs103
      exact w_ireturn (pc := 107) dX1_lookAtOrder_107 ⟨_, rfl, rfl⟩ ⟨_, rfl, by unfold kLook; rw [if_pos c39, if_neg c87], by unfold kLook; rw [if_pos c39, if_neg c87]; exact hw103, ho103⟩
  · refine w_aload_n (pc := 42) (i := 0) dX1_lookAtOrder_42 rfl rfl ?_
    refine w_iload_n (pc := 43) (i := 2) dX1_lookAtOrder_43 rfl rfl ?_
    refine w_iload_n (pc := 44) (i := 3) dX1_lookAtOrder_44 rfl rfl ?_
    refine w_ineg (pc := 45) dX1_lookAtOrder_45 ?_
    refine w_vQ (pc := 46) dX1_lookAtOrder_46 GX1_136 hw.1 (c_addWhole (σ.1 4 (i * 4 + 0)) (-σ.1 4 (i * 4 + 1)) hw) rfl rfl rfl rfl ?_
    rintro v46 h46 ⟨rfl, hw46, hq46⟩
    have ho46 := ho.tr hq46
    obtain ⟨s46, hs46⟩ : ∃ z : WS, z = kAddWhole σ (σ.1 4 (i * 4 + 0)) (-σ.1 4 (i * 4 + 1)) := ⟨_, rfl⟩
    rw [← hs46] at hw46
    have hB46 : WB s46 := by rw [hs46]; exact hB.of kAddWhole_R
    have hi46 : i < s46.2.1 4 := by rw [hs46, kAddWhole_R]; exact hi
    refine w_aload_n (pc := 49) (i := 0) dX1_lookAtOrder_49 rfl rfl ?_
    refine w_dup (pc := 50) dX1_lookAtOrder_50 rfl ?_
    refine w_get (pc := 51) dX1_lookAtOrder_51 FX1_46 hw46.1 rfl ?_
    refine w_aload_n (pc := 54) (i := 0) dX1_lookAtOrder_54 rfl rfl ?_
    refine w_get (pc := 55) dX1_lookAtOrder_55 FX1_29 hw46.1 rfl ?_
    refine w_iload_n (pc := 58) (i := 1) dX1_lookAtOrder_58 rfl rfl ?_
    refine w_iconst (pc := 59) (v := 3) dX1_lookAtOrder_59 (by decide) ?_
    refine w_vI (pc := 60) dX1_lookAtOrder_60 GX1_96 hw46.t4.1 (c_at i 3 hw46.t4 hB46.b4 hi46 (by omega)) rfl rfl rfl rfl ?_
    refine w_iadd (pc := 63) dX1_lookAtOrder_63 ?_
    refine w_put (pc := 64) dX1_lookAtOrder_64 UX1_46 hw46.1 (Nat.le_of_ble_eq_true rfl) nv_i (fun _ q => by cases q) ?_
    obtain ⟨s64, hs64⟩ : ∃ z : WS, z = uS s46 3 (s46.2.2 3 + s46.1 4 (i * 4 + 3)) := ⟨_, rfl⟩
    have hw64 : Wk b s64 (h46.set b (.inr (1, (wkF b s46).set 10 (.int (s46.2.2 3 + s46.1 4 (i * 4 + 3)))))) := by rw [hs64]; exact hw46.s3 _
    have ho64 : Out b 13 h (h46.set b (.inr (1, (wkF b s46).set 10 (.int (s46.2.2 3 + s46.1 4 (i * 4 + 3)))))) := ho46.set (by omega) (by omega)
    have hB64 : WB s64 := by rw [hs64]; exact hB46.uS
    generalize hh64 : (h46.set b (.inr (1, (wkF b s46).set 10 (.int (s46.2.2 3 + s46.1 4 (i * 4 + 3)))))) = h64 at hw64 ho64 ⊢
    clear hh64
    refine w_aload_n (pc := 67) (i := 0) dX1_lookAtOrder_67 rfl rfl ?_
    refine w_dup (pc := 68) dX1_lookAtOrder_68 rfl ?_
    refine w_get (pc := 69) dX1_lookAtOrder_69 FX1_71 hw64.1 rfl ?_
    refine w_iconst (pc := 72) (v := 1) dX1_lookAtOrder_72 (by decide) ?_
    refine w_iadd (pc := 73) dX1_lookAtOrder_73 ?_
    rw [show s64.2.2 6 = s46.2.2 6 from by rw [hs64]; rfl]
    refine w_put (pc := 74) dX1_lookAtOrder_74 UX1_71 hw64.1 (Nat.le_of_ble_eq_true rfl) nv_i (fun _ q => by cases q) ?_
    obtain ⟨s74, hs74⟩ : ∃ z : WS, z = uS s64 6 (s46.2.2 6 + 1) := ⟨_, rfl⟩
    have hw74 : Wk b s74 (h64.set b (.inr (1, (wkF b s64).set 13 (.int (s46.2.2 6 + 1))))) := by rw [hs74]; exact hw64.s6 _
    have ho74 : Out b 13 h (h64.set b (.inr (1, (wkF b s64).set 13 (.int (s46.2.2 6 + 1))))) := ho64.set (by omega) (by omega)
    have hB74 : WB s74 := by rw [hs74]; exact hB64.uS
    generalize hh74 : (h64.set b (.inr (1, (wkF b s64).set 13 (.int (s46.2.2 6 + 1))))) = h74 at hw74 ho74 ⊢
    clear hh74
    refine w_aload_n (pc := 77) (i := 0) dX1_lookAtOrder_77 rfl rfl ?_
    refine w_iload_n (pc := 78) (i := 1) dX1_lookAtOrder_78 rfl rfl ?_
    refine w_iconst (pc := 79) (v := 1) dX1_lookAtOrder_79 (by decide) ?_
    refine w_vQ (pc := 80) dX1_lookAtOrder_80 GX1_179 hw74.1 (c_dismiss i 1 hw74 hB74 (by rw [hs74, hs64]; exact hi46) (Or.inr rfl)) rfl rfl rfl rfl ?_
    rintro v80 h80 ⟨rfl, hw80, hq80⟩
    have ho80 := ho74.tr hq80
    obtain ⟨s80, hs80⟩ : ∃ z : WS, z = kDismiss s74 i 1 := ⟨_, rfl⟩
    rw [← hs80] at hw80
    have hB80 : WB s80 := by rw [hs80]; exact hB74.rem4.of kDismiss_R
    refine w_iconst (pc := 83) (v := 0) dX1_lookAtOrder_83 (by decide) ?_
    subst hs46 hs64 hs74 hs80
    exact w_ireturn (pc := 84) dX1_lookAtOrder_84 ⟨_, rfl, rfl⟩ ⟨_, rfl, by unfold kLook; rw [if_neg c39], by unfold kLook; rw [if_neg c39]; exact hw80, ho80⟩
set_option maxHeartbeats 1000000 in
theorem c_lookAtOrders_loop (hB0 : WB σ) : ∀ (m k : Nat) (h2 : AH), k + m = σ.2.1 4 → Wk b (kLks σ k).2 h2 → Out b 13 h h2 → WP (d + 4) mX1_lookAtOrders none 0 0 12 [.ref b, .int (nI (σ.2.1 4)), .int (nI (kLks σ k).1), .int (nI k)] [] h2 (NT (fun v h1 => v = none ∧ Wk b ((kLks σ (σ.2.1 4)).2) h1 ∧ Out b 13 h h1)) := by
  have hR := hB0.2.2.2.2
  intro m
  induction m with
  | zero =>
    intro k h2 hk hw ho
    have hk : k = σ.2.1 4 := by omega
    refine w_iload_n (pc := 12) (i := 3) dX1_lookAtOrders_12 rfl rfl ?_
    refine w_iload_n (pc := 13) (i := 1) dX1_lookAtOrders_13 rfl rfl ?_
    refine w_icmp_ge (pc := 14) (tgt := 34) dX1_lookAtOrders_14 (by decide) (fun c14 => ?_) (fun c14 => absurd (nI_le (by omega) (by omega)) c14)
    subst hk
    exact w_return (pc := 34) dX1_lookAtOrders_34 rfl ⟨none, rfl, rfl, hw, ho⟩
  | succ m ih =>
    intro k h2 hk hw ho
    have hB : WB (kLks σ k).2 := kLks_B hB0 k
    have h4 := kLks_R4 (σ := σ) k (by omega)
    refine w_iload_n (pc := 12) (i := 3) dX1_lookAtOrders_12 rfl rfl ?_
    refine w_iload_n (pc := 13) (i := 1) dX1_lookAtOrders_13 rfl rfl ?_
    refine w_icmp_ge (pc := 14) (tgt := 34) dX1_lookAtOrders_14 (by decide) (fun c14 => absurd c14 (nI_ge (by omega) (by omega))) (fun c14 => ?_)
    refine w_aload_n (pc := 17) (i := 0) dX1_lookAtOrders_17 rfl rfl ?_
    refine w_iload_n (pc := 18) (i := 2) dX1_lookAtOrders_18 rfl rfl ?_
    refine w_vQ (pc := 19) dX1_lookAtOrders_19 GX1_176 hw.1 (c_lookAtOrder (kLks σ k).1 hw hB (by omega)) rfl rfl rfl rfl ?_
    rintro v19 h19 ⟨rfl, hw19, hq19⟩
    have ho19 := ho.tr hq19
    obtain ⟨s19, hs19⟩ : ∃ z : WS, z = (kLook (kLks σ k).2 (kLks σ k).1).2 := ⟨_, rfl⟩
    rw [← hs19] at hw19
    have hB19 : WB s19 := by rw [hs19]; exact kLook_B hB
    show WP (d + 4) mX1_lookAtOrders none 0 0 22 _ [.int (kLook (kLks σ k).2 (kLks σ k).1).1] _ _
    refine w_if_eq (pc := 22) (tgt := 28) dX1_lookAtOrders_22 (by decide) (fun c22 => ?_) (fun c22 => ?_)
    · obtain ⟨x28, e28⟩ : ∃ y : Int32, y = (nI k) + 1 := ⟨_, rfl⟩
      refine w_iinc (pc := 28) (i := 3) (y := x28) (ls' := [.ref b, .int (nI (σ.2.1 4)), .int (nI (kLks σ k).1), .int x28]) dX1_lookAtOrders_28 rfl (by rw [e28]; rfl) (by decide) rfl rfl rfl ?_
      refine w_goto (pc := 31) (tgt := 12) dX1_lookAtOrders_31 (by decide) ?_
      obtain rfl : x28 = nI (k + 1) := by rw [e28]; exact nI_1 k
      subst hs19
      have hL := ih (k + 1) h19 (by omega) hw19 ho19
      rw [show (kLks σ (k + 1)).1 = (kLks σ k).1 from if_pos c22] at hL
      exact hL
    · obtain ⟨x25, e25⟩ : ∃ y : Int32, y = (nI (kLks σ k).1) + 1 := ⟨_, rfl⟩
      refine w_iinc (pc := 25) (i := 2) (y := x25) (ls' := [.ref b, .int (nI (σ.2.1 4)), .int x25, .int (nI k)]) dX1_lookAtOrders_25 rfl (by rw [e25]; rfl) (by decide) rfl rfl rfl ?_
      obtain ⟨x28, e28⟩ : ∃ y : Int32, y = (nI k) + 1 := ⟨_, rfl⟩
      refine w_iinc (pc := 28) (i := 3) (y := x28) (ls' := [.ref b, .int (nI (σ.2.1 4)), .int x25, .int x28]) dX1_lookAtOrders_28 rfl (by rw [e28]; rfl) (by decide) rfl rfl rfl ?_
      refine w_goto (pc := 31) (tgt := 12) dX1_lookAtOrders_31 (by decide) ?_
      obtain rfl : x28 = nI (k + 1) := by rw [e28]; exact nI_1 k
      obtain rfl : x25 = nI ((kLks σ k).1 + 1) := by rw [e25]; exact nI_1 _
      subst hs19
      have hL := ih (k + 1) h19 (by omega) hw19 ho19
      rw [show (kLks σ (k + 1)).1 = (kLks σ k).1 + 1 from if_neg c22] at hL
      exact hL
set_option maxHeartbeats 1000000 in
theorem c_lookAtOrders (hw : Wk b σ h) (hB : WB σ) : Ct (d + 4) mX1_lookAtOrders 0 0 [.ref b] h (NT (fun v h1 => v = none ∧ Wk b ((kLks σ (σ.2.1 4)).2) h1 ∧ Out b 13 h h1)) := by
  refine Ct.of (by decide +kernel) rfl (Nat.le_of_ble_eq_true rfl) ?_
  show WP (d + 4) mX1_lookAtOrders none 0 0 0 [.ref b, vU, vU, vU] [] h _
  refine w_aload_n (pc := 0) (i := 0) dX1_lookAtOrders_0 rfl rfl ?_
  refine w_get (pc := 1) dX1_lookAtOrders_1 FX1_29 hw.1 rfl ?_
  refine w_vI (pc := 4) dX1_lookAtOrders_4 GX1_89 hw.t4.1 (c_size hw.t4) rfl rfl rfl rfl ?_
  refine w_topi (fun x7 e7 => ?_)
  refine w_istore_n (pc := 7) (i := 1) (ls' := [.ref b, .int x7, vU, vU]) dX1_lookAtOrders_7 rfl (by decide) rfl rfl rfl ?_
  refine w_iconst (pc := 8) (v := 0) dX1_lookAtOrders_8 (by decide) ?_
  refine w_topi (fun x9 e9 => ?_)
  refine w_istore_n (pc := 9) (i := 2) (ls' := [.ref b, .int x7, .int x9, vU]) dX1_lookAtOrders_9 rfl (by decide) rfl rfl rfl ?_
  refine w_iconst (pc := 10) (v := 0) dX1_lookAtOrders_10 (by decide) ?_
  refine w_topi (fun x11 e11 => ?_)
  refine w_istore_n (pc := 11) (i := 3) (ls' := [.ref b, .int x7, .int x9, .int x11]) dX1_lookAtOrders_11 rfl (by decide) rfl rfl rfl ?_
  subst e7
  subst e9
  subst e11
  exact c_lookAtOrders_loop hB (σ.2.1 4) 0 h (Nat.zero_add _) hw Out.rf
set_option maxHeartbeats 1000000 in
theorem c_passDay_loop (hB0 : WB σ) {P : AO → AH → Prop} (hK : ∀ h2, Wk b (kWorks σ (σ.2.1 1)) h2 → Out b 13 h h2 → WP (d + 5) mX1_passDay none 0 0 24 [.ref b, .int (nI (σ.2.1 1))] [] h2 P) : ∀ (m k : Nat) (h2 : AH), k + m = σ.2.1 1 → Wk b (kWorks σ k) h2 → Out b 13 h h2 → WP (d + 5) mX1_passDay none 0 0 2 [.ref b, .int (nI k)] [] h2 P := by
  have hR := hB0.2.1
  intro m
  induction m with
  | zero =>
    intro k h2 hk hw ho
    have hk : k = σ.2.1 1 := by omega
    have hB : WB (kWorks σ k) := kWorks_B hB0 k
    refine w_iload_n (pc := 2) (i := 1) dX1_passDay_2 rfl rfl ?_
    refine w_aload_n (pc := 3) (i := 0) dX1_passDay_3 rfl rfl ?_
    refine w_get (pc := 4) dX1_passDay_4 FX1_20 hw.1 rfl ?_
    refine w_vI (pc := 7) dX1_passDay_7 GX1_89 hw.t1.1 (c_size hw.t1) rfl rfl rfl rfl ?_
    rw [kWorks_R (by decide)]
    refine w_icmp_ge (pc := 10) (tgt := 24) dX1_passDay_10 (by decide) (fun c10 => ?_) (fun c10 => absurd (nI_le (by omega) (by omega)) c10)
    subst hk
    exact hK h2 hw ho
  | succ m ih =>
    intro k h2 hk hw ho
    have hB : WB (kWorks σ k) := kWorks_B hB0 k
    refine w_iload_n (pc := 2) (i := 1) dX1_passDay_2 rfl rfl ?_
    refine w_aload_n (pc := 3) (i := 0) dX1_passDay_3 rfl rfl ?_
    refine w_get (pc := 4) dX1_passDay_4 FX1_20 hw.1 rfl ?_
    refine w_vI (pc := 7) dX1_passDay_7 GX1_89 hw.t1.1 (c_size hw.t1) rfl rfl rfl rfl ?_
    rw [kWorks_R (by decide)]
    refine w_icmp_ge (pc := 10) (tgt := 24) dX1_passDay_10 (by decide) (fun c10 => absurd c10 (nI_ge (by omega) (by omega))) (fun c10 => ?_)
    refine w_aload_n (pc := 13) (i := 0) dX1_passDay_13 rfl rfl ?_
    refine w_iload_n (pc := 14) (i := 1) dX1_passDay_14 rfl rfl ?_
    refine w_vQ (pc := 15) dX1_passDay_15 GX1_143 hw.1 (c_letWork k hw hB (by rw [kWorks_R (by decide)]; omega)) rfl rfl rfl rfl ?_
    rintro v15 h15 ⟨rfl, hw15, hq15⟩
    have ho15 := ho.tr hq15
    obtain ⟨s15, hs15⟩ : ∃ z : WS, z = kWork (kWorks σ k) k := ⟨_, rfl⟩
    rw [← hs15] at hw15
    have hB15 : WB s15 := by rw [hs15]; exact kWork_B hB
    obtain ⟨x18, e18⟩ : ∃ y : Int32, y = (nI k) + 1 := ⟨_, rfl⟩
    refine w_iinc (pc := 18) (i := 1) (y := x18) (ls' := [.ref b, .int x18]) dX1_passDay_18 rfl (by rw [e18]; rfl) (by decide) rfl rfl rfl ?_
    refine w_goto (pc := 21) (tgt := 2) dX1_passDay_21 (by decide) ?_
    obtain rfl : x18 = nI (k + 1) := by rw [e18]; exact nI_1 k
    subst hs15
    exact ih (k + 1) h15 (by omega) hw15 ho15
set_option maxHeartbeats 1000000 in
theorem c_passDay (hw : Wk b σ h) (hB : WB σ) : Ct (d + 5) mX1_passDay 0 0 [.ref b] h (NT (fun v h1 => v = none ∧ Wk b (kDay σ) h1 ∧ Out b 13 h h1)) := by
  refine Ct.of (by decide +kernel) rfl (Nat.le_of_ble_eq_true rfl) ?_
  show WP (d + 5) mX1_passDay none 0 0 0 [.ref b, vU] [] h _
  have ho : Out b 13 h h := Out.rf
  refine w_iconst (pc := 0) (v := 0) dX1_passDay_0 (by decide) ?_
  refine w_topi (fun x1 e1 => ?_)
  refine w_istore_n (pc := 1) (i := 1) (ls' := [.ref b, .int x1]) dX1_passDay_1 rfl (by decide) rfl rfl rfl ?_
  subst e1
  refine c_passDay_loop (h := h) hB (fun h2 hw2 ho2 => ?_) (σ.2.1 1) 0 h (Nat.zero_add _) hw ho
  have hB2 := kWorks_B hB (σ.2.1 1)
  obtain ⟨τ, hτ⟩ : ∃ z : WS, z = kWorks σ (σ.2.1 1) := ⟨_, rfl⟩
  rw [← hτ] at hw2 hB2
  refine w_aload_n (pc := 24) (i := 0) dX1_passDay_24 rfl rfl ?_
  refine w_aload_n (pc := 25) (i := 0) dX1_passDay_25 rfl rfl ?_
  refine w_get (pc := 26) dX1_passDay_26 FX1_62 hw2.1 rfl ?_
  refine w_bipush (pc := 29) (v := 7) dX1_passDay_29 (by decide) ?_
  refine w_sI (pc := 31) dX1_passDay_31 GX1_146 (c_floorMod _ (τ.2.2 0) 7 (by decide) h2) rfl rfl rfl rfl ?_
  refine w_vI (pc := 34) dX1_passDay_34 GX1_149 hw2.1 (c_driesBy _ hw2) rfl rfl rfl rfl ?_
  refine w_topi (fun x37 e37 => ?_)
  refine w_istore_n (pc := 37) (i := 1) (ls' := [.ref b, .int x37]) dX1_passDay_37 rfl (by decide) rfl rfl rfl ?_
  refine w_aload_n (pc := 38) (i := 0) dX1_passDay_38 rfl rfl ?_
  refine w_get (pc := 39) dX1_passDay_39 FX1_23 hw2.1 rfl ?_
  refine w_iload_n (pc := 42) (i := 1) dX1_passDay_42 rfl rfl ?_
  refine w_sV (pc := 43) dX1_passDay_43 GX1_152 (c_dry x37 hw2.t2 (by omega) hB2.b2) rfl rfl rfl rfl ?_
  obtain ⟨s43, hs43⟩ : ∃ z : WS, z = uA τ 2 (tDr (τ.1 2) x37 (τ.2.1 2)) := ⟨_, rfl⟩
  have hw43 : Wk b s43 (h2.set (b + 6) (.inl (40, .inl (tDr (τ.1 2) x37 (τ.2.1 2))))) := by rw [hs43]; exact hw2.c2 _
  have ho43 : Out b 13 h (h2.set (b + 6) (.inl (40, .inl (tDr (τ.1 2) x37 (τ.2.1 2))))) := ho2.set (by omega) (by omega)
  have hB43 : WB s43 := by rw [hs43]; exact hB2.uA
  generalize hh43 : (h2.set (b + 6) (.inl (40, .inl (tDr (τ.1 2) x37 (τ.2.1 2))))) = h43 at hw43 ho43 ⊢
  clear hh43
  show WP (d + 5) mX1_passDay none 0 0 46 _ [] _ _
  refine w_aload_n (pc := 46) (i := 0) dX1_passDay_46 rfl rfl ?_
  refine w_get (pc := 47) dX1_passDay_47 FX1_26 hw43.1 rfl ?_
  refine w_iload_n (pc := 50) (i := 1) dX1_passDay_50 rfl rfl ?_
  refine w_sV (pc := 51) dX1_passDay_51 GX1_152 (c_dry x37 hw43.t3 (by omega) hB43.b3) rfl rfl rfl rfl ?_
  obtain ⟨s51, hs51⟩ : ∃ z : WS, z = uA s43 3 (tDr (s43.1 3) x37 (s43.2.1 3)) := ⟨_, rfl⟩
  have hw51 : Wk b s51 (h43.set (b + 8) (.inl (24, .inl (tDr (s43.1 3) x37 (s43.2.1 3))))) := by rw [hs51]; exact hw43.c3 _
  have ho51 : Out b 13 h (h43.set (b + 8) (.inl (24, .inl (tDr (s43.1 3) x37 (s43.2.1 3))))) := ho43.set (by omega) (by omega)
  have hB51 : WB s51 := by rw [hs51]; exact hB43.uA
  generalize hh51 : (h43.set (b + 8) (.inl (24, .inl (tDr (s43.1 3) x37 (s43.2.1 3))))) = h51 at hw51 ho51 ⊢
  clear hh51
  show WP (d + 5) mX1_passDay none 0 0 54 _ [] _ _
  refine w_aload_n (pc := 54) (i := 0) dX1_passDay_54 rfl rfl ?_
  refine w_vQ (pc := 55) dX1_passDay_55 GX1_156 hw51.1 (c_lookAtOrders hw51 hB51) rfl rfl rfl rfl ?_
  rintro v55 h55 ⟨rfl, hw55, hq55⟩
  have ho55 := ho51.tr hq55
  obtain ⟨s55, hs55⟩ : ∃ z : WS, z = (kLks s51 (s51.2.1 4)).2 := ⟨_, rfl⟩
  rw [← hs55] at hw55
  have hB55 : WB s55 := by rw [hs55]; exact kLks_B hB51 _
  refine w_aload_n (pc := 58) (i := 0) dX1_passDay_58 rfl rfl ?_
  refine w_dup (pc := 59) dX1_passDay_59 rfl ?_
  refine w_get (pc := 60) dX1_passDay_60 FX1_62 hw55.1 rfl ?_
  refine w_iconst (pc := 63) (v := 1) dX1_passDay_63 (by decide) ?_
  refine w_iadd (pc := 64) dX1_passDay_64 ?_
  refine w_put (pc := 65) dX1_passDay_65 UX1_62 hw55.1 (Nat.le_of_ble_eq_true rfl) nv_i (fun _ q => by cases q) ?_
  obtain ⟨s65, hs65⟩ : ∃ z : WS, z = uS s55 0 (s55.2.2 0 + 1) := ⟨_, rfl⟩
  have hw65 : Wk b s65 (h55.set b (.inr (1, (wkF b s55).set 7 (.int (s55.2.2 0 + 1))))) := by rw [hs65]; exact hw55.s0 _
  have ho65 : Out b 13 h (h55.set b (.inr (1, (wkF b s55).set 7 (.int (s55.2.2 0 + 1))))) := ho55.set (by omega) (by omega)
  have hB65 : WB s65 := by rw [hs65]; exact hB55.uS
  generalize hh65 : (h55.set b (.inr (1, (wkF b s55).set 7 (.int (s55.2.2 0 + 1))))) = h65 at hw65 ho65 ⊢
  clear hh65
  have e51 : s51 = kDay1 σ := by rw [hs51, hs43, e37, hτ]; rfl
  rw [e51] at hs55
  have e55 : s55 = kDay2 σ := hs55
  have e65 : s65 = kDay σ := by rw [hs65, e55]; rfl
  rw [e65] at hw65
  exact w_return (pc := 68) dX1_passDay_68 rfl ⟨none, rfl, rfl, hw65, ho65⟩
set_option maxHeartbeats 1000000 in
theorem c_passDays_loop (n : Nat) (hn : n ≤ 1000) (hB0 : WB σ) : ∀ (m k : Nat) (h2 : AH), k + m = n → Wk b (kDays σ k) h2 → Out b 13 h h2 → WP (d + 6) mX1_passDays none 0 0 2 [.ref b, .int (nI n), .int (nI k)] [] h2 (NT (fun v h1 => v = none ∧ Wk b (kDays σ n) h1 ∧ Out b 13 h h1)) := by
  intro m
  induction m with
  | zero =>
    intro k h2 hk hw ho
    have hk : k = n := by omega
    subst hk
    refine w_iload_n (pc := 2) (i := 2) dX1_passDays_2 rfl rfl ?_
    refine w_iload_n (pc := 3) (i := 1) dX1_passDays_3 rfl rfl ?_
    refine w_icmp_ge (pc := 4) (tgt := 17) dX1_passDays_4 (by decide) (fun c4 => ?_) (fun c4 => absurd (nI_le (by omega) (by omega)) c4)
    exact w_return (pc := 17) dX1_passDays_17 rfl ⟨none, rfl, rfl, hw, ho⟩
  | succ m ih =>
    intro k h2 hk hw ho
    have hB := kDays_B hB0 k
    refine w_iload_n (pc := 2) (i := 2) dX1_passDays_2 rfl rfl ?_
    refine w_iload_n (pc := 3) (i := 1) dX1_passDays_3 rfl rfl ?_
    refine w_icmp_ge (pc := 4) (tgt := 17) dX1_passDays_4 (by decide) (fun c4 => absurd c4 (nI_ge (by omega) (by omega))) (fun c4 => ?_)
    refine w_aload_n (pc := 7) (i := 0) dX1_passDays_7 rfl rfl ?_
    refine w_vQ (pc := 8) dX1_passDays_8 GX1_140 hw.1 (c_passDay hw hB) rfl rfl rfl rfl ?_
    rintro v8 h8 ⟨rfl, hw8, hq8⟩
    have ho8 := ho.tr hq8
    obtain ⟨s8, hs8⟩ : ∃ z : WS, z = kDay (kDays σ k) := ⟨_, rfl⟩
    rw [← hs8] at hw8
    have hB8 : WB s8 := by rw [hs8]; exact kDay_B hB
    obtain ⟨x11, e11⟩ : ∃ y : Int32, y = (nI k) + 1 := ⟨_, rfl⟩
    refine w_iinc (pc := 11) (i := 2) (y := x11) (ls' := [.ref b, .int (nI n), .int x11]) dX1_passDays_11 rfl (by rw [e11]; rfl) (by decide) rfl rfl rfl ?_
    refine w_goto (pc := 14) (tgt := 2) dX1_passDays_14 (by decide) ?_
    obtain rfl : x11 = nI (k + 1) := by rw [e11]; exact nI_1 k
    subst hs8
    exact ih (k + 1) h8 (by omega) hw8 ho8
set_option maxHeartbeats 1000000 in
theorem c_passDays (n : Nat) (hn : n ≤ 1000) (hw : Wk b σ h) (hB : WB σ) : Ct (d + 6) mX1_passDays 0 0 [.ref b, .int (nI n)] h (NT (fun v h1 => v = none ∧ Wk b (kDays σ n) h1 ∧ Out b 13 h h1)) := by
  refine Ct.of (by decide +kernel) rfl (Nat.le_of_ble_eq_true rfl) ?_
  show WP (d + 6) mX1_passDays none 0 0 0 [.ref b, .int (nI n), vU] [] h _
  refine w_iconst (pc := 0) (v := 0) dX1_passDays_0 (by decide) ?_
  refine w_topi (fun x1 e1 => ?_)
  refine w_istore_n (pc := 1) (i := 2) (ls' := [.ref b, .int (nI n), .int x1]) dX1_passDays_1 rfl (by decide) rfl rfl rfl ?_
  subst e1
  exact c_passDays_loop n hn hB n 0 h (Nat.zero_add _) hw Out.rf
set_option maxHeartbeats 1000000 in
theorem c_daysTillServed_loop (x : Int32) : ∀ (f : Nat) (τ : WS) (n : Nat) (h2 : AH), (n ≤ 31 ∧ 32 ≤ f + n) → Wk b τ h2 → WB τ → Out b 13 h h2 → WP (d + 6) mX1_daysTillServed none 0 0 7 [.ref b, .int x, .int (nI n)] [] h2 (NT (fun v h1 => v = some (.int (if (kTl f τ n).2.2.2 9 = 0 then -1 else nI (kTl f τ n).1)) ∧ Wk b (kTl f τ n).2 h1 ∧ Out b 13 h h1)) := by
  intro f
  induction f with
  | zero =>
    intro τ n h2 hf hw hB ho
    omega
  | succ f ih =>
    intro τ n h2 hf hw hB ho
    refine w_aload_n (pc := 7) (i := 0) dX1_daysTillServed_7 rfl rfl ?_
    refine w_get (pc := 8) dX1_daysTillServed_8 FX1_49 hw.1 rfl ?_
    refine w_iconst (pc := 11) (v := -1) dX1_daysTillServed_11 (by decide) ?_
    refine w_icmp_eq (pc := 12) (tgt := 31) dX1_daysTillServed_12 (by decide) (fun c12 => ?_) (fun c12 => ?_)
    · have hex : kTl (f + 1) τ n = (n, τ) := if_pos (Or.inl c12)
      refine w_aload_n (pc := 31) (i := 0) dX1_daysTillServed_31 rfl rfl ?_
      refine w_get (pc := 32) dX1_daysTillServed_32 FX1_77 hw.1 rfl ?_
      refine w_if_eq (pc := 35) (tgt := 42) dX1_daysTillServed_35 (by decide) (fun c35 => ?_) (fun c35 => ?_)
      · refine w_iconst (pc := 42) (v := -1) dX1_daysTillServed_42 (by decide) ?_
        exact w_ireturn (pc := 43) dX1_daysTillServed_43 ⟨_, rfl, rfl⟩ ⟨_, rfl, by rw [hex]; dsimp only; rw [if_pos c35], by rw [hex]; exact hw, ho⟩
      · refine w_iload_n (pc := 38) (i := 2) dX1_daysTillServed_38 rfl rfl ?_
        refine w_goto (pc := 39) (tgt := 43) dX1_daysTillServed_39 (by decide) ?_
        exact w_ireturn (pc := 43) dX1_daysTillServed_43 ⟨_, rfl, rfl⟩ ⟨_, rfl, by rw [hex]; dsimp only; rw [if_neg c35], by rw [hex]; exact hw, ho⟩
    · refine w_iload_n (pc := 15) (i := 2) dX1_daysTillServed_15 rfl rfl ?_
      refine w_bipush (pc := 16) (v := 30) dX1_daysTillServed_16 (by decide) ?_
      refine w_icmp_gt (pc := 18) (tgt := 31) dX1_daysTillServed_18 (by decide) (fun c18 => ?_) (fun c18 => ?_)
      · have hn : 30 < n := Nat.lt_of_not_le (fun q => nI_nlt q (by omega) (show nI 30 < nI n from c18))
        have hex : kTl (f + 1) τ n = (n, τ) := if_pos (Or.inr hn)
        refine w_aload_n (pc := 31) (i := 0) dX1_daysTillServed_31 rfl rfl ?_
        refine w_get (pc := 32) dX1_daysTillServed_32 FX1_77 hw.1 rfl ?_
        refine w_if_eq (pc := 35) (tgt := 42) dX1_daysTillServed_35 (by decide) (fun c35 => ?_) (fun c35 => ?_)
        · refine w_iconst (pc := 42) (v := -1) dX1_daysTillServed_42 (by decide) ?_
          exact w_ireturn (pc := 43) dX1_daysTillServed_43 ⟨_, rfl, rfl⟩ ⟨_, rfl, by rw [hex]; dsimp only; rw [if_pos c35], by rw [hex]; exact hw, ho⟩
        · refine w_iload_n (pc := 38) (i := 2) dX1_daysTillServed_38 rfl rfl ?_
          refine w_goto (pc := 39) (tgt := 43) dX1_daysTillServed_39 (by decide) ?_
          exact w_ireturn (pc := 43) dX1_daysTillServed_43 ⟨_, rfl, rfl⟩ ⟨_, rfl, by rw [hex]; dsimp only; rw [if_neg c35], by rw [hex]; exact hw, ho⟩
      · have hn : ¬ 30 < n := fun q => c18 (show nI 30 < nI n from nI_lt q (by omega))
        have hex : kTl (f + 1) τ n = kTl f (kDay τ) (n + 1) := if_neg (fun q => q.elim c12 hn)
        refine w_aload_n (pc := 21) (i := 0) dX1_daysTillServed_21 rfl rfl ?_
        refine w_vQ (pc := 22) dX1_daysTillServed_22 GX1_140 hw.1 (c_passDay hw hB) rfl rfl rfl rfl ?_
        rintro v22 h22 ⟨rfl, hw22, hq22⟩
        have ho22 := ho.tr hq22
        obtain ⟨s22, hs22⟩ : ∃ z : WS, z = kDay τ := ⟨_, rfl⟩
        rw [← hs22] at hw22
        have hB22 : WB s22 := by rw [hs22]; exact kDay_B hB
        obtain ⟨x25, e25⟩ : ∃ y : Int32, y = (nI n) + 1 := ⟨_, rfl⟩
        refine w_iinc (pc := 25) (i := 2) (y := x25) (ls' := [.ref b, .int x, .int x25]) dX1_daysTillServed_25 rfl (by rw [e25]; rfl) (by decide) rfl rfl rfl ?_
        refine w_goto (pc := 28) (tgt := 7) dX1_daysTillServed_28 (by decide) ?_
        obtain rfl : x25 = nI (n + 1) := by rw [e25]; exact nI_1 n
        subst hs22
        rw [hex]
        exact ih (kDay τ) (n + 1) h22 (by omega) hw22 hB22 ho22
set_option maxHeartbeats 1000000 in
theorem c_daysTillServed (i : Nat) (hw : Wk b σ h) (hB : WB σ) : Ct (d + 6) mX1_daysTillServed 0 0 [.ref b, .int (nI i)] h (NT (fun v h1 => v = some (.int (kTillV σ i)) ∧ Wk b ((kTill σ i).2) h1 ∧ Out b 13 h h1)) := by
  refine Ct.of (by decide +kernel) rfl (Nat.le_of_ble_eq_true rfl) ?_
  show WP (d + 6) mX1_daysTillServed none 0 0 0 [.ref b, .int (nI i), vU] [] h _
  have ho : Out b 13 h h := Out.rf
  refine w_aload_n (pc := 0) (i := 0) dX1_daysTillServed_0 rfl rfl ?_
  refine w_iload_n (pc := 1) (i := 1) dX1_daysTillServed_1 rfl rfl ?_
  refine w_put (pc := 2) dX1_daysTillServed_2 UX1_49 hw.1 (Nat.le_of_ble_eq_true rfl) nv_i (fun _ q => by cases q) ?_
  obtain ⟨s2, hs2⟩ : ∃ z : WS, z = uS σ 8 (nI i) := ⟨_, rfl⟩
  have hw2 : Wk b s2 (h.set b (.inr (1, (wkF b σ).set 15 (.int (nI i))))) := by rw [hs2]; exact hw.s8 _
  have ho2 : Out b 13 h (h.set b (.inr (1, (wkF b σ).set 15 (.int (nI i))))) := ho.set (by omega) (by omega)
  have hB2 : WB s2 := by rw [hs2]; exact hB.uS
  generalize hh2 : (h.set b (.inr (1, (wkF b σ).set 15 (.int (nI i))))) = h2 at hw2 ho2 ⊢
  clear hh2
  refine w_iconst (pc := 5) (v := 0) dX1_daysTillServed_5 (by decide) ?_
  refine w_topi (fun x6 e6 => ?_)
  refine w_istore_n (pc := 6) (i := 2) (ls' := [.ref b, .int (nI i), .int x6]) dX1_daysTillServed_6 rfl (by decide) rfl rfl rfl ?_
  subst e6
  subst hs2
  exact c_daysTillServed_loop (nI i) 32 _ 0 h2 (by omega) hw2 hB2 ho2
end WORKS4
