/-! Works: what writes it -/
def kSetDry (σ : WS) (j : Nat) (x : Int32) : WS := uA σ 5 (upd (σ.1 5) j x)
def kAddWhole (σ : WS) (len x : Int32) : WS := if len < 0 ∨ (25 : Int32) ≤ len then σ else uA σ 6 (upd (σ.1 6) len.toNatClampNeg (σ.1 6 len.toNatClampNeg + x))
def uC (σ : WS) (t i w j : Nat) (x : Int32) : WS := uA σ t (upd (σ.1 t) (i * w + j) x)
def kRow (σ : WS) (t : Nat) : WS := uR σ t (σ.2.1 t + 1)
def kAddMould (σ : WS) (len st : Int32) : WS := uC (uC (uC (kRow σ 0) 0 (σ.2.1 0) 3 0 len) 0 (σ.2.1 0) 3 1 st) 0 (σ.2.1 0) 3 2 0
def kAddMaker (σ : WS) (sk : Int32) : WS := uC (uC (kRow σ 1) 1 (σ.2.1 1) 2 0 sk) 1 (σ.2.1 1) 2 1 (-1)
def kAddOrder (σ : WS) (len many days pays : Int32) : WS := uC (uC (uC (uC (kRow σ 4) 4 (σ.2.1 4) 4 0 len) 4 (σ.2.1 4) 4 1 many) 4 (σ.2.1 4) 4 2 days) 4 (σ.2.1 4) 4 3 pays
/-- row i of table t goes -/
def kRemove (σ : WS) (t w i : Nat) : WS := uA (uR σ t (σ.2.1 t - 1)) t (tRem (σ.1 t) w (σ.2.1 t) i)
def kCp (σ : WS) (bt s : Nat) : Nat → WS
  | 0 => σ
  | n + 1 => uC (kCp σ bt s n) 3 s 4 n ((kCp σ bt s n).1 2 (bt * 4 + n))
def kPack1 (σ : WS) (bt s : Nat) (many : Int32) : WS := uC (uC (kCp σ bt s 4) 3 s 4 1 many) 2 bt 4 1 (σ.1 2 (bt * 4 + 1) - many)
def kPack (σ : WS) (bt s : Nat) (many : Int32) : WS := if σ.1 2 (bt * 4 + 1) - many = 0 then kRemove (kPack1 σ bt s many) 2 4 bt else kPack1 σ bt s many
def kZr (σ : WS) (s : Nat) : Nat → WS
  | 0 => σ
  | n + 1 => uC (kZr σ s n) 3 s 4 n 0
def kUnloadV (σ : WS) (s : Nat) (y : Int32) : Int32 := σ.1 3 (s * 4 + 1) - kStems σ s y
def kUnload (σ : WS) (s : Nat) (y : Int32) : WS := kZr (kAddWhole (uS σ 5 (σ.2.2 5 + kStems σ s y)) (σ.1 3 (s * 4 + 0)) (kUnloadV σ s y)) s 4
def kFr (σ : WS) (y : Int32) : Nat → Int32 × WS
  | 0 => (0, σ)
  | n + 1 => ((kFr σ y n).1 + kUnloadV (kFr σ y n).2 n y, kUnload (kFr σ y n).2 n y)
def kFire (σ : WS) (y : Int32) : WS := uS (kFr σ y 6).2 2 ((kFr σ y 6).2.2.2 2 - y)
theorem kAddWhole_R {σ : WS} {len x : Int32} : (kAddWhole σ len x).2.1 = σ.2.1 := by unfold kAddWhole; split <;> rfl
theorem kCp_R {σ : WS} {bt s : Nat} : ∀ n, (kCp σ bt s n).2.1 = σ.2.1
  | 0 => rfl
  | n + 1 => kCp_R n
theorem kZr_R {σ : WS} {s : Nat} : ∀ n, (kZr σ s n).2.1 = σ.2.1
  | 0 => rfl
  | n + 1 => kZr_R n
theorem kUnload_R {σ : WS} {s : Nat} {y : Int32} : (kUnload σ s y).2.1 = σ.2.1 := by unfold kUnload; rw [kZr_R, kAddWhole_R]; rfl
theorem kFr_R {σ : WS} {y : Int32} : ∀ n, (kFr σ y n).2.2.1 = σ.2.1
  | 0 => rfl
  | n + 1 => by show (kUnload _ _ _).2.1 = _; rw [kUnload_R]; exact kFr_R n
theorem WB.uS {σ : WS} {k : Nat} {x : Int32} (h : WB σ) : WB (uS σ k x) := h
theorem WB.uA {σ : WS} {t : Nat} {f : Nat → Int32} (h : WB σ) : WB (uA σ t f) := h
theorem WB.of {σ τ : WS} (h : WB σ) (e : τ.2.1 = σ.2.1) : WB τ := by unfold WB at h ⊢; rw [e]; exact h
section WORKS3
variable {d b : Nat} {σ : WS} {h : AH}
set_option maxHeartbeats 1000000 in
theorem c_pay (x : Int32) (hw : Wk b σ h) (hB : WB σ) : Ct d mX1_pay 0 0 [.ref b, .int x] h (NT (fun v h1 => v = none ∧ Wk b (uS σ 3 (σ.2.2 3 - x)) h1 ∧ Out b 13 h h1)) := by
  refine Ct.of (by decide +kernel) rfl (Nat.le_of_ble_eq_true rfl) ?_
  show WP d mX1_pay none 0 0 0 [.ref b, .int x] [] h _
  have ho : Out b 13 h h := Out.rf
  refine w_aload_n (pc := 0) (i := 0) dX1_pay_0 rfl rfl ?_
  refine w_dup (pc := 1) dX1_pay_1 rfl ?_
  refine w_get (pc := 2) dX1_pay_2 FX1_46 hw.1 rfl ?_
  refine w_iload_n (pc := 5) (i := 1) dX1_pay_5 rfl rfl ?_
  refine w_isub (pc := 6) dX1_pay_6 ?_
  refine w_put (pc := 7) dX1_pay_7 UX1_46 hw.1 (Nat.le_of_ble_eq_true rfl) nv_i (fun _ q => by cases q) ?_
  obtain ⟨s7, hs7⟩ : ∃ z : WS, z = uS σ 3 (σ.2.2 3 - x) := ⟨_, rfl⟩
  have hw7 : Wk b s7 (h.set b (.inr (1, (wkF b σ).set 10 (.int (σ.2.2 3 - x))))) := by rw [hs7]; exact hw.s3 _
  have ho7 : Out b 13 h (h.set b (.inr (1, (wkF b σ).set 10 (.int (σ.2.2 3 - x))))) := ho.set (by omega) (by omega)
  have hB7 : WB s7 := by rw [hs7]; exact hB.uS
  generalize hh7 : (h.set b (.inr (1, (wkF b σ).set 10 (.int (σ.2.2 3 - x))))) = h7 at hw7 ho7 ⊢
  clear hh7
  subst hs7
  exact w_return (pc := 10) dX1_pay_10 rfl ⟨none, rfl, rfl, hw7, ho7⟩
set_option maxHeartbeats 1000000 in
theorem c_addClay (x : Int32) (hw : Wk b σ h) (hB : WB σ) : Ct d mX1_addClay 0 0 [.ref b, .int x] h (NT (fun v h1 => v = some (.int (σ.2.2 1 + x)) ∧ Wk b (uS σ 1 (σ.2.2 1 + x)) h1 ∧ Out b 13 h h1)) := by
  refine Ct.of (by decide +kernel) rfl (Nat.le_of_ble_eq_true rfl) ?_
  show WP d mX1_addClay none 0 0 0 [.ref b, .int x] [] h _
  have ho : Out b 13 h h := Out.rf
  refine w_aload_n (pc := 0) (i := 0) dX1_addClay_0 rfl rfl ?_
  refine w_dup (pc := 1) dX1_addClay_1 rfl ?_
  refine w_get (pc := 2) dX1_addClay_2 FX1_39 hw.1 rfl ?_
  refine w_iload_n (pc := 5) (i := 1) dX1_addClay_5 rfl rfl ?_
  refine w_iadd (pc := 6) dX1_addClay_6 ?_
  refine w_put (pc := 7) dX1_addClay_7 UX1_39 hw.1 (Nat.le_of_ble_eq_true rfl) nv_i (fun _ q => by cases q) ?_
  obtain ⟨s7, hs7⟩ : ∃ z : WS, z = uS σ 1 (σ.2.2 1 + x) := ⟨_, rfl⟩
  have hw7 : Wk b s7 (h.set b (.inr (1, (wkF b σ).set 8 (.int (σ.2.2 1 + x))))) := by rw [hs7]; exact hw.s1 _
  have ho7 : Out b 13 h (h.set b (.inr (1, (wkF b σ).set 8 (.int (σ.2.2 1 + x))))) := ho.set (by omega) (by omega)
  have hB7 : WB s7 := by rw [hs7]; exact hB.uS
  generalize hh7 : (h.set b (.inr (1, (wkF b σ).set 8 (.int (σ.2.2 1 + x))))) = h7 at hw7 ho7 ⊢
  clear hh7
  refine w_aload_n (pc := 10) (i := 0) dX1_addClay_10 rfl rfl ?_
  refine w_get (pc := 11) dX1_addClay_11 FX1_39 hw7.1 rfl ?_
  subst hs7
  exact w_ireturn (pc := 14) dX1_addClay_14 ⟨_, rfl, rfl⟩ ⟨_, rfl, rfl, hw7, ho7⟩
set_option maxHeartbeats 1000000 in
theorem c_addCoals (x : Int32) (hw : Wk b σ h) (hB : WB σ) : Ct d mX1_addCoals 0 0 [.ref b, .int x] h (NT (fun v h1 => v = some (.int (σ.2.2 2 + x)) ∧ Wk b (uS σ 2 (σ.2.2 2 + x)) h1 ∧ Out b 13 h h1)) := by
  refine Ct.of (by decide +kernel) rfl (Nat.le_of_ble_eq_true rfl) ?_
  show WP d mX1_addCoals none 0 0 0 [.ref b, .int x] [] h _
  have ho : Out b 13 h h := Out.rf
  refine w_aload_n (pc := 0) (i := 0) dX1_addCoals_0 rfl rfl ?_
  refine w_dup (pc := 1) dX1_addCoals_1 rfl ?_
  refine w_get (pc := 2) dX1_addCoals_2 FX1_43 hw.1 rfl ?_
  refine w_iload_n (pc := 5) (i := 1) dX1_addCoals_5 rfl rfl ?_
  refine w_iadd (pc := 6) dX1_addCoals_6 ?_
  refine w_put (pc := 7) dX1_addCoals_7 UX1_43 hw.1 (Nat.le_of_ble_eq_true rfl) nv_i (fun _ q => by cases q) ?_
  obtain ⟨s7, hs7⟩ : ∃ z : WS, z = uS σ 2 (σ.2.2 2 + x) := ⟨_, rfl⟩
  have hw7 : Wk b s7 (h.set b (.inr (1, (wkF b σ).set 9 (.int (σ.2.2 2 + x))))) := by rw [hs7]; exact hw.s2 _
  have ho7 : Out b 13 h (h.set b (.inr (1, (wkF b σ).set 9 (.int (σ.2.2 2 + x))))) := ho.set (by omega) (by omega)
  have hB7 : WB s7 := by rw [hs7]; exact hB.uS
  generalize hh7 : (h.set b (.inr (1, (wkF b σ).set 9 (.int (σ.2.2 2 + x))))) = h7 at hw7 ho7 ⊢
  clear hh7
  refine w_aload_n (pc := 10) (i := 0) dX1_addCoals_10 rfl rfl ?_
  refine w_get (pc := 11) dX1_addCoals_11 FX1_43 hw7.1 rfl ?_
  subst hs7
  exact w_ireturn (pc := 14) dX1_addCoals_14 ⟨_, rfl, rfl⟩ ⟨_, rfl, rfl, hw7, ho7⟩
set_option maxHeartbeats 1000000 in
theorem c_setDrying (j : Nat) (x : Int32) (hw : Wk b σ h) (hj : j < 7) : Ct d mX1_setDrying 0 0 [.ref b, .int (nI j), .int x] h (NT (fun v h1 => v = none ∧ Wk b (kSetDry σ j x) h1 ∧ Out b 13 h h1)) := by
  refine Ct.of (by decide +kernel) rfl (Nat.le_of_ble_eq_true rfl) ?_
  show WP d mX1_setDrying none 0 0 0 [.ref b, .int (nI j), .int x] [] h _
  have ho : Out b 13 h h := Out.rf
  refine w_iload_n (pc := 0) (i := 1) dX1_setDrying_0 rfl rfl ?_
  refine w_if_lt (pc := 1) (tgt := 20) dX1_setDrying_1 (by decide) (fun c1 => absurd c1 (nI_pos (by omega))) (fun c1 => ?_)
  refine w_iload_n (pc := 4) (i := 1) dX1_setDrying_4 rfl rfl ?_
  refine w_aload_n (pc := 5) (i := 0) dX1_setDrying_5 rfl rfl ?_
  refine w_get (pc := 6) dX1_setDrying_6 FX1_32 hw.1 rfl ?_
  refine w_alen (pc := 9) (v := 7) dX1_setDrying_9 hw.dr rfl ?_
  refine w_icmp_ge (pc := 10) (tgt := 20) dX1_setDrying_10 (by decide) (fun c10 => absurd (show nI 7 ≤ nI j from c10) (nI_ge (by omega) (by omega))) (fun c10 => ?_)
  refine w_aload_n (pc := 13) (i := 0) dX1_setDrying_13 rfl rfl ?_
  refine w_get (pc := 14) dX1_setDrying_14 FX1_32 hw.1 rfl ?_
  refine w_iload_n (pc := 17) (i := 1) dX1_setDrying_17 rfl rfl ?_
  refine w_iload_n (pc := 18) (i := 2) dX1_setDrying_18 rfl rfl ?_
  refine w_iast (pc := 19) dX1_setDrying_19 hw.dr (vp_in_nI hj (by omega)) ?_
  rw [nI_clamp (by omega)]
  exact w_return (pc := 20) dX1_setDrying_20 rfl ⟨none, rfl, rfl, hw.cdr _, ho.set (by omega) (by omega)⟩
set_option maxHeartbeats 1000000 in
theorem c_addWhole (x y : Int32) (hw : Wk b σ h) : Ct d mX1_addWhole 0 0 [.ref b, .int x, .int y] h (NT (fun v h1 => v = none ∧ Wk b (kAddWhole σ x y) h1 ∧ Out b 13 h h1)) := by
  refine Ct.of (by decide +kernel) rfl (Nat.le_of_ble_eq_true rfl) ?_
  show WP d mX1_addWhole none 0 0 0 [.ref b, .int x, .int y] [] h _
  have ho : Out b 13 h h := Out.rf
  refine w_iload_n (pc := 0) (i := 1) dX1_addWhole_0 rfl rfl ?_
  refine w_if_lt (pc := 1) (tgt := 23) dX1_addWhole_1 (by decide) (fun c1 => ?_) (fun c1 => ?_)
  · exact w_return (pc := 23) dX1_addWhole_23 rfl ⟨none, rfl, rfl, by unfold kAddWhole; rw [if_pos (Or.inl c1)]; exact hw, ho⟩
  · refine w_iload_n (pc := 4) (i := 1) dX1_addWhole_4 rfl rfl ?_
    refine w_aload_n (pc := 5) (i := 0) dX1_addWhole_5 rfl rfl ?_
    refine w_get (pc := 6) dX1_addWhole_6 FX1_36 hw.1 rfl ?_
    refine w_alen (pc := 9) (v := 25) dX1_addWhole_9 hw.wh rfl ?_
    refine w_icmp_ge (pc := 10) (tgt := 23) dX1_addWhole_10 (by decide) (fun c10 => ?_) (fun c10 => ?_)
    · exact w_return (pc := 23) dX1_addWhole_23 rfl ⟨none, rfl, rfl, by unfold kAddWhole; rw [if_pos (Or.inr c10)]; exact hw, ho⟩
    · refine w_aload_n (pc := 13) (i := 0) dX1_addWhole_13 rfl rfl ?_
      refine w_get (pc := 14) dX1_addWhole_14 FX1_36 hw.1 rfl ?_
      refine w_iload_n (pc := 17) (i := 1) dX1_addWhole_17 rfl rfl ?_
      refine w_dup2 (pc := 18) dX1_addWhole_18 rfl rfl ?_
      refine w_iald (pc := 19) dX1_addWhole_19 hw.wh (vin c1 c10 (by omega)) ?_
      refine w_iload_n (pc := 20) (i := 2) dX1_addWhole_20 rfl rfl ?_
      refine w_iadd (pc := 21) dX1_addWhole_21 ?_
      refine w_iast (pc := 22) dX1_addWhole_22 hw.wh (vin c1 c10 (by omega)) ?_
      exact w_return (pc := 23) dX1_addWhole_23 rfl ⟨none, rfl, rfl, by unfold kAddWhole; rw [if_neg (fun q => q.elim c1 c10)]; exact hw.cwh _, ho.set (by omega) (by omega)⟩
set_option maxHeartbeats 1000000 in
theorem c_addMould (x y : Int32) (hw : Wk b σ h) (hB : WB σ) (hn : σ.2.1 0 < 6) : Ct (d + 2) mX1_addMould 0 0 [.ref b, .int x, .int y] h (NT (fun v h1 => v = some (.int (nI (σ.2.1 0))) ∧ Wk b (kAddMould σ x y) h1 ∧ Out b 13 h h1)) := by
  refine Ct.of (by decide +kernel) rfl (Nat.le_of_ble_eq_true rfl) ?_
  show WP (d + 2) mX1_addMould none 0 0 0 [.ref b, .int x, .int y, vU] [] h _
  have ho : Out b 13 h h := Out.rf
  refine w_aload_n (pc := 0) (i := 0) dX1_addMould_0 rfl rfl ?_
  refine w_get (pc := 1) dX1_addMould_1 FX1_14 hw.1 rfl ?_
  refine w_vI (pc := 4) dX1_addMould_4 GX1_81 hw.t0.1 (c_addRow hw.t0 hB.b0 (by omega)) rfl rfl rfl rfl ?_
  obtain ⟨s4, hs4⟩ : ∃ z : WS, z = uR σ 0 (σ.2.1 0 + 1) := ⟨_, rfl⟩
  have hw4 : Wk b s4 (h.set (b + 1) (.inr (0, [.ref (b + 2), .int (nI 3), .int (nI (σ.2.1 0 + 1))]))) := by rw [hs4]; exact hw.r0 _
  have ho4 : Out b 13 h (h.set (b + 1) (.inr (0, [.ref (b + 2), .int (nI 3), .int (nI (σ.2.1 0 + 1))]))) := ho.set (by omega) (by omega)
  have hB4 : WB s4 := by rw [hs4]; exact ⟨show σ.2.1 0 + 1 ≤ 6 by omega, hB.2⟩
  generalize hh4 : (h.set (b + 1) (.inr (0, [.ref (b + 2), .int (nI 3), .int (nI (σ.2.1 0 + 1))]))) = h4 at hw4 ho4 ⊢
  clear hh4
  refine w_topi (fun x7 e7 => ?_)
  refine w_istore_n (pc := 7) (i := 3) (ls' := [.ref b, .int x, .int y, .int x7]) dX1_addMould_7 rfl (by decide) rfl rfl rfl ?_
  subst e7
  have hlt : σ.2.1 0 < s4.2.1 0 := by rw [hs4]; exact Nat.lt_succ_self _
  refine w_aload_n (pc := 8) (i := 0) dX1_addMould_8 rfl rfl ?_
  refine w_get (pc := 9) dX1_addMould_9 FX1_14 hw4.1 rfl ?_
  refine w_iload_n (pc := 12) (i := 3) dX1_addMould_12 rfl rfl ?_
  refine w_iconst (pc := 13) (v := 0) dX1_addMould_13 (by decide) ?_
  refine w_iload_n (pc := 14) (i := 1) dX1_addMould_14 rfl rfl ?_
  refine w_vV (pc := 15) dX1_addMould_15 GX1_85 hw4.t0.1 (c_put (σ.2.1 0) 0 x hw4.t0 hB4.b0 hlt (by omega)) rfl rfl rfl rfl ?_
  obtain ⟨s15, hs15⟩ : ∃ z : WS, z = uA s4 0 (upd (s4.1 0) ((σ.2.1 0) * 3 + 0) x) := ⟨_, rfl⟩
  have hw15 : Wk b s15 (h4.set (b + 2) (.inl (18, .inl (upd (s4.1 0) ((σ.2.1 0) * 3 + 0) x)))) := by rw [hs15]; exact hw4.c0 _
  have ho15 : Out b 13 h (h4.set (b + 2) (.inl (18, .inl (upd (s4.1 0) ((σ.2.1 0) * 3 + 0) x)))) := ho4.set (by omega) (by omega)
  have hB15 : WB s15 := by rw [hs15]; exact hB4.uA
  generalize hh15 : (h4.set (b + 2) (.inl (18, .inl (upd (s4.1 0) ((σ.2.1 0) * 3 + 0) x)))) = h15 at hw15 ho15 ⊢
  clear hh15
  refine w_aload_n (pc := 18) (i := 0) dX1_addMould_18 rfl rfl ?_
  refine w_get (pc := 19) dX1_addMould_19 FX1_14 hw15.1 rfl ?_
  refine w_iload_n (pc := 22) (i := 3) dX1_addMould_22 rfl rfl ?_
  refine w_iconst (pc := 23) (v := 1) dX1_addMould_23 (by decide) ?_
  refine w_iload_n (pc := 24) (i := 2) dX1_addMould_24 rfl rfl ?_
  refine w_vV (pc := 25) dX1_addMould_25 GX1_85 hw15.t0.1 (c_put (σ.2.1 0) 1 y hw15.t0 hB15.b0 (by rw [hs15]; exact hlt) (by omega)) rfl rfl rfl rfl ?_
  obtain ⟨s25, hs25⟩ : ∃ z : WS, z = uA s15 0 (upd (s15.1 0) ((σ.2.1 0) * 3 + 1) y) := ⟨_, rfl⟩
  have hw25 : Wk b s25 (h15.set (b + 2) (.inl (18, .inl (upd (s15.1 0) ((σ.2.1 0) * 3 + 1) y)))) := by rw [hs25]; exact hw15.c0 _
  have ho25 : Out b 13 h (h15.set (b + 2) (.inl (18, .inl (upd (s15.1 0) ((σ.2.1 0) * 3 + 1) y)))) := ho15.set (by omega) (by omega)
  have hB25 : WB s25 := by rw [hs25]; exact hB15.uA
  generalize hh25 : (h15.set (b + 2) (.inl (18, .inl (upd (s15.1 0) ((σ.2.1 0) * 3 + 1) y)))) = h25 at hw25 ho25 ⊢
  clear hh25
  refine w_aload_n (pc := 28) (i := 0) dX1_addMould_28 rfl rfl ?_
  refine w_get (pc := 29) dX1_addMould_29 FX1_14 hw25.1 rfl ?_
  refine w_iload_n (pc := 32) (i := 3) dX1_addMould_32 rfl rfl ?_
  refine w_iconst (pc := 33) (v := 2) dX1_addMould_33 (by decide) ?_
  refine w_iconst (pc := 34) (v := 0) dX1_addMould_34 (by decide) ?_
  refine w_vV (pc := 35) dX1_addMould_35 GX1_85 hw25.t0.1 (c_put (σ.2.1 0) 2 0 hw25.t0 hB25.b0 (by rw [hs25, hs15]; exact hlt) (by omega)) rfl rfl rfl rfl ?_
  obtain ⟨s35, hs35⟩ : ∃ z : WS, z = uA s25 0 (upd (s25.1 0) ((σ.2.1 0) * 3 + 2) 0) := ⟨_, rfl⟩
  have hw35 : Wk b s35 (h25.set (b + 2) (.inl (18, .inl (upd (s25.1 0) ((σ.2.1 0) * 3 + 2) 0)))) := by rw [hs35]; exact hw25.c0 _
  have ho35 : Out b 13 h (h25.set (b + 2) (.inl (18, .inl (upd (s25.1 0) ((σ.2.1 0) * 3 + 2) 0)))) := ho25.set (by omega) (by omega)
  have hB35 : WB s35 := by rw [hs35]; exact hB25.uA
  generalize hh35 : (h25.set (b + 2) (.inl (18, .inl (upd (s25.1 0) ((σ.2.1 0) * 3 + 2) 0)))) = h35 at hw35 ho35 ⊢
  clear hh35
  refine w_iload_n (pc := 38) (i := 3) dX1_addMould_38 rfl rfl ?_
  subst hs4 hs15 hs25 hs35
  exact w_ireturn (pc := 39) dX1_addMould_39 ⟨_, rfl, rfl⟩ ⟨_, rfl, rfl, hw35, ho35⟩
set_option maxHeartbeats 1000000 in
theorem c_addMaker (x : Int32) (hw : Wk b σ h) (hB : WB σ) (hn : σ.2.1 1 < 5) : Ct (d + 2) mX1_addMaker 0 0 [.ref b, .int x] h (NT (fun v h1 => v = some (.int (nI (σ.2.1 1))) ∧ Wk b (kAddMaker σ x) h1 ∧ Out b 13 h h1)) := by
  refine Ct.of (by decide +kernel) rfl (Nat.le_of_ble_eq_true rfl) ?_
  show WP (d + 2) mX1_addMaker none 0 0 0 [.ref b, .int x, vU] [] h _
  have ho : Out b 13 h h := Out.rf
  refine w_aload_n (pc := 0) (i := 0) dX1_addMaker_0 rfl rfl ?_
  refine w_get (pc := 1) dX1_addMaker_1 FX1_20 hw.1 rfl ?_
  refine w_vI (pc := 4) dX1_addMaker_4 GX1_81 hw.t1.1 (c_addRow hw.t1 hB.b1 (by omega)) rfl rfl rfl rfl ?_
  obtain ⟨s4, hs4⟩ : ∃ z : WS, z = uR σ 1 (σ.2.1 1 + 1) := ⟨_, rfl⟩
  have hw4 : Wk b s4 (h.set (b + 3) (.inr (0, [.ref (b + 4), .int (nI 2), .int (nI (σ.2.1 1 + 1))]))) := by rw [hs4]; exact hw.r1 _
  have ho4 : Out b 13 h (h.set (b + 3) (.inr (0, [.ref (b + 4), .int (nI 2), .int (nI (σ.2.1 1 + 1))]))) := ho.set (by omega) (by omega)
  have hB4 : WB s4 := by rw [hs4]; exact ⟨hB.1, show σ.2.1 1 + 1 ≤ 5 by omega, hB.2.2⟩
  generalize hh4 : (h.set (b + 3) (.inr (0, [.ref (b + 4), .int (nI 2), .int (nI (σ.2.1 1 + 1))]))) = h4 at hw4 ho4 ⊢
  clear hh4
  refine w_topi (fun x7 e7 => ?_)
  refine w_istore_n (pc := 7) (i := 2) (ls' := [.ref b, .int x, .int x7]) dX1_addMaker_7 rfl (by decide) rfl rfl rfl ?_
  subst e7
  have hlt : σ.2.1 1 < s4.2.1 1 := by rw [hs4]; exact Nat.lt_succ_self _
  refine w_aload_n (pc := 8) (i := 0) dX1_addMaker_8 rfl rfl ?_
  refine w_get (pc := 9) dX1_addMaker_9 FX1_20 hw4.1 rfl ?_
  refine w_iload_n (pc := 12) (i := 2) dX1_addMaker_12 rfl rfl ?_
  refine w_iconst (pc := 13) (v := 0) dX1_addMaker_13 (by decide) ?_
  refine w_iload_n (pc := 14) (i := 1) dX1_addMaker_14 rfl rfl ?_
  refine w_vV (pc := 15) dX1_addMaker_15 GX1_85 hw4.t1.1 (c_put (σ.2.1 1) 0 x hw4.t1 hB4.b1 hlt (by omega)) rfl rfl rfl rfl ?_
  obtain ⟨s15, hs15⟩ : ∃ z : WS, z = uA s4 1 (upd (s4.1 1) ((σ.2.1 1) * 2 + 0) x) := ⟨_, rfl⟩
  have hw15 : Wk b s15 (h4.set (b + 4) (.inl (10, .inl (upd (s4.1 1) ((σ.2.1 1) * 2 + 0) x)))) := by rw [hs15]; exact hw4.c1 _
  have ho15 : Out b 13 h (h4.set (b + 4) (.inl (10, .inl (upd (s4.1 1) ((σ.2.1 1) * 2 + 0) x)))) := ho4.set (by omega) (by omega)
  have hB15 : WB s15 := by rw [hs15]; exact hB4.uA
  generalize hh15 : (h4.set (b + 4) (.inl (10, .inl (upd (s4.1 1) ((σ.2.1 1) * 2 + 0) x)))) = h15 at hw15 ho15 ⊢
  clear hh15
  refine w_aload_n (pc := 18) (i := 0) dX1_addMaker_18 rfl rfl ?_
  refine w_get (pc := 19) dX1_addMaker_19 FX1_20 hw15.1 rfl ?_
  refine w_iload_n (pc := 22) (i := 2) dX1_addMaker_22 rfl rfl ?_
  refine w_iconst (pc := 23) (v := 1) dX1_addMaker_23 (by decide) ?_
  refine w_iconst (pc := 24) (v := -1) dX1_addMaker_24 (by decide) ?_
  refine w_vV (pc := 25) dX1_addMaker_25 GX1_85 hw15.t1.1 (c_put (σ.2.1 1) 1 (-1) hw15.t1 hB15.b1 (by rw [hs15]; exact hlt) (by omega)) rfl rfl rfl rfl ?_
  obtain ⟨s25, hs25⟩ : ∃ z : WS, z = uA s15 1 (upd (s15.1 1) ((σ.2.1 1) * 2 + 1) (-1)) := ⟨_, rfl⟩
  have hw25 : Wk b s25 (h15.set (b + 4) (.inl (10, .inl (upd (s15.1 1) ((σ.2.1 1) * 2 + 1) (-1))))) := by rw [hs25]; exact hw15.c1 _
  have ho25 : Out b 13 h (h15.set (b + 4) (.inl (10, .inl (upd (s15.1 1) ((σ.2.1 1) * 2 + 1) (-1))))) := ho15.set (by omega) (by omega)
  have hB25 : WB s25 := by rw [hs25]; exact hB15.uA
  generalize hh25 : (h15.set (b + 4) (.inl (10, .inl (upd (s15.1 1) ((σ.2.1 1) * 2 + 1) (-1))))) = h25 at hw25 ho25 ⊢
  clear hh25
  refine w_iload_n (pc := 28) (i := 2) dX1_addMaker_28 rfl rfl ?_
  subst hs4 hs15 hs25
  exact w_ireturn (pc := 29) dX1_addMaker_29 ⟨_, rfl, rfl⟩ ⟨_, rfl, rfl, hw25, ho25⟩
set_option maxHeartbeats 1000000 in
theorem c_addOrder (x y u o : Int32) (hw : Wk b σ h) (hB : WB σ) (hn : σ.2.1 4 < 8) : Ct (d + 2) mX1_addOrder 0 0 [.ref b, .int x, .int y, .int u, .int o] h (NT (fun v h1 => v = some (.int (nI (σ.2.1 4 + 1))) ∧ Wk b (kAddOrder σ x y u o) h1 ∧ Out b 13 h h1)) := by
  refine Ct.of (by decide +kernel) rfl (Nat.le_of_ble_eq_true rfl) ?_
  show WP (d + 2) mX1_addOrder none 0 0 0 [.ref b, .int x, .int y, .int u, .int o, vU] [] h _
  have ho : Out b 13 h h := Out.rf
  refine w_aload_n (pc := 0) (i := 0) dX1_addOrder_0 rfl rfl ?_
  refine w_get (pc := 1) dX1_addOrder_1 FX1_29 hw.1 rfl ?_
  refine w_vI (pc := 4) dX1_addOrder_4 GX1_81 hw.t4.1 (c_addRow hw.t4 hB.b4 (by omega)) rfl rfl rfl rfl ?_
  obtain ⟨s4, hs4⟩ : ∃ z : WS, z = uR σ 4 (σ.2.1 4 + 1) := ⟨_, rfl⟩
  have hw4 : Wk b s4 (h.set (b + 9) (.inr (0, [.ref (b + 10), .int (nI 4), .int (nI (σ.2.1 4 + 1))]))) := by rw [hs4]; exact hw.r4 _
  have ho4 : Out b 13 h (h.set (b + 9) (.inr (0, [.ref (b + 10), .int (nI 4), .int (nI (σ.2.1 4 + 1))]))) := ho.set (by omega) (by omega)
  have hB4 : WB s4 := by rw [hs4]; exact ⟨hB.1, hB.2.1, hB.2.2.1, hB.2.2.2.1, show σ.2.1 4 + 1 ≤ 8 by omega⟩
  generalize hh4 : (h.set (b + 9) (.inr (0, [.ref (b + 10), .int (nI 4), .int (nI (σ.2.1 4 + 1))]))) = h4 at hw4 ho4 ⊢
  clear hh4
  refine w_topi (fun x7 e7 => ?_)
  refine w_istore (pc := 7) (i := 5) (ls' := [.ref b, .int x, .int y, .int u, .int o, .int x7]) dX1_addOrder_7 (by decide) rfl rfl rfl ?_
  subst e7
  have hlt : σ.2.1 4 < s4.2.1 4 := by rw [hs4]; exact Nat.lt_succ_self _
  refine w_aload_n (pc := 9) (i := 0) dX1_addOrder_9 rfl rfl ?_
  refine w_get (pc := 10) dX1_addOrder_10 FX1_29 hw4.1 rfl ?_
  refine w_iload (pc := 13) (i := 5) dX1_addOrder_13 rfl ?_
  refine w_iconst (pc := 15) (v := 0) dX1_addOrder_15 (by decide) ?_
  refine w_iload_n (pc := 16) (i := 1) dX1_addOrder_16 rfl rfl ?_
  refine w_vV (pc := 17) dX1_addOrder_17 GX1_85 hw4.t4.1 (c_put (σ.2.1 4) 0 x hw4.t4 hB4.b4 hlt (by omega)) rfl rfl rfl rfl ?_
  obtain ⟨s17, hs17⟩ : ∃ z : WS, z = uA s4 4 (upd (s4.1 4) ((σ.2.1 4) * 4 + 0) x) := ⟨_, rfl⟩
  have hw17 : Wk b s17 (h4.set (b + 10) (.inl (32, .inl (upd (s4.1 4) ((σ.2.1 4) * 4 + 0) x)))) := by rw [hs17]; exact hw4.c4 _
  have ho17 : Out b 13 h (h4.set (b + 10) (.inl (32, .inl (upd (s4.1 4) ((σ.2.1 4) * 4 + 0) x)))) := ho4.set (by omega) (by omega)
  have hB17 : WB s17 := by rw [hs17]; exact hB4.uA
  generalize hh17 : (h4.set (b + 10) (.inl (32, .inl (upd (s4.1 4) ((σ.2.1 4) * 4 + 0) x)))) = h17 at hw17 ho17 ⊢
  clear hh17
  refine w_aload_n (pc := 20) (i := 0) dX1_addOrder_20 rfl rfl ?_
  refine w_get (pc := 21) dX1_addOrder_21 FX1_29 hw17.1 rfl ?_
  refine w_iload (pc := 24) (i := 5) dX1_addOrder_24 rfl ?_
  refine w_iconst (pc := 26) (v := 1) dX1_addOrder_26 (by decide) ?_
  refine w_iload_n (pc := 27) (i := 2) dX1_addOrder_27 rfl rfl ?_
  refine w_vV (pc := 28) dX1_addOrder_28 GX1_85 hw17.t4.1 (c_put (σ.2.1 4) 1 y hw17.t4 hB17.b4 (by rw [hs17]; exact hlt) (by omega)) rfl rfl rfl rfl ?_
  obtain ⟨s28, hs28⟩ : ∃ z : WS, z = uA s17 4 (upd (s17.1 4) ((σ.2.1 4) * 4 + 1) y) := ⟨_, rfl⟩
  have hw28 : Wk b s28 (h17.set (b + 10) (.inl (32, .inl (upd (s17.1 4) ((σ.2.1 4) * 4 + 1) y)))) := by rw [hs28]; exact hw17.c4 _
  have ho28 : Out b 13 h (h17.set (b + 10) (.inl (32, .inl (upd (s17.1 4) ((σ.2.1 4) * 4 + 1) y)))) := ho17.set (by omega) (by omega)
  have hB28 : WB s28 := by rw [hs28]; exact hB17.uA
  generalize hh28 : (h17.set (b + 10) (.inl (32, .inl (upd (s17.1 4) ((σ.2.1 4) * 4 + 1) y)))) = h28 at hw28 ho28 ⊢
  clear hh28
  refine w_aload_n (pc := 31) (i := 0) dX1_addOrder_31 rfl rfl ?_
  refine w_get (pc := 32) dX1_addOrder_32 FX1_29 hw28.1 rfl ?_
  refine w_iload (pc := 35) (i := 5) dX1_addOrder_35 rfl ?_
  refine w_iconst (pc := 37) (v := 2) dX1_addOrder_37 (by decide) ?_
  refine w_iload_n (pc := 38) (i := 3) dX1_addOrder_38 rfl rfl ?_
  refine w_vV (pc := 39) dX1_addOrder_39 GX1_85 hw28.t4.1 (c_put (σ.2.1 4) 2 u hw28.t4 hB28.b4 (by rw [hs28, hs17]; exact hlt) (by omega)) rfl rfl rfl rfl ?_
  obtain ⟨s39, hs39⟩ : ∃ z : WS, z = uA s28 4 (upd (s28.1 4) ((σ.2.1 4) * 4 + 2) u) := ⟨_, rfl⟩
  have hw39 : Wk b s39 (h28.set (b + 10) (.inl (32, .inl (upd (s28.1 4) ((σ.2.1 4) * 4 + 2) u)))) := by rw [hs39]; exact hw28.c4 _
  have ho39 : Out b 13 h (h28.set (b + 10) (.inl (32, .inl (upd (s28.1 4) ((σ.2.1 4) * 4 + 2) u)))) := ho28.set (by omega) (by omega)
  have hB39 : WB s39 := by rw [hs39]; exact hB28.uA
  generalize hh39 : (h28.set (b + 10) (.inl (32, .inl (upd (s28.1 4) ((σ.2.1 4) * 4 + 2) u)))) = h39 at hw39 ho39 ⊢
  clear hh39
  refine w_aload_n (pc := 42) (i := 0) dX1_addOrder_42 rfl rfl ?_
  refine w_get (pc := 43) dX1_addOrder_43 FX1_29 hw39.1 rfl ?_
  refine w_iload (pc := 46) (i := 5) dX1_addOrder_46 rfl ?_
  refine w_iconst (pc := 48) (v := 3) dX1_addOrder_48 (by decide) ?_
  refine w_iload (pc := 49) (i := 4) dX1_addOrder_49 rfl ?_
  refine w_vV (pc := 51) dX1_addOrder_51 GX1_85 hw39.t4.1 (c_put (σ.2.1 4) 3 o hw39.t4 hB39.b4 (by rw [hs39, hs28, hs17]; exact hlt) (by omega)) rfl rfl rfl rfl ?_
  obtain ⟨s51, hs51⟩ : ∃ z : WS, z = uA s39 4 (upd (s39.1 4) ((σ.2.1 4) * 4 + 3) o) := ⟨_, rfl⟩
  have hw51 : Wk b s51 (h39.set (b + 10) (.inl (32, .inl (upd (s39.1 4) ((σ.2.1 4) * 4 + 3) o)))) := by rw [hs51]; exact hw39.c4 _
  have ho51 : Out b 13 h (h39.set (b + 10) (.inl (32, .inl (upd (s39.1 4) ((σ.2.1 4) * 4 + 3) o)))) := ho39.set (by omega) (by omega)
  have hB51 : WB s51 := by rw [hs51]; exact hB39.uA
  generalize hh51 : (h39.set (b + 10) (.inl (32, .inl (upd (s39.1 4) ((σ.2.1 4) * 4 + 3) o)))) = h51 at hw51 ho51 ⊢
  clear hh51
  refine w_aload_n (pc := 54) (i := 0) dX1_addOrder_54 rfl rfl ?_
  refine w_get (pc := 55) dX1_addOrder_55 FX1_29 hw51.1 rfl ?_
  refine w_vI (pc := 58) dX1_addOrder_58 GX1_89 hw51.t4.1 (c_size hw51.t4) rfl rfl rfl rfl ?_
  subst hs4 hs17 hs28 hs39 hs51
  exact w_ireturn (pc := 61) dX1_addOrder_61 ⟨_, rfl, rfl⟩ ⟨_, rfl, rfl, hw51, ho51⟩
set_option maxHeartbeats 1000000 in
theorem c_packPipes_loop (bt s : Nat) (many x4 : Int32) (hB0 : WB σ) (hbt : bt < σ.2.1 2) (hs : s < 6) {P : AO → AH → Prop} (hK : ∀ h2, Wk b (kCp σ bt s 4) h2 → Out b 13 h h2 → WP (d + 2) mX1_packPipes none 0 0 48 [.ref b, .int (nI bt), .int (nI s), .int many, .int x4, .int (nI 4)] [] h2 P) : ∀ (m k : Nat) (h2 : AH), k + m = 4 → Wk b (kCp σ bt s k) h2 → Out b 13 h h2 → WP (d + 2) mX1_packPipes none 0 0 16 [.ref b, .int (nI bt), .int (nI s), .int many, .int x4, .int (nI k)] [] h2 P := by
  intro m
  induction m with
  | zero =>
    intro k h2 hk hw ho
    have hk : k = 4 := by omega
    subst hk
    refine w_iload (pc := 16) (i := 5) dX1_packPipes_16 rfl ?_
    refine w_iconst (pc := 18) (v := 4) dX1_packPipes_18 (by decide) ?_
    refine w_icmp_ge (pc := 19) (tgt := 48) dX1_packPipes_19 (by decide) (fun c19 => ?_) (fun c19 => absurd (by decide +kernel) c19)
    exact hK h2 hw ho
  | succ m ih =>
    intro k h2 hk hw ho
    have hB : WB (kCp σ bt s k) := hB0.of (kCp_R k)
    refine w_iload (pc := 16) (i := 5) dX1_packPipes_16 rfl ?_
    refine w_iconst (pc := 18) (v := 4) dX1_packPipes_18 (by decide) ?_
    refine w_icmp_ge (pc := 19) (tgt := 48) dX1_packPipes_19 (by decide) (fun c19 => absurd (show nI 4 ≤ nI k from c19) (nI_ge (by omega) (by omega))) (fun c19 => ?_)
    refine w_aload_n (pc := 22) (i := 0) dX1_packPipes_22 rfl rfl ?_
    refine w_get (pc := 23) dX1_packPipes_23 FX1_26 hw.1 rfl ?_
    refine w_iload_n (pc := 26) (i := 2) dX1_packPipes_26 rfl rfl ?_
    refine w_iload (pc := 27) (i := 5) dX1_packPipes_27 rfl ?_
    refine w_aload_n (pc := 29) (i := 0) dX1_packPipes_29 rfl rfl ?_
    refine w_get (pc := 30) dX1_packPipes_30 FX1_23 hw.1 rfl ?_
    refine w_iload_n (pc := 33) (i := 1) dX1_packPipes_33 rfl rfl ?_
    refine w_iload (pc := 34) (i := 5) dX1_packPipes_34 rfl ?_
    refine w_vI (pc := 36) dX1_packPipes_36 GX1_96 hw.t2.1 (c_at bt k hw.t2 hB.b2 (by rw [kCp_R]; exact hbt) (by omega)) rfl rfl rfl rfl ?_
    refine w_vV (pc := 39) dX1_packPipes_39 GX1_85 hw.t3.1 (c_put s k ((kCp σ bt s k).1 2 (bt * 4 + k)) hw.t3 hB.b3 (by rw [kCp_R, hB0.2.2.2.1]; exact hs) (by omega)) rfl rfl rfl rfl ?_
    obtain ⟨s39, hs39⟩ : ∃ z : WS, z = uA (kCp σ bt s k) 3 (upd ((kCp σ bt s k).1 3) (s * 4 + k) ((kCp σ bt s k).1 2 (bt * 4 + k))) := ⟨_, rfl⟩
    have hw39 : Wk b s39 (h2.set (b + 8) (.inl (24, .inl (upd ((kCp σ bt s k).1 3) (s * 4 + k) ((kCp σ bt s k).1 2 (bt * 4 + k)))))) := by rw [hs39]; exact hw.c3 _
    have ho39 : Out b 13 h (h2.set (b + 8) (.inl (24, .inl (upd ((kCp σ bt s k).1 3) (s * 4 + k) ((kCp σ bt s k).1 2 (bt * 4 + k)))))) := ho.set (by omega) (by omega)
    have hB39 : WB s39 := by rw [hs39]; exact hB.uA
    generalize hh39 : (h2.set (b + 8) (.inl (24, .inl (upd ((kCp σ bt s k).1 3) (s * 4 + k) ((kCp σ bt s k).1 2 (bt * 4 + k)))))) = h39 at hw39 ho39 ⊢
    clear hh39
    obtain ⟨x42, e42⟩ : ∃ y : Int32, y = (nI k) + 1 := ⟨_, rfl⟩
    refine w_iinc (pc := 42) (i := 5) (y := x42) (ls' := [.ref b, .int (nI bt), .int (nI s), .int many, .int x4, .int x42]) dX1_packPipes_42 rfl (by rw [e42]; rfl) (by decide) rfl rfl rfl ?_
    refine w_goto (pc := 45) (tgt := 16) dX1_packPipes_45 (by decide) ?_
    obtain rfl : x42 = nI (k + 1) := by rw [e42]; exact nI_1 k
    subst hs39
    exact ih (k + 1) h39 (by omega) hw39 ho39
set_option maxHeartbeats 1000000 in
theorem c_packPipes (bt s : Nat) (many : Int32) (hw : Wk b σ h) (hB : WB σ) (hbt : bt < σ.2.1 2) (hs : s < 6) : Ct (d + 2) mX1_packPipes 0 0 [.ref b, .int (nI bt), .int (nI s), .int many] h (NT (fun v h1 => v = some (.int (σ.1 2 (bt * 4 + 1) - many)) ∧ Wk b (kPack σ bt s many) h1 ∧ Out b 13 h h1)) := by
  refine Ct.of (by decide +kernel) rfl (Nat.le_of_ble_eq_true rfl) ?_
  show WP (d + 2) mX1_packPipes none 0 0 0 [.ref b, .int (nI bt), .int (nI s), .int many, vU, vU] [] h _
  have ho : Out b 13 h h := Out.rf
  refine w_aload_n (pc := 0) (i := 0) dX1_packPipes_0 rfl rfl ?_
  refine w_get (pc := 1) dX1_packPipes_1 FX1_23 hw.1 rfl ?_
  refine w_iload_n (pc := 4) (i := 1) dX1_packPipes_4 rfl rfl ?_
  refine w_iconst (pc := 5) (v := 1) dX1_packPipes_5 (by decide) ?_
  refine w_vI (pc := 6) dX1_packPipes_6 GX1_96 hw.t2.1 (c_at bt 1 hw.t2 hB.b2 hbt (by omega)) rfl rfl rfl rfl ?_
  refine w_iload_n (pc := 9) (i := 3) dX1_packPipes_9 rfl rfl ?_
  refine w_isub (pc := 10) dX1_packPipes_10 ?_
  refine w_topi (fun x11 e11 => ?_)
  refine w_istore (pc := 11) (i := 4) (ls' := [.ref b, .int (nI bt), .int (nI s), .int many, .int x11, vU]) dX1_packPipes_11 (by decide) rfl rfl rfl ?_
  refine w_iconst (pc := 13) (v := 0) dX1_packPipes_13 (by decide) ?_
  refine w_topi (fun x14 e14 => ?_)
  refine w_istore (pc := 14) (i := 5) (ls' := [.ref b, .int (nI bt), .int (nI s), .int many, .int x11, .int x14]) dX1_packPipes_14 (by decide) rfl rfl rfl ?_
  subst e11
  subst e14
  refine c_packPipes_loop (h := h) bt s many _ hB hbt hs (fun h2 hw2 ho2 => ?_) 4 0 h rfl hw ho
  have hB2 : WB (kCp σ bt s 4) := hB.of (kCp_R 4)
  refine w_aload_n (pc := 48) (i := 0) dX1_packPipes_48 rfl rfl ?_
  refine w_get (pc := 49) dX1_packPipes_49 FX1_26 hw2.1 rfl ?_
  refine w_iload_n (pc := 52) (i := 2) dX1_packPipes_52 rfl rfl ?_
  refine w_iconst (pc := 53) (v := 1) dX1_packPipes_53 (by decide) ?_
  refine w_iload_n (pc := 54) (i := 3) dX1_packPipes_54 rfl rfl ?_
  refine w_vV (pc := 55) dX1_packPipes_55 GX1_85 hw2.t3.1 (c_put s 1 many hw2.t3 hB2.b3 (by rw [hB2.2.2.2.1]; exact hs) (by omega)) rfl rfl rfl rfl ?_
  obtain ⟨s55, hs55⟩ : ∃ z : WS, z = uA (kCp σ bt s 4) 3 (upd ((kCp σ bt s 4).1 3) (s * 4 + 1) many) := ⟨_, rfl⟩
  have hw55 : Wk b s55 (h2.set (b + 8) (.inl (24, .inl (upd ((kCp σ bt s 4).1 3) (s * 4 + 1) many)))) := by rw [hs55]; exact hw2.c3 _
  have ho55 : Out b 13 h (h2.set (b + 8) (.inl (24, .inl (upd ((kCp σ bt s 4).1 3) (s * 4 + 1) many)))) := ho2.set (by omega) (by omega)
  have hB55 : WB s55 := by rw [hs55]; exact hB2.uA
  generalize hh55 : (h2.set (b + 8) (.inl (24, .inl (upd ((kCp σ bt s 4).1 3) (s * 4 + 1) many)))) = h55 at hw55 ho55 ⊢
  clear hh55
  refine w_aload_n (pc := 58) (i := 0) dX1_packPipes_58 rfl rfl ?_
  refine w_get (pc := 59) dX1_packPipes_59 FX1_23 hw55.1 rfl ?_
  refine w_iload_n (pc := 62) (i := 1) dX1_packPipes_62 rfl rfl ?_
  refine w_iconst (pc := 63) (v := 1) dX1_packPipes_63 (by decide) ?_
  refine w_iload (pc := 64) (i := 4) dX1_packPipes_64 rfl ?_
  refine w_vV (pc := 66) dX1_packPipes_66 GX1_85 hw55.t2.1 (c_put bt 1 (σ.1 2 (bt * 4 + 1) - many) hw55.t2 hB55.b2 (by rw [hs55]; show bt < (kCp σ bt s 4).2.1 2; rw [kCp_R]; exact hbt) (by omega)) rfl rfl rfl rfl ?_
  obtain ⟨s66, hs66⟩ : ∃ z : WS, z = uA s55 2 (upd (s55.1 2) (bt * 4 + 1) (σ.1 2 (bt * 4 + 1) - many)) := ⟨_, rfl⟩
  have hw66 : Wk b s66 (h55.set (b + 6) (.inl (40, .inl (upd (s55.1 2) (bt * 4 + 1) (σ.1 2 (bt * 4 + 1) - many))))) := by rw [hs66]; exact hw55.c2 _
  have ho66 : Out b 13 h (h55.set (b + 6) (.inl (40, .inl (upd (s55.1 2) (bt * 4 + 1) (σ.1 2 (bt * 4 + 1) - many))))) := ho55.set (by omega) (by omega)
  have hB66 : WB s66 := by rw [hs66]; exact hB55.uA
  generalize hh66 : (h55.set (b + 6) (.inl (40, .inl (upd (s55.1 2) (bt * 4 + 1) (σ.1 2 (bt * 4 + 1) - many))))) = h66 at hw66 ho66 ⊢
  clear hh66
  refine w_iload (pc := 69) (i := 4) dX1_packPipes_69 rfl ?_
  refine w_if_ne (pc := 71) (tgt := 82) dX1_packPipes_71 (by decide) (fun c71 => ?_) (fun c71 => ?_)
  · refine w_iload (pc := 82) (i := 4) dX1_packPipes_82 rfl ?_
    subst hs55 hs66
    exact w_ireturn (pc := 84) dX1_packPipes_84 ⟨_, rfl, rfl⟩ ⟨_, rfl, rfl, by unfold kPack; rw [if_neg c71]; exact hw66, ho66⟩
  · refine w_aload_n (pc := 74) (i := 0) dX1_packPipes_74 rfl rfl ?_
    refine w_get (pc := 75) dX1_packPipes_75 FX1_23 hw66.1 rfl ?_
    refine w_iload_n (pc := 78) (i := 1) dX1_packPipes_78 rfl rfl ?_
    have hlt : bt < s66.2.1 2 := by rw [hs66, hs55]; show bt < (kCp σ bt s 4).2.1 2; rw [kCp_R]; exact hbt
    refine w_vV (pc := 79) dX1_packPipes_79 GX1_115 hw66.t2.1 (c_removeRow bt hw66.t2 (by omega) hB66.b2 hlt (by omega)) rfl rfl rfl rfl ?_
    obtain ⟨s79a, hs79a⟩ : ∃ z : WS, z = uR s66 2 (s66.2.1 2 - 1) := ⟨_, rfl⟩
    have hw79a : Wk b s79a (h66.set (b + 5) (.inr (0, [.ref (b + 6), .int (nI 4), .int (nI (s66.2.1 2 - 1))]))) := by rw [hs79a]; exact hw66.r2 _
    have ho79a : Out b 13 h (h66.set (b + 5) (.inr (0, [.ref (b + 6), .int (nI 4), .int (nI (s66.2.1 2 - 1))]))) := ho66.set (by omega) (by omega)
    have hB79a : WB s79a := by rw [hs79a]; exact ⟨hB66.1, hB66.2.1, show s66.2.1 2 - 1 ≤ 10 by have := hB66.2.2.1; omega, hB66.2.2.2⟩
    generalize hh79a : (h66.set (b + 5) (.inr (0, [.ref (b + 6), .int (nI 4), .int (nI (s66.2.1 2 - 1))]))) = h79a at hw79a ho79a ⊢
    clear hh79a
    obtain ⟨s79b, hs79b⟩ : ∃ z : WS, z = uA s79a 2 (tRem (s66.1 2) 4 (s66.2.1 2) bt) := ⟨_, rfl⟩
    have hw79b : Wk b s79b (h79a.set (b + 6) (.inl (40, .inl (tRem (s66.1 2) 4 (s66.2.1 2) bt)))) := by rw [hs79b]; exact hw79a.c2 _
    have ho79b : Out b 13 h (h79a.set (b + 6) (.inl (40, .inl (tRem (s66.1 2) 4 (s66.2.1 2) bt)))) := ho79a.set (by omega) (by omega)
    have hB79b : WB s79b := by rw [hs79b]; exact hB79a.uA
    generalize hh79b : (h79a.set (b + 6) (.inl (40, .inl (tRem (s66.1 2) 4 (s66.2.1 2) bt)))) = h79b at hw79b ho79b ⊢
    clear hh79b
    refine w_iload (pc := 82) (i := 4) dX1_packPipes_82 rfl ?_
    subst hs55 hs66 hs79a hs79b
    exact w_ireturn (pc := 84) dX1_packPipes_84 ⟨_, rfl, rfl⟩ ⟨_, rfl, rfl, by unfold kPack; rw [if_pos c71]; exact hw79b, ho79b⟩
set_option maxHeartbeats 1000000 in
theorem c_unloadFired_loop (s : Nat) (y x3 x4 : Int32) (hB0 : WB σ) (hs : s < 6) : ∀ (m k : Nat) (h2 : AH), k + m = 4 → Wk b (kZr σ s k) h2 → Out b 13 h h2 → WP (d + 2) mX1_unloadFired none 0 0 48 [.ref b, .int (nI s), .int y, .int x3, .int x4, .int (nI k)] [] h2 (NT (fun v h1 => v = some (.int x4) ∧ Wk b (kZr σ s 4) h1 ∧ Out b 13 h h1)) := by
  intro m
  induction m with
  | zero =>
    intro k h2 hk hw ho
    have hk : k = 4 := by omega
    subst hk
    refine w_iload (pc := 48) (i := 5) dX1_unloadFired_48 rfl ?_
    refine w_iconst (pc := 50) (v := 4) dX1_unloadFired_50 (by decide) ?_
    refine w_icmp_ge (pc := 51) (tgt := 71) dX1_unloadFired_51 (by decide) (fun c51 => ?_) (fun c51 => absurd (by decide +kernel) c51)
    refine w_iload (pc := 71) (i := 4) dX1_unloadFired_71 rfl ?_
    exact w_ireturn (pc := 73) dX1_unloadFired_73 ⟨_, rfl, rfl⟩ ⟨_, rfl, rfl, hw, ho⟩
  | succ m ih =>
    intro k h2 hk hw ho
    have hB : WB (kZr σ s k) := hB0.of (kZr_R k)
    refine w_iload (pc := 48) (i := 5) dX1_unloadFired_48 rfl ?_
    refine w_iconst (pc := 50) (v := 4) dX1_unloadFired_50 (by decide) ?_
    refine w_icmp_ge (pc := 51) (tgt := 71) dX1_unloadFired_51 (by decide) (fun c51 => absurd (show nI 4 ≤ nI k from c51) (nI_ge (by omega) (by omega))) (fun c51 => ?_)
    refine w_aload_n (pc := 54) (i := 0) dX1_unloadFired_54 rfl rfl ?_
    refine w_get (pc := 55) dX1_unloadFired_55 FX1_26 hw.1 rfl ?_
    refine w_iload_n (pc := 58) (i := 1) dX1_unloadFired_58 rfl rfl ?_
    refine w_iload (pc := 59) (i := 5) dX1_unloadFired_59 rfl ?_
    refine w_iconst (pc := 61) (v := 0) dX1_unloadFired_61 (by decide) ?_
    refine w_vV (pc := 62) dX1_unloadFired_62 GX1_85 hw.t3.1 (c_put s k 0 hw.t3 hB.b3 (by rw [kZr_R, hB0.2.2.2.1]; exact hs) (by omega)) rfl rfl rfl rfl ?_
    obtain ⟨s62, hs62⟩ : ∃ z : WS, z = uA (kZr σ s k) 3 (upd ((kZr σ s k).1 3) (s * 4 + k) 0) := ⟨_, rfl⟩
    have hw62 : Wk b s62 (h2.set (b + 8) (.inl (24, .inl (upd ((kZr σ s k).1 3) (s * 4 + k) 0)))) := by rw [hs62]; exact hw.c3 _
    have ho62 : Out b 13 h (h2.set (b + 8) (.inl (24, .inl (upd ((kZr σ s k).1 3) (s * 4 + k) 0)))) := ho.set (by omega) (by omega)
    have hB62 : WB s62 := by rw [hs62]; exact hB.uA
    generalize hh62 : (h2.set (b + 8) (.inl (24, .inl (upd ((kZr σ s k).1 3) (s * 4 + k) 0)))) = h62 at hw62 ho62 ⊢
    clear hh62
    obtain ⟨x65, e65⟩ : ∃ y : Int32, y = (nI k) + 1 := ⟨_, rfl⟩
    refine w_iinc (pc := 65) (i := 5) (y := x65) (ls' := [.ref b, .int (nI s), .int y, .int x3, .int x4, .int x65]) dX1_unloadFired_65 rfl (by rw [e65]; rfl) (by decide) rfl rfl rfl ?_
    refine w_goto (pc := 68) (tgt := 48) dX1_unloadFired_68 (by decide) ?_
    obtain rfl : x65 = nI (k + 1) := by rw [e65]; exact nI_1 k
    subst hs62
    exact ih (k + 1) h62 (by omega) hw62 ho62
set_option maxHeartbeats 1000000 in
theorem c_unloadFired (s : Nat) (y : Int32) (hw : Wk b σ h) (hB : WB σ) (hs : s < 6) : Ct (d + 2) mX1_unloadFired 0 0 [.ref b, .int (nI s), .int y] h (NT (fun v h1 => v = some (.int (kUnloadV σ s y)) ∧ Wk b (kUnload σ s y) h1 ∧ Out b 13 h h1)) := by
  refine Ct.of (by decide +kernel) rfl (Nat.le_of_ble_eq_true rfl) ?_
  show WP (d + 2) mX1_unloadFired none 0 0 0 [.ref b, .int (nI s), .int y, vU, vU, vU] [] h _
  have ho : Out b 13 h h := Out.rf
  have hs3 : s < σ.2.1 3 := by rw [hB.2.2.2.1]; exact hs
  refine w_aload_n (pc := 0) (i := 0) dX1_unloadFired_0 rfl rfl ?_
  refine w_iload_n (pc := 1) (i := 1) dX1_unloadFired_1 rfl rfl ?_
  refine w_iload_n (pc := 2) (i := 2) dX1_unloadFired_2 rfl rfl ?_
  refine w_vI (pc := 3) dX1_unloadFired_3 GX1_127 hw.1 (c_stemsThatBreak s y hw hB hs) rfl rfl rfl rfl ?_
  refine w_topi (fun x6 e6 => ?_)
  refine w_istore_n (pc := 6) (i := 3) (ls' := [.ref b, .int (nI s), .int y, .int x6, vU, vU]) dX1_unloadFired_6 rfl (by decide) rfl rfl rfl ?_
  subst e6
  refine w_aload_n (pc := 7) (i := 0) dX1_unloadFired_7 rfl rfl ?_
  refine w_get (pc := 8) dX1_unloadFired_8 FX1_26 hw.1 rfl ?_
  refine w_iload_n (pc := 11) (i := 1) dX1_unloadFired_11 rfl rfl ?_
  refine w_iconst (pc := 12) (v := 1) dX1_unloadFired_12 (by decide) ?_
  refine w_vI (pc := 13) dX1_unloadFired_13 GX1_96 hw.t3.1 (c_at s 1 hw.t3 hB.b3 hs3 (by omega)) rfl rfl rfl rfl ?_
  refine w_iload_n (pc := 16) (i := 3) dX1_unloadFired_16 rfl rfl ?_
  refine w_isub (pc := 17) dX1_unloadFired_17 ?_
  refine w_topi (fun x18 e18 => ?_)
  refine w_istore (pc := 18) (i := 4) (ls' := [.ref b, .int (nI s), .int y, .int (kStems σ s y), .int x18, vU]) dX1_unloadFired_18 (by decide) rfl rfl rfl ?_
  have e18 : x18 = kUnloadV σ s y := e18
  subst e18
  refine w_aload_n (pc := 20) (i := 0) dX1_unloadFired_20 rfl rfl ?_
  refine w_dup (pc := 21) dX1_unloadFired_21 rfl ?_
  refine w_get (pc := 22) dX1_unloadFired_22 FX1_68 hw.1 rfl ?_
  refine w_iload_n (pc := 25) (i := 3) dX1_unloadFired_25 rfl rfl ?_
  refine w_iadd (pc := 26) dX1_unloadFired_26 ?_
  refine w_put (pc := 27) dX1_unloadFired_27 UX1_68 hw.1 (Nat.le_of_ble_eq_true rfl) nv_i (fun _ q => by cases q) ?_
  obtain ⟨s27, hs27⟩ : ∃ z : WS, z = uS σ 5 (σ.2.2 5 + kStems σ s y) := ⟨_, rfl⟩
  have hw27 : Wk b s27 (h.set b (.inr (1, (wkF b σ).set 12 (.int (σ.2.2 5 + kStems σ s y))))) := by rw [hs27]; exact hw.s5 _
  have ho27 : Out b 13 h (h.set b (.inr (1, (wkF b σ).set 12 (.int (σ.2.2 5 + kStems σ s y))))) := ho.set (by omega) (by omega)
  have hB27 : WB s27 := by rw [hs27]; exact hB.uS
  generalize hh27 : (h.set b (.inr (1, (wkF b σ).set 12 (.int (σ.2.2 5 + kStems σ s y))))) = h27 at hw27 ho27 ⊢
  clear hh27
  refine w_aload_n (pc := 30) (i := 0) dX1_unloadFired_30 rfl rfl ?_
  refine w_aload_n (pc := 31) (i := 0) dX1_unloadFired_31 rfl rfl ?_
  refine w_get (pc := 32) dX1_unloadFired_32 FX1_26 hw27.1 rfl ?_
  refine w_iload_n (pc := 35) (i := 1) dX1_unloadFired_35 rfl rfl ?_
  refine w_iconst (pc := 36) (v := 0) dX1_unloadFired_36 (by decide) ?_
  refine w_vI (pc := 37) dX1_unloadFired_37 GX1_96 hw27.t3.1 (c_at s 0 hw27.t3 hB27.b3 (by rw [hs27]; exact hs3) (by omega)) rfl rfl rfl rfl ?_
  refine w_iload (pc := 40) (i := 4) dX1_unloadFired_40 rfl ?_
  refine w_vQ (pc := 42) dX1_unloadFired_42 GX1_136 hw27.1 (c_addWhole (s27.1 3 (s * 4 + 0)) (kUnloadV σ s y) hw27) rfl rfl rfl rfl ?_
  rintro v42 h42 ⟨rfl, hw42, hq42⟩
  have ho42 := ho27.tr hq42
  obtain ⟨s42, hs42⟩ : ∃ z : WS, z = kAddWhole s27 (s27.1 3 (s * 4 + 0)) (kUnloadV σ s y) := ⟨_, rfl⟩
  rw [← hs42] at hw42
  have hB42 : WB s42 := by rw [hs42]; exact hB27.of kAddWhole_R
  refine w_iconst (pc := 45) (v := 0) dX1_unloadFired_45 (by decide) ?_
  refine w_topi (fun x46 e46 => ?_)
  refine w_istore (pc := 46) (i := 5) (ls' := [.ref b, .int (nI s), .int y, .int (kStems σ s y), .int (kUnloadV σ s y), .int x46]) dX1_unloadFired_46 (by decide) rfl rfl rfl ?_
  subst e46
  have hL := c_unloadFired_loop (d := d) (h := h) s y (kStems σ s y) (kUnloadV σ s y) hB42 hs 4 0 h42 rfl hw42 ho42
  subst hs27 hs42
  exact hL
set_option maxHeartbeats 1000000 in
theorem c_fireKiln_loop (y : Int32) (hB0 : WB σ) : ∀ (m k : Nat) (h2 : AH), k + m = 6 → Wk b (kFr σ y k).2 h2 → Out b 13 h h2 → WP (d + 3) mX1_fireKiln none 0 0 4 [.ref b, .int y, .int (kFr σ y k).1, .int (nI k)] [] h2 (NT (fun v h1 => v = some (.int (kFr σ y 6).1) ∧ Wk b (kFire σ y) h1 ∧ Out b 13 h h1)) := by
  intro m
  induction m with
  | zero =>
    intro k h2 hk hw ho
    have hk : k = 6 := by omega
    subst hk
    have hB : WB (kFr σ y 6).2 := hB0.of (kFr_R 6)
    refine w_iload_n (pc := 4) (i := 3) dX1_fireKiln_4 rfl rfl ?_
    refine w_bipush (pc := 5) (v := 6) dX1_fireKiln_5 (by decide) ?_
    refine w_icmp_ge (pc := 7) (tgt := 25) dX1_fireKiln_7 (by decide) (fun c7 => ?_) (fun c7 => absurd (by decide +kernel) c7)
    refine w_aload_n (pc := 25) (i := 0) dX1_fireKiln_25 rfl rfl ?_
    refine w_dup (pc := 26) dX1_fireKiln_26 rfl ?_
    refine w_get (pc := 27) dX1_fireKiln_27 FX1_43 hw.1 rfl ?_
    refine w_iload_n (pc := 30) (i := 1) dX1_fireKiln_30 rfl rfl ?_
    refine w_isub (pc := 31) dX1_fireKiln_31 ?_
    refine w_put (pc := 32) dX1_fireKiln_32 UX1_43 hw.1 (Nat.le_of_ble_eq_true rfl) nv_i (fun _ q => by cases q) ?_
    obtain ⟨s32, hs32⟩ : ∃ z : WS, z = uS (kFr σ y 6).2 2 ((kFr σ y 6).2.2.2 2 - y) := ⟨_, rfl⟩
    have hw32 : Wk b s32 (h2.set b (.inr (1, (wkF b (kFr σ y 6).2).set 9 (.int ((kFr σ y 6).2.2.2 2 - y))))) := by rw [hs32]; exact hw.s2 _
    have ho32 : Out b 13 h (h2.set b (.inr (1, (wkF b (kFr σ y 6).2).set 9 (.int ((kFr σ y 6).2.2.2 2 - y))))) := ho.set (by omega) (by omega)
    have hB32 : WB s32 := by rw [hs32]; exact hB.uS
    generalize hh32 : (h2.set b (.inr (1, (wkF b (kFr σ y 6).2).set 9 (.int ((kFr σ y 6).2.2.2 2 - y))))) = h32 at hw32 ho32 ⊢
    clear hh32
    refine w_iload_n (pc := 35) (i := 2) dX1_fireKiln_35 rfl rfl ?_
    subst hs32
    exact w_ireturn (pc := 36) dX1_fireKiln_36 ⟨_, rfl, rfl⟩ ⟨_, rfl, rfl, hw32, ho32⟩
  | succ m ih =>
    intro k h2 hk hw ho
    have hB : WB (kFr σ y k).2 := hB0.of (kFr_R k)
    refine w_iload_n (pc := 4) (i := 3) dX1_fireKiln_4 rfl rfl ?_
    refine w_bipush (pc := 5) (v := 6) dX1_fireKiln_5 (by decide) ?_
    refine w_icmp_ge (pc := 7) (tgt := 25) dX1_fireKiln_7 (by decide) (fun c7 => absurd (show nI 6 ≤ nI k from c7) (nI_ge (by omega) (by omega))) (fun c7 => ?_)
    refine w_iload_n (pc := 10) (i := 2) dX1_fireKiln_10 rfl rfl ?_
    refine w_aload_n (pc := 11) (i := 0) dX1_fireKiln_11 rfl rfl ?_
    refine w_iload_n (pc := 12) (i := 3) dX1_fireKiln_12 rfl rfl ?_
    refine w_iload_n (pc := 13) (i := 1) dX1_fireKiln_13 rfl rfl ?_
    refine w_vQ (pc := 14) dX1_fireKiln_14 GX1_133 hw.1 (c_unloadFired k y hw hB (by omega)) rfl rfl rfl rfl ?_
    rintro v14 h14 ⟨rfl, hw14, hq14⟩
    have ho14 := ho.tr hq14
    obtain ⟨s14, hs14⟩ : ∃ z : WS, z = kUnload (kFr σ y k).2 k y := ⟨_, rfl⟩
    rw [← hs14] at hw14
    have hB14 : WB s14 := by rw [hs14]; exact hB.of kUnload_R
    show WP (d + 3) mX1_fireKiln none 0 0 17 _ [.int (kUnloadV (kFr σ y k).2 k y), .int (kFr σ y k).1] _ _
    refine w_iadd (pc := 17) dX1_fireKiln_17 ?_
    refine w_topi (fun x18 e18 => ?_)
    refine w_istore_n (pc := 18) (i := 2) (ls' := [.ref b, .int y, .int x18, .int (nI k)]) dX1_fireKiln_18 rfl (by decide) rfl rfl rfl ?_
    obtain ⟨x19, e19⟩ : ∃ y : Int32, y = (nI k) + 1 := ⟨_, rfl⟩
    refine w_iinc (pc := 19) (i := 3) (y := x19) (ls' := [.ref b, .int y, .int x18, .int x19]) dX1_fireKiln_19 rfl (by rw [e19]; rfl) (by decide) rfl rfl rfl ?_
    refine w_goto (pc := 22) (tgt := 4) dX1_fireKiln_22 (by decide) ?_
    obtain rfl : x18 = (kFr σ y (k + 1)).1 := e18
    obtain rfl : x19 = nI (k + 1) := by rw [e19]; exact nI_1 k
    subst hs14
    exact ih (k + 1) h14 (by omega) hw14 ho14
set_option maxHeartbeats 1000000 in
theorem c_fireKiln (y : Int32) (hw : Wk b σ h) (hB : WB σ) : Ct (d + 3) mX1_fireKiln 0 0 [.ref b, .int y] h (NT (fun v h1 => v = some (.int (kFr σ y 6).1) ∧ Wk b (kFire σ y) h1 ∧ Out b 13 h h1)) := by
  refine Ct.of (by decide +kernel) rfl (Nat.le_of_ble_eq_true rfl) ?_
  show WP (d + 3) mX1_fireKiln none 0 0 0 [.ref b, .int y, vU, vU] [] h _
  refine w_iconst (pc := 0) (v := 0) dX1_fireKiln_0 (by decide) ?_
  refine w_topi (fun x1 e1 => ?_)
  refine w_istore_n (pc := 1) (i := 2) (ls' := [.ref b, .int y, .int x1, vU]) dX1_fireKiln_1 rfl (by decide) rfl rfl rfl ?_
  refine w_iconst (pc := 2) (v := 0) dX1_fireKiln_2 (by decide) ?_
  refine w_topi (fun x3 e3 => ?_)
  refine w_istore_n (pc := 3) (i := 3) (ls' := [.ref b, .int y, .int x1, .int x3]) dX1_fireKiln_3 rfl (by decide) rfl rfl rfl ?_
  subst e1
  subst e3
  exact c_fireKiln_loop y hB 6 0 h rfl hw Out.rf
end WORKS3
