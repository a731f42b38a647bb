/-! PipeMoulds: its calls -/
abbrev IAE : String := "java/lang/IllegalArgumentException"
abbrev ISE : String := "java/lang/IllegalStateException"
abbrev IOE : String := "java/lang/IndexOutOfBoundsException"
def inB (x lo hi : Int32) : Int32 := if lo ≤ x ∧ x ≤ hi then 1 else 0
def hR (n : Nat) (x : Int32) : Int32 := if x < 0 ∨ nI n ≤ x then 0 else 1
theorem inB_of {x lo hi : Int32} (h : ¬ inB x lo hi = 0) : lo ≤ x ∧ x ≤ hi := by
  unfold inB at h
  by_cases q : lo ≤ x ∧ x ≤ hi
  · exact q
  · rw [if_neg q] at h; exact absurd rfl h
theorem hR_of {n : Nat} {x : Int32} (h : ¬ hR n x = 0) (hn : n < 2 ^ 31) : ∃ m, m < n ∧ x = nI m := by
  unfold hR at h
  rcases pk_ix x hn with q | q | q
  · rw [if_pos (Or.inl q)] at h; exact absurd rfl h
  · rw [if_pos (Or.inr q)] at h; exact absurd rfl h
  · exact q
theorem inB_nat {x : Int32} {n : Nat} (h : ¬ inB x 0 (nI n) = 0) (hn : n < 2 ^ 31) : ∃ m, m ≤ n ∧ x = nI m := by
  obtain ⟨h1, h2⟩ := inB_of h
  have hx := Int32.toInt_lt x
  rw [Int32.le_iff_toInt_le] at h1 h2
  have e2 : (nI n).toInt = n := nI_toInt hn
  have e1 : (0 : Int32).toInt = 0 := rfl
  refine ⟨x.toInt.toNat, by omega, ?_⟩
  apply Int32.toInt_inj.mp
  rw [nI_toInt (by omega)]
  omega
theorem inB_nar {x lo hi : Int32} : narrow .boolean (.int (inB x lo hi)) = .int (inB x lo hi) := by unfold inB; split <;> rfl
abbrev Res : Type := String ⊕ (Int32 × WS)
def Pm (σ : WS) (h : AH) : Prop := h[0]? = some (.inr (2, [.ref 1, .ref 14])) ∧ Wk 1 σ h ∧ WB σ ∧ ∃ φ, Wk 14 φ h ∧ WB φ
def PR (r : Res) (h : AH) : AO → AH → Prop := fun o h' => match r with
  | .inl E => o = .inr E ∧ h' = h
  | .inr q => o = .inl (some (.int q.1)) ∧ Pm q.2 h' ∧ Out 0 27 h h'
theorem PR.no {r : Res} {E : String} {h : AH} (e : r = .inl E) : PR r h (.inr E) h := by subst e; exact ⟨rfl, rfl⟩
theorem PR.yes {r : Res} {v : Int32} {σ : WS} {h h1 : AH} (e : r = .inr (v, σ)) (hp : Pm σ h1 ∧ Out 0 27 h h1) : PR r h (.inl (some (.int v))) h1 := by subst e; exact ⟨rfl, hp⟩
theorem Out.mono {b w b' w' : Nat} {h h1 : AH} (a : Out b w h h1) (h0 : b' ≤ b) (h2 : b + w ≤ b' + w') : Out b' w' h h1 := ⟨a.1, fun i hi => a.2 i (by omega)⟩
theorem Pm.same {σ : WS} {h : AH} (hp : Pm σ h) : Pm σ h ∧ Out 0 27 h h := ⟨hp, Out.rf⟩
theorem Pm.upd {σ σ' : WS} {h h1 : AH} (hp : Pm σ h) (hw : Wk 1 σ' h1) (hB : WB σ') (ho : Out 1 13 h h1) : Pm σ' h1 ∧ Out 0 27 h h1 := by
  obtain ⟨p1, p2, p3, φ, p4, p5⟩ := hp
  exact ⟨⟨by rw [ho.2 0 (by omega)]; exact p1, hw, hB, φ, p4.out ho (by omega), p5⟩, ho.mono (by omega) (by omega)⟩
theorem Pm.upd2 {σ φ : WS} {h h1 : AH} (hp : Pm σ h) (hw : Wk 14 φ h1) (hB : WB φ) (ho : Out 14 13 h h1) : Pm σ h1 ∧ Out 0 27 h h1 := by
  obtain ⟨p1, p2, p3, -⟩ := hp
  exact ⟨⟨by rw [ho.2 0 (by omega)]; exact p1, p2.out ho (by omega), p3, φ, hw, hB⟩, ho.mono (by omega) (by omega)⟩
theorem w_req {d : Nat} {M M' : MD} {z : Option (Nat × (Nat → Int32))} {k n pc i : Nat} {ls st : List Value} {h : AH} {P : AO → AH → Prop} {v : Int32} {E : String} (hd : decode (mdB M) pc = .ok (.invokestatic i, 3)) (hg : GS (mdY M).cls i M' 1)
    (hct : Ct (d + 6) M' 1 6 [.int v] h (fun o h' => h' = h ∧ ((¬ v = 0 ∧ o = .inl none) ∨ (v = 0 ∧ o = .inr E)))) (hM : mdH M = []) (ho : okC st = true) (kk : ¬ v = 0 → WP (d + 7) M z k n (pc + 3) ls st h P) (kx : v = 0 → P (.inr E) h) : WP (d + 7) M z (k + 1) (n + 6) pc ls (.int v :: st) h P := by
  refine w_s hd hg hct rfl rfl rfl ho (Nat.add_comm k 1) (Nat.add_comm n 6) (fun av h' q => ?_) (fun E' h' q => ?_)
  · obtain ⟨rfl, ⟨q1, q2⟩ | ⟨q1, q2⟩⟩ := q
    · injection q2 with q3
      subst q3
      exact kk q1
    · cases q2
  · obtain ⟨rfl, ⟨q1, q2⟩ | ⟨q1, q2⟩⟩ := q
    · cases q2
    · injection q2 with q3
      subst q3
      exact x_out (by rw [hM]; rfl) (kx q1)
def aCell (f : Nat → Int32) (cols rows : Nat) (x y : Int32) : Option Int32 := if hR rows x = 0 then none else if hR cols y = 0 then none else some (f (x.toNatClampNeg * cols + y.toNatClampNeg))
def aCellR (f : Nat → Int32) (cols rows : Nat) (x y : Int32) (σ : WS) : Res := match aCell f cols rows x y with
  | none => .inl IOE
  | some r => .inr (r, σ)
def aMould (σ : WS) (x y : Int32) : Res := if inB x 4 24 = 0 then .inl IAE else if inB y 0 9 = 0 then .inl IAE else if σ.2.1 0 < 6 then .inr (nI (σ.2.1 0), kAddMould σ x y) else .inl ISE
def kRefit (σ : WS) (m : Nat) : WS := uC (uS σ 3 (σ.2.2 3 - 2)) 0 m 3 1 9
def aRefit (σ : WS) (x : Int32) : Res := if hR (σ.2.1 0) x = 0 then .inl IOE else if σ.1 0 (x.toNatClampNeg * 3 + 1) = 9 then .inl ISE else if σ.2.2 3 < 2 then .inl ISE else .inr (σ.1 0 (x.toNatClampNeg * 3 + 1), kRefit σ x.toNatClampNeg)
def aMaker (σ : WS) (x : Int32) : Res := if inB x 1 9 = 0 then .inl IAE else if σ.2.1 1 < 5 then .inr (nI (σ.2.1 1), kAddMaker σ x) else .inl ISE
def aPlace (σ : WS) (x y : Int32) : Res := if hR (σ.2.1 1) x = 0 then .inl IOE else if ¬ y = -1 ∧ hR (σ.2.1 0) y = 0 then .inl IOE else if kAnother σ y x = 0 then .inr (σ.1 1 (x.toNatClampNeg * 2 + 1), uC σ 1 x.toNatClampNeg 2 1 y) else .inl ISE
def kPrice (x y : Int32) : Int32 := if x = 0 then (y + 3) / 4 else y
def kBuy (σ : WS) (x y : Int32) : Int32 × WS := if x = 0 then (σ.2.2 1 + y, uS (uS σ 3 (σ.2.2 3 - kPrice x y)) 1 (σ.2.2 1 + y)) else (σ.2.2 2 + y, uS (uS σ 3 (σ.2.2 3 - kPrice x y)) 2 (σ.2.2 2 + y))
def aBuy (σ : WS) (x y : Int32) : Res := if inB x 0 1 = 0 then .inl IOE else if inB y 1 200 = 0 then .inl IAE else if σ.2.2 3 < kPrice x y then .inl ISE else .inr (kBuy σ x y)
def aSetDry (σ : WS) (x y : Int32) : Res := if inB x 0 6 = 0 then .inl IOE else if inB y 0 3 = 0 then .inl IAE else .inr (kDries σ x, kSetDry σ x.toNatClampNeg y)
def aPack (σ : WS) (x y u : Int32) : Res := if hR (σ.2.1 2) x = 0 then .inl IOE else if hR (σ.2.1 3) y = 0 then .inl IOE else if inB u 1 24 = 0 then .inl IAE else if σ.1 3 (y.toNatClampNeg * 4 + 1) = 0 then (if σ.1 2 (x.toNatClampNeg * 4 + 1) < u then .inl ISE else .inr (σ.1 2 (x.toNatClampNeg * 4 + 1) - u, kPack σ x.toNatClampNeg y.toNatClampNeg u)) else .inl ISE
def aFire (σ : WS) (x : Int32) : Res := if inB x 1 30 = 0 then .inl IAE else if σ.2.2 2 < x then .inl ISE else if tSum (σ.1 3) 4 1 (σ.2.1 3) = 0 then .inl ISE else .inr ((kFr σ x 6).1, kFire σ x)
def aOrder (σ : WS) (x y u o : Int32) : Res := if inB x 4 24 = 0 then .inl IAE else if inB y 1 99 = 0 then .inl IAE else if inB u 0 30 = 0 then .inl IAE else if inB o 1 99 = 0 then .inl IAE else if σ.2.1 4 < 8 then .inr (nI (σ.2.1 4 + 1), kAddOrder σ x y u o) else .inl ISE
def aAbout (σ : WS) (x y : Int32) : Res := if hR (σ.2.1 0) x = 0 then .inl IOE else if inB y 0 5 = 0 then .inl IOE else .inr (kAbout σ x.toNatClampNeg y.toNatClampNeg, σ)
def aStore (σ : WS) (x : Int32) : Res := if inB x 4 24 = 0 then .inl IOE else .inr (kWholeOf σ x, σ)
def aCount (σ : WS) (x : Int32) : Res := if inB x 0 11 = 0 then .inl IOE else .inr (kCount σ x.toNatClampNeg, σ)
def aPass (σ : WS) (x : Int32) : Res := if inB x 1 40 = 0 then .inl IAE else .inr ((kDays σ x.toNatClampNeg).2.2 4 - σ.2.2 4, kDays σ x.toNatClampNeg)
def aBreaks (σ : WS) (x y : Int32) : Res := if hR (σ.2.1 3) x = 0 then .inl IOE else if inB y 1 30 = 0 then .inl IAE else .inr (kStems σ x.toNatClampNeg y, σ)
def kAdvise (σ : WS) : Int32 := if tSum (σ.1 3) 4 1 (σ.2.1 3) = 0 then -1 else (kBs σ 29).1
def aReady (σ φ : WS) (x : Int32) : Res := if hR (σ.2.1 4) x = 0 then .inl IOE else .inr (kTillV (kCopy φ σ) x.toNatClampNeg, σ)
def aForesee (σ φ : WS) (x y : Int32) : Res := if inB x 1 40 = 0 then .inl IAE else if inB y 0 11 = 0 then .inl IOE else .inr (kCount (kDays (kCopy φ σ) x.toNatClampNeg) y.toNatClampNeg, σ)
theorem inB_pos {x : Int32} {lo : Int32} {n : Nat} (h : ¬ inB x lo (nI n) = 0) (hl : 0 ≤ lo) (hn : n < 2 ^ 31) : ∃ m, m ≤ n ∧ x = nI m := by
  obtain ⟨h1, h2⟩ := inB_of h
  have h0 := Int32.le_trans hl h1
  exact inB_nat (n := n) (fun q => by unfold inB at q; rw [if_pos ⟨h0, h2⟩] at q; exact absurd q (by decide)) hn
theorem kRefit_R {σ : WS} {m : Nat} : (kRefit σ m).2.1 = σ.2.1 := rfl
theorem WB.add0 {σ : WS} (h : WB σ) (hn : σ.2.1 0 < 6) : WB (kRow σ 0) := ⟨show σ.2.1 0 + 1 ≤ 6 by omega, h.2⟩
theorem WB.add1 {σ : WS} (h : WB σ) (hn : σ.2.1 1 < 5) : WB (kRow σ 1) := ⟨h.1, show σ.2.1 1 + 1 ≤ 5 by omega, h.2.2⟩
theorem WB.add4 {σ : WS} (h : WB σ) (hn : σ.2.1 4 < 8) : WB (kRow σ 4) := ⟨h.1, h.2.1, h.2.2.1, h.2.2.2.1, show σ.2.1 4 + 1 ≤ 8 by omega⟩
theorem kTl_B {σ : WS} {n : Nat} (h : WB σ) : ∀ f, WB (kTl f σ n).2 := by
  intro f
  induction f generalizing σ n with
  | zero => exact h
  | succ f ih =>
    unfold kTl
    split
    · exact h
    · exact ih (kDay_B h)
theorem kTill_B {σ : WS} {i : Nat} (h : WB σ) : WB (kTill σ i).2 := kTl_B (σ := uS σ 8 (nI i)) h.uS 32
theorem kCp_B {σ : WS} {bt s : Nat} (h : WB σ) : ∀ n, WB (kCp σ bt s n)
  | 0 => h
  | n + 1 => (kCp_B h n).of rfl
theorem kPack_B {σ : WS} {bt s : Nat} {u : Int32} (h : WB σ) : WB (kPack σ bt s u) := by
  have h1 : WB (kPack1 σ bt s u) := (kCp_B (bt := bt) (s := s) h 4).of rfl
  unfold kPack
  split
  · exact ⟨h1.1, h1.2.1, show (kPack1 σ bt s u).2.1 2 - 1 ≤ 10 by have := h1.2.2.1; omega, h1.2.2.2.1, h1.2.2.2.2⟩
  · exact h1
theorem kZr_B {σ : WS} {s : Nat} (h : WB σ) : ∀ n, WB (kZr σ s n)
  | 0 => h
  | n + 1 => (kZr_B h n).of rfl
theorem kFr_B {σ : WS} {y : Int32} (h : WB σ) : ∀ n, WB (kFr σ y n).2
  | 0 => h
  | n + 1 => kZr_B ((WB.uS (kFr_B h n)).of kAddWhole_R) 4
section FACE
variable {d : Nat} {σ : WS} {h : AH}
set_option maxHeartbeats 1000000 in
theorem c_isWithin (x lo hi : Int32) (h : AH) : Ct d mX2_isWithin 0 0 [.int x, .int lo, .int hi] h (RI (inB x lo hi) h) := by
  refine Ct.of (by decide +kernel) rfl (Nat.le_of_ble_eq_true rfl) ?_
  show WP d mX2_isWithin none 0 0 0 [.int x, .int lo, .int hi] [] h _
  refine w_iload_n (pc := 0) (i := 0) dX2_isWithin_0 rfl rfl ?_
  refine w_iload_n (pc := 1) (i := 1) dX2_isWithin_1 rfl rfl ?_
  refine w_icmp_lt (pc := 2) (tgt := 14) dX2_isWithin_2 (by decide) (fun c2 => ?_) (fun c2 => ?_)
  · refine w_iconst (pc := 14) (v := 0) dX2_isWithin_14 (by decide) ?_
    exact w_ireturn (pc := 15) dX2_isWithin_15 ⟨_, rfl, rfl⟩ ⟨by unfold inB; rw [if_neg (fun q => Int32.lt_irrefl (Int32.lt_of_le_of_lt q.1 c2))], rfl⟩
  · refine w_iload_n (pc := 5) (i := 0) dX2_isWithin_5 rfl rfl ?_
    refine w_iload_n (pc := 6) (i := 2) dX2_isWithin_6 rfl rfl ?_
    refine w_icmp_gt (pc := 7) (tgt := 14) dX2_isWithin_7 (by decide) (fun c7 => ?_) (fun c7 => ?_)
    · refine w_iconst (pc := 14) (v := 0) dX2_isWithin_14 (by decide) ?_
      exact w_ireturn (pc := 15) dX2_isWithin_15 ⟨_, rfl, rfl⟩ ⟨by unfold inB; rw [if_neg (fun q => Int32.lt_irrefl (Int32.lt_of_le_of_lt q.2 c7))], rfl⟩
    · refine w_iconst (pc := 10) (v := 1) dX2_isWithin_10 (by decide) ?_
      refine w_goto (pc := 11) (tgt := 15) dX2_isWithin_11 (by decide) ?_
      exact w_ireturn (pc := 15) dX2_isWithin_15 ⟨_, rfl, rfl⟩ ⟨by unfold inB; rw [if_pos ⟨Int32.not_lt.mp c2, Int32.not_lt.mp c7⟩], rfl⟩
set_option maxHeartbeats 1000000 in
theorem c_isLength (x : Int32) (h : AH) : Ct (d + 1) mX2_isLength 0 0 [.int x] h (RI (inB x 4 24) h) := by
  refine Ct.of (by decide +kernel) rfl (Nat.le_of_ble_eq_true rfl) ?_
  show WP (d + 1) mX2_isLength none 0 0 0 [.int x] [] h _
  refine w_iload_n (pc := 0) (i := 0) dX2_isLength_0 rfl rfl ?_
  refine w_iconst (pc := 1) (v := 4) dX2_isLength_1 (by decide) ?_
  refine w_bipush (pc := 2) (v := 24) dX2_isLength_2 (by decide) ?_
  refine w_sI (pc := 4) dX2_isLength_4 GX2_27 (c_isWithin x 4 24 h) rfl rfl rfl rfl ?_
  exact w_ireturn (pc := 7) dX2_isLength_7 ⟨_, rfl, inB_nar⟩ ⟨rfl, rfl⟩
set_option maxHeartbeats 1000000 in
theorem c_cellOf {tb c N cols rows : Nat} {f : Nat → Int32} (x y : Int32) (hT : TbO tb c N cols rows f h) (hB : TbB N cols rows) : Ct (d + 7) mX2_cellOf 2 12 [.ref tb, .int x, .int y] h (fun o h1 => h1 = h ∧ (match aCell f cols rows x y with | none => o = .inr IOE | some r => o = .inl (some (.int r)))) := by
  have hr := hB.rows
  have hc := hB.2.2.2
  refine Ct.of (by decide +kernel) rfl (Nat.le_of_ble_eq_true rfl) ?_
  show WP (d + 7) mX2_cellOf none 2 12 0 [.ref tb, .int x, .int y] [] h _
  refine w_aload_n (pc := 0) (i := 0) dX2_cellOf_0 rfl rfl ?_
  refine w_iload_n (pc := 1) (i := 1) dX2_cellOf_1 rfl rfl ?_
  refine w_vI (pc := 2) dX2_cellOf_2 GX2_48 hT.1 (c_hasRow x hT) rfl rfl rfl rfl ?_
  refine w_req (pc := 5) dX2_cellOf_5 GX2_51 (c_requireIndex _ _ h) rfl rfl (fun c5 => ?_) (fun c5 => ⟨rfl, by unfold aCell; rw [show hR rows x = 0 from c5, if_pos rfl]⟩)
  refine w_aload_n (pc := 8) (i := 0) dX2_cellOf_8 rfl rfl ?_
  refine w_iload_n (pc := 9) (i := 2) dX2_cellOf_9 rfl rfl ?_
  refine w_vI (pc := 10) dX2_cellOf_10 GX2_160 hT.1 (c_hasColumn y hT) rfl rfl rfl rfl ?_
  refine w_req (pc := 13) dX2_cellOf_13 GX2_51 (c_requireIndex _ _ h) rfl rfl (fun c13 => ?_) (fun c13 => ⟨rfl, by unfold aCell; rw [if_neg (show ¬ hR rows x = 0 from c5), show hR cols y = 0 from c13, if_pos rfl]⟩)
  obtain ⟨i, hi, ei⟩ := hR_of (show ¬ hR rows x = 0 from c5) (by omega)
  obtain ⟨j, hj, ej⟩ := hR_of (show ¬ hR cols y = 0 from c13) (by omega)
  subst ei
  subst ej
  refine w_aload_n (pc := 16) (i := 0) dX2_cellOf_16 rfl rfl ?_
  refine w_iload_n (pc := 17) (i := 1) dX2_cellOf_17 rfl rfl ?_
  refine w_iload_n (pc := 18) (i := 2) dX2_cellOf_18 rfl rfl ?_
  refine w_vI (pc := 19) dX2_cellOf_19 GX2_54 hT.1 (c_at i j hT hB hi hj) rfl rfl rfl rfl ?_
  exact w_ireturn (pc := 22) dX2_cellOf_22 ⟨_, rfl, rfl⟩ ⟨rfl, by unfold aCell; rw [if_neg (show ¬ hR rows (nI i) = 0 from c5), if_neg (show ¬ hR cols (nI j) = 0 from c13), nI_clamp (by omega), nI_clamp (by omega)]⟩
set_option maxHeartbeats 1000000 in
theorem c_X2_told (x y : Int32) (hp : Pm σ h) : Ct (d + 8) mX2_told 2 12 [.ref 0, .int x, .int y] h (PR (aCellR (σ.1 1) 2 (σ.2.1 1) x y σ) h) := by
  refine Ct.of (by decide +kernel) rfl (Nat.le_of_ble_eq_true rfl) ?_
  show WP (d + 8) mX2_told none 2 12 0 [.ref 0, .int x, .int y] [] h _
  refine w_aload_n (pc := 0) (i := 0) dX2_told_0 rfl rfl ?_
  refine w_get (pc := 1) dX2_told_1 FX2_10 hp.1 rfl ?_
  refine w_get (pc := 4) dX2_told_4 FX2_69 hp.2.1.1 rfl ?_
  refine w_iload_n (pc := 7) (i := 1) dX2_told_7 rfl rfl ?_
  refine w_iload_n (pc := 8) (i := 2) dX2_told_8 rfl rfl ?_
  refine w_s (k1 := 2) (n1 := 12) (k2 := 0) (n2 := 0) (pc := 9) dX2_told_9 GX2_122 (c_cellOf x y hp.2.1.t1 hp.2.2.1.b1) rfl rfl rfl rfl rfl rfl (fun av h1 q => ?_) (fun E h1 q => ?_)
  · obtain ⟨rfl, q⟩ := q
    cases ec : aCell (σ.1 1) 2 (σ.2.1 1) x y with
    | none => rw [ec] at q; cases q
    | some r =>
      rw [ec] at q
      injection q with q2
      subst q2
      exact w_ireturn (pc := 12) dX2_told_12 ⟨_, rfl, rfl⟩ (PR.yes (by unfold aCellR; rw [ec]) hp.same)
  · obtain ⟨rfl, q⟩ := q
    cases ec : aCell (σ.1 1) 2 (σ.2.1 1) x y with
    | some r => rw [ec] at q; cases q
    | none =>
      rw [ec] at q
      injection q with q2
      subst q2
      exact x_out rfl (PR.no (by unfold aCellR; rw [ec]))
set_option maxHeartbeats 1000000 in
theorem c_X2_batch (x y : Int32) (hp : Pm σ h) : Ct (d + 8) mX2_batch 2 12 [.ref 0, .int x, .int y] h (PR (aCellR (σ.1 2) 4 (σ.2.1 2) x y σ) h) := by
  refine Ct.of (by decide +kernel) rfl (Nat.le_of_ble_eq_true rfl) ?_
  show WP (d + 8) mX2_batch none 2 12 0 [.ref 0, .int x, .int y] [] h _
  refine w_aload_n (pc := 0) (i := 0) dX2_batch_0 rfl rfl ?_
  refine w_get (pc := 1) dX2_batch_1 FX2_10 hp.1 rfl ?_
  refine w_get (pc := 4) dX2_batch_4 FX2_93 hp.2.1.1 rfl ?_
  refine w_iload_n (pc := 7) (i := 1) dX2_batch_7 rfl rfl ?_
  refine w_iload_n (pc := 8) (i := 2) dX2_batch_8 rfl rfl ?_
  refine w_s (k1 := 2) (n1 := 12) (k2 := 0) (n2 := 0) (pc := 9) dX2_batch_9 GX2_122 (c_cellOf x y hp.2.1.t2 hp.2.2.1.b2) rfl rfl rfl rfl rfl rfl (fun av h1 q => ?_) (fun E h1 q => ?_)
  · obtain ⟨rfl, q⟩ := q
    cases ec : aCell (σ.1 2) 4 (σ.2.1 2) x y with
    | none => rw [ec] at q; cases q
    | some r =>
      rw [ec] at q
      injection q with q2
      subst q2
      exact w_ireturn (pc := 12) dX2_batch_12 ⟨_, rfl, rfl⟩ (PR.yes (by unfold aCellR; rw [ec]) hp.same)
  · obtain ⟨rfl, q⟩ := q
    cases ec : aCell (σ.1 2) 4 (σ.2.1 2) x y with
    | some r => rw [ec] at q; cases q
    | none =>
      rw [ec] at q
      injection q with q2
      subst q2
      exact x_out rfl (PR.no (by unfold aCellR; rw [ec]))
set_option maxHeartbeats 1000000 in
theorem c_X2_saggar (x y : Int32) (hp : Pm σ h) : Ct (d + 8) mX2_saggar 2 12 [.ref 0, .int x, .int y] h (PR (aCellR (σ.1 3) 4 (σ.2.1 3) x y σ) h) := by
  refine Ct.of (by decide +kernel) rfl (Nat.le_of_ble_eq_true rfl) ?_
  show WP (d + 8) mX2_saggar none 2 12 0 [.ref 0, .int x, .int y] [] h _
  refine w_aload_n (pc := 0) (i := 0) dX2_saggar_0 rfl rfl ?_
  refine w_get (pc := 1) dX2_saggar_1 FX2_10 hp.1 rfl ?_
  refine w_get (pc := 4) dX2_saggar_4 FX2_96 hp.2.1.1 rfl ?_
  refine w_iload_n (pc := 7) (i := 1) dX2_saggar_7 rfl rfl ?_
  refine w_iload_n (pc := 8) (i := 2) dX2_saggar_8 rfl rfl ?_
  refine w_s (k1 := 2) (n1 := 12) (k2 := 0) (n2 := 0) (pc := 9) dX2_saggar_9 GX2_122 (c_cellOf x y hp.2.1.t3 hp.2.2.1.b3) rfl rfl rfl rfl rfl rfl (fun av h1 q => ?_) (fun E h1 q => ?_)
  · obtain ⟨rfl, q⟩ := q
    cases ec : aCell (σ.1 3) 4 (σ.2.1 3) x y with
    | none => rw [ec] at q; cases q
    | some r =>
      rw [ec] at q
      injection q with q2
      subst q2
      exact w_ireturn (pc := 12) dX2_saggar_12 ⟨_, rfl, rfl⟩ (PR.yes (by unfold aCellR; rw [ec]) hp.same)
  · obtain ⟨rfl, q⟩ := q
    cases ec : aCell (σ.1 3) 4 (σ.2.1 3) x y with
    | some r => rw [ec] at q; cases q
    | none =>
      rw [ec] at q
      injection q with q2
      subst q2
      exact x_out rfl (PR.no (by unfold aCellR; rw [ec]))
set_option maxHeartbeats 1000000 in
theorem c_X2_waits (x y : Int32) (hp : Pm σ h) : Ct (d + 8) mX2_waits 2 12 [.ref 0, .int x, .int y] h (PR (aCellR (σ.1 4) 4 (σ.2.1 4) x y σ) h) := by
  refine Ct.of (by decide +kernel) rfl (Nat.le_of_ble_eq_true rfl) ?_
  show WP (d + 8) mX2_waits none 2 12 0 [.ref 0, .int x, .int y] [] h _
  refine w_aload_n (pc := 0) (i := 0) dX2_waits_0 rfl rfl ?_
  refine w_get (pc := 1) dX2_waits_1 FX2_10 hp.1 rfl ?_
  refine w_get (pc := 4) dX2_waits_4 FX2_112 hp.2.1.1 rfl ?_
  refine w_iload_n (pc := 7) (i := 1) dX2_waits_7 rfl rfl ?_
  refine w_iload_n (pc := 8) (i := 2) dX2_waits_8 rfl rfl ?_
  refine w_s (k1 := 2) (n1 := 12) (k2 := 0) (n2 := 0) (pc := 9) dX2_waits_9 GX2_122 (c_cellOf x y hp.2.1.t4 hp.2.2.1.b4) rfl rfl rfl rfl rfl rfl (fun av h1 q => ?_) (fun E h1 q => ?_)
  · obtain ⟨rfl, q⟩ := q
    cases ec : aCell (σ.1 4) 4 (σ.2.1 4) x y with
    | none => rw [ec] at q; cases q
    | some r =>
      rw [ec] at q
      injection q with q2
      subst q2
      exact w_ireturn (pc := 12) dX2_waits_12 ⟨_, rfl, rfl⟩ (PR.yes (by unfold aCellR; rw [ec]) hp.same)
  · obtain ⟨rfl, q⟩ := q
    cases ec : aCell (σ.1 4) 4 (σ.2.1 4) x y with
    | some r => rw [ec] at q; cases q
    | none =>
      rw [ec] at q
      injection q with q2
      subst q2
      exact x_out rfl (PR.no (by unfold aCellR; rw [ec]))
set_option maxHeartbeats 1000000 in
theorem c_X2_mould (x y : Int32) (hp : Pm σ h) : Ct (d + 8) mX2_mould 3 18 [.ref 0, .int x, .int y] h (PR (aMould σ x y) h) := by
  refine Ct.of (by decide +kernel) rfl (Nat.le_of_ble_eq_true rfl) ?_
  show WP (d + 8) mX2_mould none 3 18 0 [.ref 0, .int x, .int y] [] h _
  refine w_iload_n (pc := 0) (i := 1) dX2_mould_0 rfl rfl ?_
  refine w_sI (pc := 1) dX2_mould_1 GX2_19 (c_isLength x h) rfl rfl rfl rfl ?_
  refine w_req (pc := 4) dX2_mould_4 GX2_23 (c_requireArgument _ _ h) rfl rfl (fun c4 => ?_) (fun c4 => PR.no (by unfold aMould; rw [if_pos c4] <;> rfl))
  refine w_iload_n (pc := 7) (i := 2) dX2_mould_7 rfl rfl ?_
  refine w_iconst (pc := 8) (v := 0) dX2_mould_8 (by decide) ?_
  refine w_bipush (pc := 9) (v := 9) dX2_mould_9 (by decide) ?_
  refine w_sI (pc := 11) dX2_mould_11 GX2_27 (c_isWithin y 0 9 h) rfl rfl rfl rfl ?_
  refine w_req (pc := 14) dX2_mould_14 GX2_23 (c_requireArgument _ _ h) rfl rfl (fun c14 => ?_) (fun c14 => PR.no (by unfold aMould; rw [if_neg c4, if_pos c14] <;> rfl))
  refine w_aload_n (pc := 17) (i := 0) dX2_mould_17 rfl rfl ?_
  refine w_get (pc := 18) dX2_mould_18 FX2_10 hp.1 rfl ?_
  refine w_get (pc := 21) dX2_mould_21 FX2_31 hp.2.1.1 rfl ?_
  refine w_vI (pc := 24) dX2_mould_24 GX2_35 hp.2.1.t0.1 (c_isFull hp.2.1.t0 hp.2.2.1.b0) rfl rfl rfl rfl ?_
  by_cases hf : σ.2.1 0 < 6
  · rw [if_neg (by omega)]
    refine w_if_ne (pc := 27) (tgt := 34) dX2_mould_27 (by decide) (fun c27 => absurd rfl c27) (fun c27 => ?_)
    refine w_iconst (pc := 30) (v := 1) dX2_mould_30 (by decide) ?_
    refine w_goto (pc := 31) (tgt := 35) dX2_mould_31 (by decide) ?_
    refine w_req (pc := 35) dX2_mould_35 GX2_41 (c_requireState _ 1 h) rfl rfl (fun _ => ?_) (fun q => absurd q (by decide))
    refine w_aload_n (pc := 38) (i := 0) dX2_mould_38 rfl rfl ?_
    refine w_get (pc := 39) dX2_mould_39 FX2_10 hp.1 rfl ?_
    refine w_iload_n (pc := 42) (i := 1) dX2_mould_42 rfl rfl ?_
    refine w_iload_n (pc := 43) (i := 2) dX2_mould_43 rfl rfl ?_
    refine w_vQ (pc := 44) dX2_mould_44 GX2_44 hp.2.1.1 (c_addMould x y hp.2.1 hp.2.2.1 hf) rfl rfl rfl rfl ?_
    rintro v h1 ⟨rfl, hw1, ho1⟩
    exact w_ireturn (pc := 47) dX2_mould_47 ⟨_, rfl, rfl⟩ (PR.yes (by unfold aMould; rw [if_neg c4, if_neg c14, if_pos hf] <;> rfl) (hp.upd hw1 ((hp.2.2.1.add0 hf).of rfl) ho1))
  · rw [if_pos (by omega)]
    refine w_if_ne (pc := 27) (tgt := 34) dX2_mould_27 (by decide) (fun c27 => ?_) (fun c27 => absurd c27 (by decide))
    refine w_iconst (pc := 34) (v := 0) dX2_mould_34 (by decide) ?_
    exact w_req (pc := 35) dX2_mould_35 GX2_41 (c_requireState _ 0 h) rfl rfl (fun q => absurd rfl q) (fun _ => PR.no (by unfold aMould; rw [if_neg c4, if_neg c14, if_neg hf] <;> rfl))
set_option maxHeartbeats 1000000 in
theorem c_X2_refit (x : Int32) (hp : Pm σ h) : Ct (d + 8) mX2_refit 2 12 [.ref 0, .int x] h (PR (aRefit σ x) h) := by
  refine Ct.of (by decide +kernel) rfl (Nat.le_of_ble_eq_true rfl) ?_
  show WP (d + 8) mX2_refit none 2 12 0 [.ref 0, .int x, vU] [] h _
  have hR0 := hp.2.2.1.1
  refine w_aload_n (pc := 0) (i := 0) dX2_refit_0 rfl rfl ?_
  refine w_get (pc := 1) dX2_refit_1 FX2_10 hp.1 rfl ?_
  refine w_get (pc := 4) dX2_refit_4 FX2_31 hp.2.1.1 rfl ?_
  refine w_iload_n (pc := 7) (i := 1) dX2_refit_7 rfl rfl ?_
  refine w_vI (pc := 8) dX2_refit_8 GX2_48 hp.2.1.t0.1 (c_hasRow x hp.2.1.t0) rfl rfl rfl rfl ?_
  show WP (d + 8) mX2_refit none 2 12 11 _ [.int (hR (σ.2.1 0) x)] h _
  refine w_req (pc := 11) dX2_refit_11 GX2_51 (c_requireIndex _ _ h) rfl rfl (fun c11 => ?_) (fun c11 => PR.no (by unfold aRefit; rw [if_pos c11] <;> rfl))
  obtain ⟨m, hm, ex⟩ := hR_of c11 (by omega)
  subst ex
  have hmn : (nI m).toNatClampNeg = m := nI_clamp (by omega)
  refine w_aload_n (pc := 14) (i := 0) dX2_refit_14 rfl rfl ?_
  refine w_get (pc := 15) dX2_refit_15 FX2_10 hp.1 rfl ?_
  refine w_get (pc := 18) dX2_refit_18 FX2_31 hp.2.1.1 rfl ?_
  refine w_iload_n (pc := 21) (i := 1) dX2_refit_21 rfl rfl ?_
  refine w_iconst (pc := 22) (v := 1) dX2_refit_22 (by decide) ?_
  refine w_vI (pc := 23) dX2_refit_23 GX2_54 hp.2.1.t0.1 (c_at m 1 hp.2.1.t0 hp.2.2.1.b0 hm (by omega)) rfl rfl rfl rfl ?_
  refine w_topi (fun x26 e26 => ?_)
  refine w_istore_n (pc := 26) (i := 2) (ls' := [.ref 0, .int (nI m), .int x26]) dX2_refit_26 rfl (by decide) rfl rfl rfl ?_
  subst e26
  refine w_iload_n (pc := 27) (i := 2) dX2_refit_27 rfl rfl ?_
  refine w_bipush (pc := 28) (v := 9) dX2_refit_28 (by decide) ?_
  refine w_icmp_eq (pc := 30) (tgt := 48) dX2_refit_30 (by decide) (fun c30 => ?_) (fun c30 => ?_)
  · refine w_iconst (pc := 48) (v := 0) dX2_refit_48 (by decide) ?_
    exact w_req (pc := 49) dX2_refit_49 GX2_41 (c_requireState _ 0 h) rfl rfl (fun q => absurd rfl q) (fun _ => PR.no (by unfold aRefit; rw [if_neg c11, hmn, if_pos c30] <;> rfl))
  · refine w_aload_n (pc := 33) (i := 0) dX2_refit_33 rfl rfl ?_
    refine w_get (pc := 34) dX2_refit_34 FX2_10 hp.1 rfl ?_
    refine w_get (pc := 37) dX2_refit_37 FX2_57 hp.2.1.1 rfl ?_
    refine w_iconst (pc := 40) (v := 2) dX2_refit_40 (by decide) ?_
    refine w_icmp_lt (pc := 41) (tgt := 48) dX2_refit_41 (by decide) (fun c41 => ?_) (fun c41 => ?_)
    · refine w_iconst (pc := 48) (v := 0) dX2_refit_48 (by decide) ?_
      exact w_req (pc := 49) dX2_refit_49 GX2_41 (c_requireState _ 0 h) rfl rfl (fun q => absurd rfl q) (fun _ => PR.no (by unfold aRefit; rw [if_neg c11, hmn, if_neg c30, if_pos c41] <;> rfl))
    · refine w_iconst (pc := 44) (v := 1) dX2_refit_44 (by decide) ?_
      refine w_goto (pc := 45) (tgt := 49) dX2_refit_45 (by decide) ?_
      refine w_req (pc := 49) dX2_refit_49 GX2_41 (c_requireState _ 1 h) rfl rfl (fun _ => ?_) (fun q => absurd q (by decide))
      refine w_aload_n (pc := 52) (i := 0) dX2_refit_52 rfl rfl ?_
      refine w_get (pc := 53) dX2_refit_53 FX2_10 hp.1 rfl ?_
      refine w_iconst (pc := 56) (v := 2) dX2_refit_56 (by decide) ?_
      refine w_vQ (pc := 57) dX2_refit_57 GX2_61 hp.2.1.1 (c_pay 2 hp.2.1 hp.2.2.1) rfl rfl rfl rfl ?_
      rintro v h1 ⟨rfl, hw1, ho1⟩
      have hp1 := hp.upd hw1 hp.2.2.1.uS ho1
      refine w_aload_n (pc := 60) (i := 0) dX2_refit_60 rfl rfl ?_
      refine w_get (pc := 61) dX2_refit_61 FX2_10 hp1.1.1 rfl ?_
      refine w_get (pc := 64) dX2_refit_64 FX2_31 hp1.1.2.1.1 rfl ?_
      refine w_iload_n (pc := 67) (i := 1) dX2_refit_67 rfl rfl ?_
      refine w_iconst (pc := 68) (v := 1) dX2_refit_68 (by decide) ?_
      refine w_bipush (pc := 69) (v := 9) dX2_refit_69 (by decide) ?_
      refine w_vV (pc := 71) dX2_refit_71 GX2_65 hp1.1.2.1.t0.1 (c_put m 1 9 hp1.1.2.1.t0 hp1.1.2.2.1.b0 hm (by omega)) rfl rfl rfl rfl ?_
      refine w_iload_n (pc := 74) (i := 2) dX2_refit_74 rfl rfl ?_
      exact w_ireturn (pc := 75) dX2_refit_75 ⟨_, rfl, rfl⟩ (PR.yes (by unfold aRefit; rw [if_neg c11, hmn, if_neg c30, if_neg (Int32.not_lt.mpr (Int32.not_lt.mp c41))] <;> rfl) (hp.upd (hw1.c0 _) hp.2.2.1.uS.uA (ho1.set (by omega) (by omega))))
set_option maxHeartbeats 1000000 in
theorem c_X2_maker (x : Int32) (hp : Pm σ h) : Ct (d + 8) mX2_maker 2 12 [.ref 0, .int x] h (PR (aMaker σ x) h) := by
  refine Ct.of (by decide +kernel) rfl (Nat.le_of_ble_eq_true rfl) ?_
  show WP (d + 8) mX2_maker none 2 12 0 [.ref 0, .int x] [] h _
  refine w_iload_n (pc := 0) (i := 1) dX2_maker_0 rfl rfl ?_
  refine w_iconst (pc := 1) (v := 1) dX2_maker_1 (by decide) ?_
  refine w_bipush (pc := 2) (v := 9) dX2_maker_2 (by decide) ?_
  refine w_sI (pc := 4) dX2_maker_4 GX2_27 (c_isWithin x 1 9 h) rfl rfl rfl rfl ?_
  refine w_req (pc := 7) dX2_maker_7 GX2_23 (c_requireArgument _ _ h) rfl rfl (fun c7 => ?_) (fun c7 => PR.no (by unfold aMaker; rw [if_pos c7] <;> rfl))
  refine w_aload_n (pc := 10) (i := 0) dX2_maker_10 rfl rfl ?_
  refine w_get (pc := 11) dX2_maker_11 FX2_10 hp.1 rfl ?_
  refine w_get (pc := 14) dX2_maker_14 FX2_69 hp.2.1.1 rfl ?_
  refine w_vI (pc := 17) dX2_maker_17 GX2_35 hp.2.1.t1.1 (c_isFull hp.2.1.t1 hp.2.2.1.b1) rfl rfl rfl rfl ?_
  by_cases hf : σ.2.1 1 < 5
  · rw [if_neg (by omega)]
    refine w_if_ne (pc := 20) (tgt := 27) dX2_maker_20 (by decide) (fun c20 => absurd rfl c20) (fun c20 => ?_)
    refine w_iconst (pc := 23) (v := 1) dX2_maker_23 (by decide) ?_
    refine w_goto (pc := 24) (tgt := 28) dX2_maker_24 (by decide) ?_
    refine w_req (pc := 28) dX2_maker_28 GX2_41 (c_requireState _ 1 h) rfl rfl (fun _ => ?_) (fun q => absurd q (by decide))
    refine w_aload_n (pc := 31) (i := 0) dX2_maker_31 rfl rfl ?_
    refine w_get (pc := 32) dX2_maker_32 FX2_10 hp.1 rfl ?_
    refine w_iload_n (pc := 35) (i := 1) dX2_maker_35 rfl rfl ?_
    refine w_vQ (pc := 36) dX2_maker_36 GX2_72 hp.2.1.1 (c_addMaker x hp.2.1 hp.2.2.1 hf) rfl rfl rfl rfl ?_
    rintro v h1 ⟨rfl, hw1, ho1⟩
    exact w_ireturn (pc := 39) dX2_maker_39 ⟨_, rfl, rfl⟩ (PR.yes (by unfold aMaker; rw [if_neg c7, if_pos hf] <;> rfl) (hp.upd hw1 ((hp.2.2.1.add1 hf).of rfl) ho1))
  · rw [if_pos (by omega)]
    refine w_if_ne (pc := 20) (tgt := 27) dX2_maker_20 (by decide) (fun c20 => ?_) (fun c20 => absurd c20 (by decide))
    refine w_iconst (pc := 27) (v := 0) dX2_maker_27 (by decide) ?_
    exact w_req (pc := 28) dX2_maker_28 GX2_41 (c_requireState _ 0 h) rfl rfl (fun q => absurd rfl q) (fun _ => PR.no (by unfold aMaker; rw [if_neg c7, if_neg hf] <;> rfl))
set_option maxHeartbeats 1000000 in
theorem c_X2_place (x y : Int32) (hp : Pm σ h) : Ct (d + 8) mX2_place 3 18 [.ref 0, .int x, .int y] h (PR (aPlace σ x y) h) := by
  refine Ct.of (by decide +kernel) rfl (Nat.le_of_ble_eq_true rfl) ?_
  show WP (d + 8) mX2_place none 3 18 0 [.ref 0, .int x, .int y, vU] [] h _
  have hR1 := hp.2.2.1.2.1
  refine w_aload_n (pc := 0) (i := 0) dX2_place_0 rfl rfl ?_
  refine w_get (pc := 1) dX2_place_1 FX2_10 hp.1 rfl ?_
  refine w_get (pc := 4) dX2_place_4 FX2_69 hp.2.1.1 rfl ?_
  refine w_iload_n (pc := 7) (i := 1) dX2_place_7 rfl rfl ?_
  refine w_vI (pc := 8) dX2_place_8 GX2_48 hp.2.1.t1.1 (c_hasRow x hp.2.1.t1) rfl rfl rfl rfl ?_
  show WP (d + 8) mX2_place none 3 18 11 _ [.int (hR (σ.2.1 1) x)] h _
  refine w_req (pc := 11) dX2_place_11 GX2_51 (c_requireIndex _ _ h) rfl rfl (fun c11 => ?_) (fun c11 => PR.no (by unfold aPlace; rw [if_pos c11] <;> rfl))
  obtain ⟨m, hm, ex⟩ := hR_of c11 (by omega)
  subst ex
  have hmn : (nI m).toNatClampNeg = m := nI_clamp (by omega)
  have hK : ∀ c14 : ¬ (¬ y = -1 ∧ hR (σ.2.1 0) y = 0), WP (d + 8) mX2_place none 1 6 41 [.ref 0, .int (nI m), .int y, vU] [] h (PR (aPlace σ (nI m) y) h) := by
    intro c14
    refine w_aload_n (pc := 41) (i := 0) dX2_place_41 rfl rfl ?_
    refine w_get (pc := 42) dX2_place_42 FX2_10 hp.1 rfl ?_
    refine w_iload_n (pc := 45) (i := 2) dX2_place_45 rfl rfl ?_
    refine w_iload_n (pc := 46) (i := 1) dX2_place_46 rfl rfl ?_
    refine w_vI (pc := 47) dX2_place_47 GX2_76 hp.2.1.1 (c_isAnotherAt y (nI m) hp.2.1 hp.2.2.1) rfl rfl rfl rfl ?_
    refine w_if_ne (pc := 50) (tgt := 57) dX2_place_50 (by decide) (fun c50 => ?_) (fun c50 => ?_)
    · refine w_iconst (pc := 57) (v := 0) dX2_place_57 (by decide) ?_
      exact w_req (pc := 58) dX2_place_58 GX2_41 (c_requireState _ 0 h) rfl rfl (fun q => absurd rfl q) (fun _ => PR.no (by unfold aPlace; rw [if_neg c11, hmn, if_neg c14, if_neg c50] <;> rfl))
    · refine w_iconst (pc := 53) (v := 1) dX2_place_53 (by decide) ?_
      refine w_goto (pc := 54) (tgt := 58) dX2_place_54 (by decide) ?_
      refine w_req (pc := 58) dX2_place_58 GX2_41 (c_requireState _ 1 h) rfl rfl (fun _ => ?_) (fun q => absurd q (by decide))
      refine w_aload_n (pc := 61) (i := 0) dX2_place_61 rfl rfl ?_
      refine w_get (pc := 62) dX2_place_62 FX2_10 hp.1 rfl ?_
      refine w_get (pc := 65) dX2_place_65 FX2_69 hp.2.1.1 rfl ?_
      refine w_iload_n (pc := 68) (i := 1) dX2_place_68 rfl rfl ?_
      refine w_iconst (pc := 69) (v := 1) dX2_place_69 (by decide) ?_
      refine w_vI (pc := 70) dX2_place_70 GX2_54 hp.2.1.t1.1 (c_at m 1 hp.2.1.t1 hp.2.2.1.b1 hm (by omega)) rfl rfl rfl rfl ?_
      refine w_topi (fun x73 e73 => ?_)
      refine w_istore_n (pc := 73) (i := 3) (ls' := [.ref 0, .int (nI m), .int y, .int x73]) dX2_place_73 rfl (by decide) rfl rfl rfl ?_
      subst e73
      refine w_aload_n (pc := 74) (i := 0) dX2_place_74 rfl rfl ?_
      refine w_get (pc := 75) dX2_place_75 FX2_10 hp.1 rfl ?_
      refine w_get (pc := 78) dX2_place_78 FX2_69 hp.2.1.1 rfl ?_
      refine w_iload_n (pc := 81) (i := 1) dX2_place_81 rfl rfl ?_
      refine w_iconst (pc := 82) (v := 1) dX2_place_82 (by decide) ?_
      refine w_iload_n (pc := 83) (i := 2) dX2_place_83 rfl rfl ?_
      refine w_vV (pc := 84) dX2_place_84 GX2_65 hp.2.1.t1.1 (c_put m 1 y hp.2.1.t1 hp.2.2.1.b1 hm (by omega)) rfl rfl rfl rfl ?_
      refine w_iload_n (pc := 87) (i := 3) dX2_place_87 rfl rfl ?_
      exact w_ireturn (pc := 88) dX2_place_88 ⟨_, rfl, rfl⟩ (PR.yes (by unfold aPlace; rw [if_neg c11, hmn, if_neg c14, if_pos c50] <;> rfl) (hp.upd (hp.2.1.c1 _) hp.2.2.1.uA (Out.rf.set (by omega) (by omega))))
  refine w_iload_n (pc := 14) (i := 2) dX2_place_14 rfl rfl ?_
  refine w_iconst (pc := 15) (v := -1) dX2_place_15 (by decide) ?_
  refine w_icmp_eq (pc := 16) (tgt := 33) dX2_place_16 (by decide) (fun c16 => ?_) (fun c16 => ?_)
  · refine w_iconst (pc := 33) (v := 1) dX2_place_33 (by decide) ?_
    refine w_goto (pc := 34) (tgt := 38) dX2_place_34 (by decide) ?_
    refine w_req (pc := 38) dX2_place_38 GX2_51 (c_requireIndex _ 1 h) rfl rfl (fun _ => ?_) (fun q => absurd q (by decide))
    exact hK (fun q => q.1 c16)
  · refine w_aload_n (pc := 19) (i := 0) dX2_place_19 rfl rfl ?_
    refine w_get (pc := 20) dX2_place_20 FX2_10 hp.1 rfl ?_
    refine w_get (pc := 23) dX2_place_23 FX2_31 hp.2.1.1 rfl ?_
    refine w_iload_n (pc := 26) (i := 2) dX2_place_26 rfl rfl ?_
    refine w_vI (pc := 27) dX2_place_27 GX2_48 hp.2.1.t0.1 (c_hasRow y hp.2.1.t0) rfl rfl rfl rfl ?_
    refine w_if_eq (pc := 30) (tgt := 37) dX2_place_30 (by decide) (fun c30 => ?_) (fun c30 => ?_)
    · refine w_iconst (pc := 37) (v := 0) dX2_place_37 (by decide) ?_
      exact w_req (pc := 38) dX2_place_38 GX2_51 (c_requireIndex _ 0 h) rfl rfl (fun q => absurd rfl q) (fun _ => PR.no (by unfold aPlace; rw [if_neg c11, if_pos ⟨c16, c30⟩] <;> rfl))
    · refine w_iconst (pc := 33) (v := 1) dX2_place_33 (by decide) ?_
      refine w_goto (pc := 34) (tgt := 38) dX2_place_34 (by decide) ?_
      refine w_req (pc := 38) dX2_place_38 GX2_51 (c_requireIndex _ 1 h) rfl rfl (fun _ => ?_) (fun q => absurd q (by decide))
      exact hK (fun q => c30 q.2)
set_option maxHeartbeats 1000000 in
theorem c_X2_buy (x y : Int32) (hp : Pm σ h) : Ct (d + 8) mX2_buy 3 18 [.ref 0, .int x, .int y] h (PR (aBuy σ x y) h) := by
  refine Ct.of (by decide +kernel) rfl (Nat.le_of_ble_eq_true rfl) ?_
  show WP (d + 8) mX2_buy none 3 18 0 [.ref 0, .int x, .int y, vU] [] h _
  refine w_iload_n (pc := 0) (i := 1) dX2_buy_0 rfl rfl ?_
  refine w_iconst (pc := 1) (v := 0) dX2_buy_1 (by decide) ?_
  refine w_iconst (pc := 2) (v := 1) dX2_buy_2 (by decide) ?_
  refine w_sI (pc := 3) dX2_buy_3 GX2_27 (c_isWithin x 0 1 h) rfl rfl rfl rfl ?_
  refine w_req (pc := 6) dX2_buy_6 GX2_51 (c_requireIndex _ _ h) rfl rfl (fun c6 => ?_) (fun c6 => PR.no (by unfold aBuy; rw [if_pos c6] <;> rfl))
  refine w_iload_n (pc := 9) (i := 2) dX2_buy_9 rfl rfl ?_
  refine w_iconst (pc := 10) (v := 1) dX2_buy_10 (by decide) ?_
  refine w_sipush (pc := 11) (v := 200) dX2_buy_11 (by decide) ?_
  refine w_sI (pc := 14) dX2_buy_14 GX2_27 (c_isWithin y 1 200 h) rfl rfl rfl rfl ?_
  refine w_req (pc := 17) dX2_buy_17 GX2_23 (c_requireArgument _ _ h) rfl rfl (fun c17 => ?_) (fun c17 => PR.no (by unfold aBuy; rw [if_neg c6, if_pos c17] <;> rfl))
  have hK : WP (d + 8) mX2_buy none 1 6 34 [.ref 0, .int x, .int y, .int (kPrice x y)] [] h (PR (aBuy σ x y) h) := by
    refine w_aload_n (pc := 34) (i := 0) dX2_buy_34 rfl rfl ?_
    refine w_get (pc := 35) dX2_buy_35 FX2_10 hp.1 rfl ?_
    refine w_get (pc := 38) dX2_buy_38 FX2_57 hp.2.1.1 rfl ?_
    refine w_iload_n (pc := 41) (i := 3) dX2_buy_41 rfl rfl ?_
    refine w_icmp_lt (pc := 42) (tgt := 49) dX2_buy_42 (by decide) (fun c42 => ?_) (fun c42 => ?_)
    · refine w_iconst (pc := 49) (v := 0) dX2_buy_49 (by decide) ?_
      exact w_req (pc := 50) dX2_buy_50 GX2_41 (c_requireState _ 0 h) rfl rfl (fun q => absurd rfl q) (fun _ => PR.no (by unfold aBuy; rw [if_neg c6, if_neg c17, if_pos c42] <;> rfl))
    · refine w_iconst (pc := 45) (v := 1) dX2_buy_45 (by decide) ?_
      refine w_goto (pc := 46) (tgt := 50) dX2_buy_46 (by decide) ?_
      refine w_req (pc := 50) dX2_buy_50 GX2_41 (c_requireState _ 1 h) rfl rfl (fun _ => ?_) (fun q => absurd q (by decide))
      refine w_aload_n (pc := 53) (i := 0) dX2_buy_53 rfl rfl ?_
      refine w_get (pc := 54) dX2_buy_54 FX2_10 hp.1 rfl ?_
      refine w_iload_n (pc := 57) (i := 3) dX2_buy_57 rfl rfl ?_
      refine w_vQ (pc := 58) dX2_buy_58 GX2_61 hp.2.1.1 (c_pay (kPrice x y) hp.2.1 hp.2.2.1) rfl rfl rfl rfl ?_
      rintro v h1 ⟨rfl, hw1, ho1⟩
      have hp1 := hp.upd hw1 hp.2.2.1.uS ho1
      refine w_iload_n (pc := 61) (i := 1) dX2_buy_61 rfl rfl ?_
      refine w_if_ne (pc := 62) (tgt := 76) dX2_buy_62 (by decide) (fun c62 => ?_) (fun c62 => ?_)
      · refine w_aload_n (pc := 76) (i := 0) dX2_buy_76 rfl rfl ?_
        refine w_get (pc := 77) dX2_buy_77 FX2_10 hp1.1.1 rfl ?_
        refine w_iload_n (pc := 80) (i := 2) dX2_buy_80 rfl rfl ?_
        refine w_vQ (pc := 81) dX2_buy_81 GX2_83 hw1.1 (c_addCoals y hw1 hp1.1.2.2.1) rfl rfl rfl rfl ?_
        rintro v h2 ⟨rfl, hw2, ho2⟩
        exact w_ireturn (pc := 84) dX2_buy_84 ⟨_, rfl, rfl⟩ (PR.yes (by unfold aBuy kBuy; rw [if_neg c6, if_neg c17, if_neg (Int32.not_lt.mpr (Int32.not_lt.mp c42)), if_neg c62]; rfl) (hp.upd hw2 hp.2.2.1.uS.uS (ho1.tr ho2)))
      · refine w_aload_n (pc := 65) (i := 0) dX2_buy_65 rfl rfl ?_
        refine w_get (pc := 66) dX2_buy_66 FX2_10 hp1.1.1 rfl ?_
        refine w_iload_n (pc := 69) (i := 2) dX2_buy_69 rfl rfl ?_
        refine w_vQ (pc := 70) dX2_buy_70 GX2_80 hw1.1 (c_addClay y hw1 hp1.1.2.2.1) rfl rfl rfl rfl ?_
        rintro v h2 ⟨rfl, hw2, ho2⟩
        refine w_goto (pc := 73) (tgt := 84) dX2_buy_73 (by decide) ?_
        exact w_ireturn (pc := 84) dX2_buy_84 ⟨_, rfl, rfl⟩ (PR.yes (by unfold aBuy kBuy; rw [if_neg c6, if_neg c17, if_neg (Int32.not_lt.mpr (Int32.not_lt.mp c42)), if_pos c62]; rfl) (hp.upd hw2 hp.2.2.1.uS.uS (ho1.tr ho2)))
  refine w_iload_n (pc := 20) (i := 1) dX2_buy_20 rfl rfl ?_
  refine w_if_ne (pc := 21) (tgt := 32) dX2_buy_21 (by decide) (fun c21 => ?_) (fun c21 => ?_)
  · refine w_iload_n (pc := 32) (i := 2) dX2_buy_32 rfl rfl ?_
    refine w_topi (fun x33 e33 => ?_)
    refine w_istore_n (pc := 33) (i := 3) (ls' := [.ref 0, .int x, .int y, .int x33]) dX2_buy_33 rfl (by decide) rfl rfl rfl ?_
    rw [show kPrice x y = y from if_neg c21] at hK
    rw [e33]
    exact hK
  · refine w_iload_n (pc := 24) (i := 2) dX2_buy_24 rfl rfl ?_
    refine w_iconst (pc := 25) (v := 3) dX2_buy_25 (by decide) ?_
    refine w_iadd (pc := 26) dX2_buy_26 ?_
    refine w_iconst (pc := 27) (v := 4) dX2_buy_27 (by decide) ?_
    refine w_idiv (pc := 28) dX2_buy_28 (by decide) ?_
    refine w_goto (pc := 29) (tgt := 33) dX2_buy_29 (by decide) ?_
    refine w_topi (fun x33 e33 => ?_)
    refine w_istore_n (pc := 33) (i := 3) (ls' := [.ref 0, .int x, .int y, .int x33]) dX2_buy_33 rfl (by decide) rfl rfl rfl ?_
    subst e33
    rw [show kPrice x y = (y + 3) / 4 from if_pos c21] at hK
    exact hK
set_option maxHeartbeats 1000000 in
theorem c_X2_setDry (x y : Int32) (hp : Pm σ h) : Ct (d + 8) mX2_setDry 2 12 [.ref 0, .int x, .int y] h (PR (aSetDry σ x y) h) := by
  refine Ct.of (by decide +kernel) rfl (Nat.le_of_ble_eq_true rfl) ?_
  show WP (d + 8) mX2_setDry none 2 12 0 [.ref 0, .int x, .int y, vU] [] h _
  refine w_iload_n (pc := 0) (i := 1) dX2_setDry_0 rfl rfl ?_
  refine w_iconst (pc := 1) (v := 0) dX2_setDry_1 (by decide) ?_
  refine w_bipush (pc := 2) (v := 6) dX2_setDry_2 (by decide) ?_
  refine w_sI (pc := 4) dX2_setDry_4 GX2_27 (c_isWithin x 0 6 h) rfl rfl rfl rfl ?_
  refine w_req (pc := 7) dX2_setDry_7 GX2_51 (c_requireIndex _ _ h) rfl rfl (fun c7 => ?_) (fun c7 => PR.no (by unfold aSetDry; rw [if_pos c7] <;> rfl))
  refine w_iload_n (pc := 10) (i := 2) dX2_setDry_10 rfl rfl ?_
  refine w_iconst (pc := 11) (v := 0) dX2_setDry_11 (by decide) ?_
  refine w_iconst (pc := 12) (v := 3) dX2_setDry_12 (by decide) ?_
  refine w_sI (pc := 13) dX2_setDry_13 GX2_27 (c_isWithin y 0 3 h) rfl rfl rfl rfl ?_
  refine w_req (pc := 16) dX2_setDry_16 GX2_23 (c_requireArgument _ _ h) rfl rfl (fun c16 => ?_) (fun c16 => PR.no (by unfold aSetDry; rw [if_neg c7, if_pos c16] <;> rfl))
  obtain ⟨m, hm, ex⟩ := inB_nat (n := 6) c7 (by omega)
  subst ex
  have hmn : (nI m).toNatClampNeg = m := nI_clamp (by omega)
  refine w_aload_n (pc := 19) (i := 0) dX2_setDry_19 rfl rfl ?_
  refine w_get (pc := 20) dX2_setDry_20 FX2_10 hp.1 rfl ?_
  refine w_iload_n (pc := 23) (i := 1) dX2_setDry_23 rfl rfl ?_
  refine w_vI (pc := 24) dX2_setDry_24 GX2_86 hp.2.1.1 (c_driesBy (nI m) hp.2.1) rfl rfl rfl rfl ?_
  refine w_topi (fun x27 e27 => ?_)
  refine w_istore_n (pc := 27) (i := 3) (ls' := [.ref 0, .int (nI m), .int y, .int x27]) dX2_setDry_27 rfl (by decide) rfl rfl rfl ?_
  subst e27
  refine w_aload_n (pc := 28) (i := 0) dX2_setDry_28 rfl rfl ?_
  refine w_get (pc := 29) dX2_setDry_29 FX2_10 hp.1 rfl ?_
  refine w_iload_n (pc := 32) (i := 1) dX2_setDry_32 rfl rfl ?_
  refine w_iload_n (pc := 33) (i := 2) dX2_setDry_33 rfl rfl ?_
  refine w_vQ (pc := 34) dX2_setDry_34 GX2_89 hp.2.1.1 (c_setDrying m y hp.2.1 (by omega)) rfl rfl rfl rfl ?_
  rintro v h1 ⟨rfl, hw1, ho1⟩
  refine w_iload_n (pc := 37) (i := 3) dX2_setDry_37 rfl rfl ?_
  exact w_ireturn (pc := 38) dX2_setDry_38 ⟨_, rfl, rfl⟩ (PR.yes (by unfold aSetDry; rw [if_neg c7, if_neg c16, hmn] <;> rfl) (hp.upd hw1 hp.2.2.1.uA ho1))
set_option maxHeartbeats 1000000 in
theorem c_X2_pack (x y u : Int32) (hp : Pm σ h) : Ct (d + 8) mX2_pack 5 30 [.ref 0, .int x, .int y, .int u] h (PR (aPack σ x y u) h) := by
  refine Ct.of (by decide +kernel) rfl (Nat.le_of_ble_eq_true rfl) ?_
  show WP (d + 8) mX2_pack none 5 30 0 [.ref 0, .int x, .int y, .int u] [] h _
  have hR2 := hp.2.2.1.2.2.1
  have hR3 := hp.2.2.1.2.2.2.1
  refine w_aload_n (pc := 0) (i := 0) dX2_pack_0 rfl rfl ?_
  refine w_get (pc := 1) dX2_pack_1 FX2_10 hp.1 rfl ?_
  refine w_get (pc := 4) dX2_pack_4 FX2_93 hp.2.1.1 rfl ?_
  refine w_iload_n (pc := 7) (i := 1) dX2_pack_7 rfl rfl ?_
  refine w_vI (pc := 8) dX2_pack_8 GX2_48 hp.2.1.t2.1 (c_hasRow x hp.2.1.t2) rfl rfl rfl rfl ?_
  show WP (d + 8) mX2_pack none 5 30 11 _ [.int (hR (σ.2.1 2) x)] h _
  refine w_req (pc := 11) dX2_pack_11 GX2_51 (c_requireIndex _ _ h) rfl rfl (fun c11 => ?_) (fun c11 => PR.no (by unfold aPack; rw [if_pos c11] <;> rfl))
  refine w_aload_n (pc := 14) (i := 0) dX2_pack_14 rfl rfl ?_
  refine w_get (pc := 15) dX2_pack_15 FX2_10 hp.1 rfl ?_
  refine w_get (pc := 18) dX2_pack_18 FX2_96 hp.2.1.1 rfl ?_
  refine w_iload_n (pc := 21) (i := 2) dX2_pack_21 rfl rfl ?_
  refine w_vI (pc := 22) dX2_pack_22 GX2_48 hp.2.1.t3.1 (c_hasRow y hp.2.1.t3) rfl rfl rfl rfl ?_
  show WP (d + 8) mX2_pack none 4 24 25 _ [.int (hR (σ.2.1 3) y)] h _
  refine w_req (pc := 25) dX2_pack_25 GX2_51 (c_requireIndex _ _ h) rfl rfl (fun c25 => ?_) (fun c25 => PR.no (by unfold aPack; rw [if_neg c11, if_pos c25] <;> rfl))
  refine w_iload_n (pc := 28) (i := 3) dX2_pack_28 rfl rfl ?_
  refine w_iconst (pc := 29) (v := 1) dX2_pack_29 (by decide) ?_
  refine w_bipush (pc := 30) (v := 24) dX2_pack_30 (by decide) ?_
  refine w_sI (pc := 32) dX2_pack_32 GX2_27 (c_isWithin u 1 24 h) rfl rfl rfl rfl ?_
  refine w_req (pc := 35) dX2_pack_35 GX2_23 (c_requireArgument _ _ h) rfl rfl (fun c35 => ?_) (fun c35 => PR.no (by unfold aPack; rw [if_neg c11, if_neg c25, if_pos c35] <;> rfl))
  obtain ⟨i, hi, ex⟩ := hR_of c11 (by omega)
  subst ex
  obtain ⟨j, hj, ey⟩ := hR_of c25 (by omega)
  subst ey
  have hin : (nI i).toNatClampNeg = i := nI_clamp (by omega)
  have hjn : (nI j).toNatClampNeg = j := nI_clamp (by omega)
  refine w_aload_n (pc := 38) (i := 0) dX2_pack_38 rfl rfl ?_
  refine w_get (pc := 39) dX2_pack_39 FX2_10 hp.1 rfl ?_
  refine w_get (pc := 42) dX2_pack_42 FX2_96 hp.2.1.1 rfl ?_
  refine w_iload_n (pc := 45) (i := 2) dX2_pack_45 rfl rfl ?_
  refine w_iconst (pc := 46) (v := 1) dX2_pack_46 (by decide) ?_
  refine w_vI (pc := 47) dX2_pack_47 GX2_54 hp.2.1.t3.1 (c_at j 1 hp.2.1.t3 hp.2.2.1.b3 hj (by omega)) rfl rfl rfl rfl ?_
  refine w_if_ne (pc := 50) (tgt := 57) dX2_pack_50 (by decide) (fun c50 => ?_) (fun c50 => ?_)
  · refine w_iconst (pc := 57) (v := 0) dX2_pack_57 (by decide) ?_
    exact w_req (pc := 58) dX2_pack_58 GX2_41 (c_requireState _ 0 h) rfl rfl (fun q => absurd rfl q) (fun _ => PR.no (by unfold aPack; rw [if_neg c11, if_neg c25, if_neg c35, hjn, if_neg c50] <;> rfl))
  · refine w_iconst (pc := 53) (v := 1) dX2_pack_53 (by decide) ?_
    refine w_goto (pc := 54) (tgt := 58) dX2_pack_54 (by decide) ?_
    refine w_req (pc := 58) dX2_pack_58 GX2_41 (c_requireState _ 1 h) rfl rfl (fun _ => ?_) (fun q => absurd q (by decide))
    refine w_aload_n (pc := 61) (i := 0) dX2_pack_61 rfl rfl ?_
    refine w_get (pc := 62) dX2_pack_62 FX2_10 hp.1 rfl ?_
    refine w_get (pc := 65) dX2_pack_65 FX2_93 hp.2.1.1 rfl ?_
    refine w_iload_n (pc := 68) (i := 1) dX2_pack_68 rfl rfl ?_
    refine w_iconst (pc := 69) (v := 1) dX2_pack_69 (by decide) ?_
    refine w_vI (pc := 70) dX2_pack_70 GX2_54 hp.2.1.t2.1 (c_at i 1 hp.2.1.t2 hp.2.2.1.b2 hi (by omega)) rfl rfl rfl rfl ?_
    refine w_iload_n (pc := 73) (i := 3) dX2_pack_73 rfl rfl ?_
    refine w_icmp_lt (pc := 74) (tgt := 81) dX2_pack_74 (by decide) (fun c74 => ?_) (fun c74 => ?_)
    · refine w_iconst (pc := 81) (v := 0) dX2_pack_81 (by decide) ?_
      exact w_req (pc := 82) dX2_pack_82 GX2_41 (c_requireState _ 0 h) rfl rfl (fun q => absurd rfl q) (fun _ => PR.no (by unfold aPack; rw [if_neg c11, if_neg c25, if_neg c35, hjn, if_pos c50, hin, if_pos c74] <;> rfl))
    · refine w_iconst (pc := 77) (v := 1) dX2_pack_77 (by decide) ?_
      refine w_goto (pc := 78) (tgt := 82) dX2_pack_78 (by decide) ?_
      refine w_req (pc := 82) dX2_pack_82 GX2_41 (c_requireState _ 1 h) rfl rfl (fun _ => ?_) (fun q => absurd q (by decide))
      refine w_aload_n (pc := 85) (i := 0) dX2_pack_85 rfl rfl ?_
      refine w_get (pc := 86) dX2_pack_86 FX2_10 hp.1 rfl ?_
      refine w_iload_n (pc := 89) (i := 1) dX2_pack_89 rfl rfl ?_
      refine w_iload_n (pc := 90) (i := 2) dX2_pack_90 rfl rfl ?_
      refine w_iload_n (pc := 91) (i := 3) dX2_pack_91 rfl rfl ?_
      refine w_vQ (pc := 92) dX2_pack_92 GX2_99 hp.2.1.1 (c_packPipes i j u hp.2.1 hp.2.2.1 hi (by omega)) rfl rfl rfl rfl ?_
      rintro v h1 ⟨rfl, hw1, ho1⟩
      exact w_ireturn (pc := 95) dX2_pack_95 ⟨_, rfl, rfl⟩ (PR.yes (by unfold aPack; rw [if_neg c11, if_neg c25, if_neg c35, hjn, if_pos c50, hin, if_neg (Int32.not_lt.mpr (Int32.not_lt.mp c74))] <;> rfl) (hp.upd hw1 (kPack_B hp.2.2.1) ho1))
set_option maxHeartbeats 1000000 in
theorem c_X2_fire (x : Int32) (hp : Pm σ h) : Ct (d + 8) mX2_fire 2 12 [.ref 0, .int x] h (PR (aFire σ x) h) := by
  refine Ct.of (by decide +kernel) rfl (Nat.le_of_ble_eq_true rfl) ?_
  show WP (d + 8) mX2_fire none 2 12 0 [.ref 0, .int x] [] h _
  refine w_iload_n (pc := 0) (i := 1) dX2_fire_0 rfl rfl ?_
  refine w_iconst (pc := 1) (v := 1) dX2_fire_1 (by decide) ?_
  refine w_bipush (pc := 2) (v := 30) dX2_fire_2 (by decide) ?_
  refine w_sI (pc := 4) dX2_fire_4 GX2_27 (c_isWithin x 1 30 h) rfl rfl rfl rfl ?_
  refine w_req (pc := 7) dX2_fire_7 GX2_23 (c_requireArgument _ _ h) rfl rfl (fun c7 => ?_) (fun c7 => PR.no (by unfold aFire; rw [if_pos c7] <;> rfl))
  refine w_aload_n (pc := 10) (i := 0) dX2_fire_10 rfl rfl ?_
  refine w_get (pc := 11) dX2_fire_11 FX2_10 hp.1 rfl ?_
  refine w_get (pc := 14) dX2_fire_14 FX2_103 hp.2.1.1 rfl ?_
  refine w_iload_n (pc := 17) (i := 1) dX2_fire_17 rfl rfl ?_
  refine w_icmp_lt (pc := 18) (tgt := 35) dX2_fire_18 (by decide) (fun c18 => ?_) (fun c18 => ?_)
  · refine w_iconst (pc := 35) (v := 0) dX2_fire_35 (by decide) ?_
    exact w_req (pc := 36) dX2_fire_36 GX2_41 (c_requireState _ 0 h) rfl rfl (fun q => absurd rfl q) (fun _ => PR.no (by unfold aFire; rw [if_neg c7, if_pos c18] <;> rfl))
  · refine w_aload_n (pc := 21) (i := 0) dX2_fire_21 rfl rfl ?_
    refine w_get (pc := 22) dX2_fire_22 FX2_10 hp.1 rfl ?_
    refine w_vI (pc := 25) dX2_fire_25 GX2_106 hp.2.1.1 (c_areSaggarsEmpty hp.2.1 hp.2.2.1) rfl rfl rfl rfl ?_
    by_cases hf : tSum (σ.1 3) 4 1 (σ.2.1 3) = 0
    · rw [if_pos hf]
      refine w_if_ne (pc := 28) (tgt := 35) dX2_fire_28 (by decide) (fun c28 => ?_) (fun c28 => absurd c28 (by decide))
      refine w_iconst (pc := 35) (v := 0) dX2_fire_35 (by decide) ?_
      exact w_req (pc := 36) dX2_fire_36 GX2_41 (c_requireState _ 0 h) rfl rfl (fun q => absurd rfl q) (fun _ => PR.no (by unfold aFire; rw [if_neg c7, if_neg (Int32.not_lt.mpr (Int32.not_lt.mp c18)), if_pos hf] <;> rfl))
    · rw [if_neg hf]
      refine w_if_ne (pc := 28) (tgt := 35) dX2_fire_28 (by decide) (fun c28 => absurd rfl c28) (fun c28 => ?_)
      refine w_iconst (pc := 31) (v := 1) dX2_fire_31 (by decide) ?_
      refine w_goto (pc := 32) (tgt := 36) dX2_fire_32 (by decide) ?_
      refine w_req (pc := 36) dX2_fire_36 GX2_41 (c_requireState _ 1 h) rfl rfl (fun _ => ?_) (fun q => absurd q (by decide))
      refine w_aload_n (pc := 39) (i := 0) dX2_fire_39 rfl rfl ?_
      refine w_get (pc := 40) dX2_fire_40 FX2_10 hp.1 rfl ?_
      refine w_iload_n (pc := 43) (i := 1) dX2_fire_43 rfl rfl ?_
      refine w_vQ (pc := 44) dX2_fire_44 GX2_109 hp.2.1.1 (c_fireKiln x hp.2.1 hp.2.2.1) rfl rfl rfl rfl ?_
      rintro v h1 ⟨rfl, hw1, ho1⟩
      exact w_ireturn (pc := 47) dX2_fire_47 ⟨_, rfl, rfl⟩ (PR.yes (by unfold aFire; rw [if_neg c7, if_neg (Int32.not_lt.mpr (Int32.not_lt.mp c18)), if_neg hf] <;> rfl) (hp.upd hw1 (kFr_B hp.2.2.1 6).uS ho1))
set_option maxHeartbeats 1000000 in
theorem c_X2_order (x y u o : Int32) (hp : Pm σ h) : Ct (d + 8) mX2_order 5 30 [.ref 0, .int x, .int y, .int u, .int o] h (PR (aOrder σ x y u o) h) := by
  refine Ct.of (by decide +kernel) rfl (Nat.le_of_ble_eq_true rfl) ?_
  show WP (d + 8) mX2_order none 5 30 0 [.ref 0, .int x, .int y, .int u, .int o] [] h _
  refine w_iload_n (pc := 0) (i := 1) dX2_order_0 rfl rfl ?_
  refine w_sI (pc := 1) dX2_order_1 GX2_19 (c_isLength x h) rfl rfl rfl rfl ?_
  refine w_req (pc := 4) dX2_order_4 GX2_23 (c_requireArgument _ _ h) rfl rfl (fun c4 => ?_) (fun c4 => PR.no (by unfold aOrder; rw [if_pos c4] <;> rfl))
  refine w_iload_n (pc := 7) (i := 2) dX2_order_7 rfl rfl ?_
  refine w_iconst (pc := 8) (v := 1) dX2_order_8 (by decide) ?_
  refine w_bipush (pc := 9) (v := 99) dX2_order_9 (by decide) ?_
  refine w_sI (pc := 11) dX2_order_11 GX2_27 (c_isWithin y 1 99 h) rfl rfl rfl rfl ?_
  refine w_req (pc := 14) dX2_order_14 GX2_23 (c_requireArgument _ _ h) rfl rfl (fun c14 => ?_) (fun c14 => PR.no (by unfold aOrder; rw [if_neg c4, if_pos c14] <;> rfl))
  refine w_iload_n (pc := 17) (i := 3) dX2_order_17 rfl rfl ?_
  refine w_iconst (pc := 18) (v := 0) dX2_order_18 (by decide) ?_
  refine w_bipush (pc := 19) (v := 30) dX2_order_19 (by decide) ?_
  refine w_sI (pc := 21) dX2_order_21 GX2_27 (c_isWithin u 0 30 h) rfl rfl rfl rfl ?_
  refine w_req (pc := 24) dX2_order_24 GX2_23 (c_requireArgument _ _ h) rfl rfl (fun c24 => ?_) (fun c24 => PR.no (by unfold aOrder; rw [if_neg c4, if_neg c14, if_pos c24] <;> rfl))
  refine w_iload (pc := 27) (i := 4) dX2_order_27 rfl ?_
  refine w_iconst (pc := 29) (v := 1) dX2_order_29 (by decide) ?_
  refine w_bipush (pc := 30) (v := 99) dX2_order_30 (by decide) ?_
  refine w_sI (pc := 32) dX2_order_32 GX2_27 (c_isWithin o 1 99 h) rfl rfl rfl rfl ?_
  refine w_req (pc := 35) dX2_order_35 GX2_23 (c_requireArgument _ _ h) rfl rfl (fun c35 => ?_) (fun c35 => PR.no (by unfold aOrder; rw [if_neg c4, if_neg c14, if_neg c24, if_pos c35] <;> rfl))
  refine w_aload_n (pc := 38) (i := 0) dX2_order_38 rfl rfl ?_
  refine w_get (pc := 39) dX2_order_39 FX2_10 hp.1 rfl ?_
  refine w_get (pc := 42) dX2_order_42 FX2_112 hp.2.1.1 rfl ?_
  refine w_vI (pc := 45) dX2_order_45 GX2_35 hp.2.1.t4.1 (c_isFull hp.2.1.t4 hp.2.2.1.b4) rfl rfl rfl rfl ?_
  by_cases hf : σ.2.1 4 < 8
  · rw [if_neg (by omega)]
    refine w_if_ne (pc := 48) (tgt := 55) dX2_order_48 (by decide) (fun c48 => absurd rfl c48) (fun c48 => ?_)
    refine w_iconst (pc := 51) (v := 1) dX2_order_51 (by decide) ?_
    refine w_goto (pc := 52) (tgt := 56) dX2_order_52 (by decide) ?_
    refine w_req (pc := 56) dX2_order_56 GX2_41 (c_requireState _ 1 h) rfl rfl (fun _ => ?_) (fun q => absurd q (by decide))
    refine w_aload_n (pc := 59) (i := 0) dX2_order_59 rfl rfl ?_
    refine w_get (pc := 60) dX2_order_60 FX2_10 hp.1 rfl ?_
    refine w_iload_n (pc := 63) (i := 1) dX2_order_63 rfl rfl ?_
    refine w_iload_n (pc := 64) (i := 2) dX2_order_64 rfl rfl ?_
    refine w_iload_n (pc := 65) (i := 3) dX2_order_65 rfl rfl ?_
    refine w_iload (pc := 66) (i := 4) dX2_order_66 rfl ?_
    refine w_vQ (pc := 68) dX2_order_68 GX2_115 hp.2.1.1 (c_addOrder x y u o hp.2.1 hp.2.2.1 hf) rfl rfl rfl rfl ?_
    rintro v h1 ⟨rfl, hw1, ho1⟩
    exact w_ireturn (pc := 71) dX2_order_71 ⟨_, rfl, rfl⟩ (PR.yes (by unfold aOrder; rw [if_neg c4, if_neg c14, if_neg c24, if_neg c35, if_pos hf] <;> rfl) (hp.upd hw1 ((hp.2.2.1.add4 hf).of rfl) ho1))
  · rw [if_pos (by omega)]
    refine w_if_ne (pc := 48) (tgt := 55) dX2_order_48 (by decide) (fun c48 => ?_) (fun c48 => absurd c48 (by decide))
    refine w_iconst (pc := 55) (v := 0) dX2_order_55 (by decide) ?_
    exact w_req (pc := 56) dX2_order_56 GX2_41 (c_requireState _ 0 h) rfl rfl (fun q => absurd rfl q) (fun _ => PR.no (by unfold aOrder; rw [if_neg c4, if_neg c14, if_neg c24, if_neg c35, if_neg hf] <;> rfl))
set_option maxHeartbeats 1000000 in
theorem c_X2_about (x y : Int32) (hp : Pm σ h) : Ct (d + 8) mX2_about 2 12 [.ref 0, .int x, .int y] h (PR (aAbout σ x y) h) := by
  refine Ct.of (by decide +kernel) rfl (Nat.le_of_ble_eq_true rfl) ?_
  show WP (d + 8) mX2_about none 2 12 0 [.ref 0, .int x, .int y] [] h _
  have hR0 := hp.2.2.1.1
  refine w_aload_n (pc := 0) (i := 0) dX2_about_0 rfl rfl ?_
  refine w_get (pc := 1) dX2_about_1 FX2_10 hp.1 rfl ?_
  refine w_get (pc := 4) dX2_about_4 FX2_31 hp.2.1.1 rfl ?_
  refine w_iload_n (pc := 7) (i := 1) dX2_about_7 rfl rfl ?_
  refine w_vI (pc := 8) dX2_about_8 GX2_48 hp.2.1.t0.1 (c_hasRow x hp.2.1.t0) rfl rfl rfl rfl ?_
  show WP (d + 8) mX2_about none 2 12 11 _ [.int (hR (σ.2.1 0) x)] h _
  refine w_req (pc := 11) dX2_about_11 GX2_51 (c_requireIndex _ _ h) rfl rfl (fun c11 => ?_) (fun c11 => PR.no (by unfold aAbout; rw [if_pos c11] <;> rfl))
  refine w_iload_n (pc := 14) (i := 2) dX2_about_14 rfl rfl ?_
  refine w_iconst (pc := 15) (v := 0) dX2_about_15 (by decide) ?_
  refine w_iconst (pc := 16) (v := 5) dX2_about_16 (by decide) ?_
  refine w_sI (pc := 17) dX2_about_17 GX2_27 (c_isWithin y 0 5 h) rfl rfl rfl rfl ?_
  refine w_req (pc := 20) dX2_about_20 GX2_51 (c_requireIndex _ _ h) rfl rfl (fun c20 => ?_) (fun c20 => PR.no (by unfold aAbout; rw [if_neg c11, if_pos c20] <;> rfl))
  obtain ⟨i, hi, ex⟩ := hR_of c11 (by omega)
  subst ex
  obtain ⟨j, hj, ey⟩ := inB_nat (n := 5) c20 (by omega)
  subst ey
  refine w_aload_n (pc := 23) (i := 0) dX2_about_23 rfl rfl ?_
  refine w_get (pc := 24) dX2_about_24 FX2_10 hp.1 rfl ?_
  refine w_iload_n (pc := 27) (i := 1) dX2_about_27 rfl rfl ?_
  refine w_iload_n (pc := 28) (i := 2) dX2_about_28 rfl rfl ?_
  refine w_vI (pc := 29) dX2_about_29 GX2_119 hp.2.1.1 (c_aboutMould i j hp.2.1 hp.2.2.1 hi (by omega)) rfl rfl rfl rfl ?_
  exact w_ireturn (pc := 32) dX2_about_32 ⟨_, rfl, rfl⟩ (PR.yes (by unfold aAbout; rw [if_neg c11, if_neg c20, nI_clamp (by omega), nI_clamp (by omega)] <;> rfl) hp.same)
set_option maxHeartbeats 1000000 in
theorem c_X2_store (x : Int32) (hp : Pm σ h) : Ct (d + 8) mX2_store 1 6 [.ref 0, .int x] h (PR (aStore σ x) h) := by
  refine Ct.of (by decide +kernel) rfl (Nat.le_of_ble_eq_true rfl) ?_
  show WP (d + 8) mX2_store none 1 6 0 [.ref 0, .int x] [] h _
  refine w_iload_n (pc := 0) (i := 1) dX2_store_0 rfl rfl ?_
  refine w_sI (pc := 1) dX2_store_1 GX2_19 (c_isLength x h) rfl rfl rfl rfl ?_
  refine w_req (pc := 4) dX2_store_4 GX2_51 (c_requireIndex _ _ h) rfl rfl (fun c4 => ?_) (fun c4 => PR.no (by unfold aStore; rw [if_pos c4] <;> rfl))
  refine w_aload_n (pc := 7) (i := 0) dX2_store_7 rfl rfl ?_
  refine w_get (pc := 8) dX2_store_8 FX2_10 hp.1 rfl ?_
  refine w_iload_n (pc := 11) (i := 1) dX2_store_11 rfl rfl ?_
  refine w_vI (pc := 12) dX2_store_12 GX2_126 hp.2.1.1 (c_wholeOf x hp.2.1) rfl rfl rfl rfl ?_
  exact w_ireturn (pc := 15) dX2_store_15 ⟨_, rfl, rfl⟩ (PR.yes (by unfold aStore; rw [if_neg c4] <;> rfl) hp.same)
set_option maxHeartbeats 1000000 in
theorem c_X2_count (x : Int32) (hp : Pm σ h) : Ct (d + 8) mX2_count 1 6 [.ref 0, .int x] h (PR (aCount σ x) h) := by
  refine Ct.of (by decide +kernel) rfl (Nat.le_of_ble_eq_true rfl) ?_
  show WP (d + 8) mX2_count none 1 6 0 [.ref 0, .int x] [] h _
  refine w_iload_n (pc := 0) (i := 1) dX2_count_0 rfl rfl ?_
  refine w_iconst (pc := 1) (v := 0) dX2_count_1 (by decide) ?_
  refine w_bipush (pc := 2) (v := 11) dX2_count_2 (by decide) ?_
  refine w_sI (pc := 4) dX2_count_4 GX2_27 (c_isWithin x 0 11 h) rfl rfl rfl rfl ?_
  refine w_req (pc := 7) dX2_count_7 GX2_51 (c_requireIndex _ _ h) rfl rfl (fun c7 => ?_) (fun c7 => PR.no (by unfold aCount; rw [if_pos c7] <;> rfl))
  obtain ⟨j, hj, ey⟩ := inB_nat (n := 11) c7 (by omega)
  subst ey
  refine w_aload_n (pc := 10) (i := 0) dX2_count_10 rfl rfl ?_
  refine w_get (pc := 11) dX2_count_11 FX2_10 hp.1 rfl ?_
  refine w_iload_n (pc := 14) (i := 1) dX2_count_14 rfl rfl ?_
  refine w_vI (pc := 15) dX2_count_15 GX2_129 hp.2.1.1 (c_counted j hp.2.1 hp.2.2.1 (by omega)) rfl rfl rfl rfl ?_
  exact w_ireturn (pc := 18) dX2_count_18 ⟨_, rfl, rfl⟩ (PR.yes (by unfold aCount; rw [if_neg c7, nI_clamp (by omega)] <;> rfl) hp.same)
set_option maxHeartbeats 1000000 in
theorem c_X2_pass (x : Int32) (hp : Pm σ h) : Ct (d + 8) mX2_pass 1 6 [.ref 0, .int x] h (PR (aPass σ x) h) := by
  refine Ct.of (by decide +kernel) rfl (Nat.le_of_ble_eq_true rfl) ?_
  show WP (d + 8) mX2_pass none 1 6 0 [.ref 0, .int x, vU] [] h _
  refine w_iload_n (pc := 0) (i := 1) dX2_pass_0 rfl rfl ?_
  refine w_iconst (pc := 1) (v := 1) dX2_pass_1 (by decide) ?_
  refine w_bipush (pc := 2) (v := 40) dX2_pass_2 (by decide) ?_
  refine w_sI (pc := 4) dX2_pass_4 GX2_27 (c_isWithin x 1 40 h) rfl rfl rfl rfl ?_
  refine w_req (pc := 7) dX2_pass_7 GX2_23 (c_requireArgument _ _ h) rfl rfl (fun c7 => ?_) (fun c7 => PR.no (by unfold aPass; rw [if_pos c7] <;> rfl))
  obtain ⟨j, hj, ey⟩ := inB_pos (n := 40) c7 (by decide) (by omega)
  subst ey
  refine w_aload_n (pc := 10) (i := 0) dX2_pass_10 rfl rfl ?_
  refine w_get (pc := 11) dX2_pass_11 FX2_10 hp.1 rfl ?_
  refine w_get (pc := 14) dX2_pass_14 FX2_132 hp.2.1.1 rfl ?_
  refine w_topi (fun x17 e17 => ?_)
  refine w_istore_n (pc := 17) (i := 2) (ls' := [.ref 0, .int (nI j), .int x17]) dX2_pass_17 rfl (by decide) rfl rfl rfl ?_
  subst e17
  refine w_aload_n (pc := 18) (i := 0) dX2_pass_18 rfl rfl ?_
  refine w_get (pc := 19) dX2_pass_19 FX2_10 hp.1 rfl ?_
  refine w_iload_n (pc := 22) (i := 1) dX2_pass_22 rfl rfl ?_
  refine w_vQ (pc := 23) dX2_pass_23 GX2_135 hp.2.1.1 (c_passDays j (by omega) hp.2.1 hp.2.2.1) rfl rfl rfl rfl ?_
  rintro v h1 ⟨rfl, hw1, ho1⟩
  have hp1 := hp.upd hw1 (kDays_B hp.2.2.1 j) ho1
  refine w_aload_n (pc := 26) (i := 0) dX2_pass_26 rfl rfl ?_
  refine w_get (pc := 27) dX2_pass_27 FX2_10 hp1.1.1 rfl ?_
  refine w_get (pc := 30) dX2_pass_30 FX2_132 hp1.1.2.1.1 rfl ?_
  refine w_iload_n (pc := 33) (i := 2) dX2_pass_33 rfl rfl ?_
  refine w_isub (pc := 34) dX2_pass_34 ?_
  exact w_ireturn (pc := 35) dX2_pass_35 ⟨_, rfl, rfl⟩ (PR.yes (by unfold aPass; rw [if_neg c7, nI_clamp (by omega)] <;> rfl) hp1)
set_option maxHeartbeats 1000000 in
theorem c_X2_breaks (x y : Int32) (hp : Pm σ h) : Ct (d + 8) mX2_breaks 2 12 [.ref 0, .int x, .int y] h (PR (aBreaks σ x y) h) := by
  refine Ct.of (by decide +kernel) rfl (Nat.le_of_ble_eq_true rfl) ?_
  show WP (d + 8) mX2_breaks none 2 12 0 [.ref 0, .int x, .int y] [] h _
  have hR3 := hp.2.2.1.2.2.2.1
  refine w_aload_n (pc := 0) (i := 0) dX2_breaks_0 rfl rfl ?_
  refine w_get (pc := 1) dX2_breaks_1 FX2_10 hp.1 rfl ?_
  refine w_get (pc := 4) dX2_breaks_4 FX2_96 hp.2.1.1 rfl ?_
  refine w_iload_n (pc := 7) (i := 1) dX2_breaks_7 rfl rfl ?_
  refine w_vI (pc := 8) dX2_breaks_8 GX2_48 hp.2.1.t3.1 (c_hasRow x hp.2.1.t3) rfl rfl rfl rfl ?_
  show WP (d + 8) mX2_breaks none 2 12 11 _ [.int (hR (σ.2.1 3) x)] h _
  refine w_req (pc := 11) dX2_breaks_11 GX2_51 (c_requireIndex _ _ h) rfl rfl (fun c11 => ?_) (fun c11 => PR.no (by unfold aBreaks; rw [if_pos c11] <;> rfl))
  refine w_iload_n (pc := 14) (i := 2) dX2_breaks_14 rfl rfl ?_
  refine w_iconst (pc := 15) (v := 1) dX2_breaks_15 (by decide) ?_
  refine w_bipush (pc := 16) (v := 30) dX2_breaks_16 (by decide) ?_
  refine w_sI (pc := 18) dX2_breaks_18 GX2_27 (c_isWithin y 1 30 h) rfl rfl rfl rfl ?_
  refine w_req (pc := 21) dX2_breaks_21 GX2_23 (c_requireArgument _ _ h) rfl rfl (fun c21 => ?_) (fun c21 => PR.no (by unfold aBreaks; rw [if_neg c11, if_pos c21] <;> rfl))
  obtain ⟨i, hi, ex⟩ := hR_of c11 (by omega)
  subst ex
  refine w_aload_n (pc := 24) (i := 0) dX2_breaks_24 rfl rfl ?_
  refine w_get (pc := 25) dX2_breaks_25 FX2_10 hp.1 rfl ?_
  refine w_iload_n (pc := 28) (i := 1) dX2_breaks_28 rfl rfl ?_
  refine w_iload_n (pc := 29) (i := 2) dX2_breaks_29 rfl rfl ?_
  refine w_vI (pc := 30) dX2_breaks_30 GX2_138 hp.2.1.1 (c_stemsThatBreak i y hp.2.1 hp.2.2.1 (by omega)) rfl rfl rfl rfl ?_
  exact w_ireturn (pc := 33) dX2_breaks_33 ⟨_, rfl, rfl⟩ (PR.yes (by unfold aBreaks; rw [if_neg c11, if_neg c21, nI_clamp (by omega)] <;> rfl) hp.same)
set_option maxHeartbeats 1000000 in
theorem c_X2_advise (hp : Pm σ h) : Ct (d + 8) mX2_advise 0 0 [.ref 0] h (RI (kAdvise σ) h) := by
  refine Ct.of (by decide +kernel) rfl (Nat.le_of_ble_eq_true rfl) ?_
  show WP (d + 8) mX2_advise none 0 0 0 [.ref 0] [] h _
  refine w_aload_n (pc := 0) (i := 0) dX2_advise_0 rfl rfl ?_
  refine w_get (pc := 1) dX2_advise_1 FX2_10 hp.1 rfl ?_
  refine w_vI (pc := 4) dX2_advise_4 GX2_106 hp.2.1.1 (c_areSaggarsEmpty hp.2.1 hp.2.2.1) rfl rfl rfl rfl ?_
  by_cases hf : tSum (σ.1 3) 4 1 (σ.2.1 3) = 0
  · rw [if_pos hf]
    refine w_if_eq (pc := 7) (tgt := 14) dX2_advise_7 (by decide) (fun c7 => absurd c7 (by decide)) (fun c7 => ?_)
    refine w_iconst (pc := 10) (v := -1) dX2_advise_10 (by decide) ?_
    refine w_goto (pc := 11) (tgt := 21) dX2_advise_11 (by decide) ?_
    exact w_ireturn (pc := 21) dX2_advise_21 ⟨_, rfl, rfl⟩ ⟨by unfold kAdvise; rw [if_pos hf], rfl⟩
  · rw [if_neg hf]
    refine w_if_eq (pc := 7) (tgt := 14) dX2_advise_7 (by decide) (fun c7 => ?_) (fun c7 => absurd rfl c7)
    refine w_aload_n (pc := 14) (i := 0) dX2_advise_14 rfl rfl ?_
    refine w_get (pc := 15) dX2_advise_15 FX2_10 hp.1 rfl ?_
    refine w_vI (pc := 18) dX2_advise_18 GX2_141 hp.2.1.1 (c_bestCoals hp.2.1 hp.2.2.1) rfl rfl rfl rfl ?_
    exact w_ireturn (pc := 21) dX2_advise_21 ⟨_, rfl, rfl⟩ ⟨by unfold kAdvise; rw [if_neg hf], rfl⟩
set_option maxHeartbeats 1000000 in
theorem c_X2_ready (x : Int32) (hp : Pm σ h) : ∃ φ, Ct (d + 8) mX2_ready 1 6 [.ref 0, .int x] h (PR (aReady σ φ x) h) := by
  obtain ⟨φ, hf1, hf2⟩ := hp.2.2.2
  refine ⟨φ, ?_⟩
  refine Ct.of (by decide +kernel) rfl (Nat.le_of_ble_eq_true rfl) ?_
  show WP (d + 8) mX2_ready none 1 6 0 [.ref 0, .int x] [] h _
  have hR4 := hp.2.2.1.2.2.2.2
  refine w_aload_n (pc := 0) (i := 0) dX2_ready_0 rfl rfl ?_
  refine w_get (pc := 1) dX2_ready_1 FX2_10 hp.1 rfl ?_
  refine w_get (pc := 4) dX2_ready_4 FX2_112 hp.2.1.1 rfl ?_
  refine w_iload_n (pc := 7) (i := 1) dX2_ready_7 rfl rfl ?_
  refine w_vI (pc := 8) dX2_ready_8 GX2_48 hp.2.1.t4.1 (c_hasRow x hp.2.1.t4) rfl rfl rfl rfl ?_
  show WP (d + 8) mX2_ready none 1 6 11 _ [.int (hR (σ.2.1 4) x)] h _
  refine w_req (pc := 11) dX2_ready_11 GX2_51 (c_requireIndex _ _ h) rfl rfl (fun c11 => ?_) (fun c11 => PR.no (by unfold aReady; rw [if_pos c11] <;> rfl))
  obtain ⟨i, hi, ex⟩ := hR_of c11 (by omega)
  subst ex
  refine w_aload_n (pc := 14) (i := 0) dX2_ready_14 rfl rfl ?_
  refine w_get (pc := 15) dX2_ready_15 FX2_16 hp.1 rfl ?_
  refine w_aload_n (pc := 18) (i := 0) dX2_ready_18 rfl rfl ?_
  refine w_get (pc := 19) dX2_ready_19 FX2_10 hp.1 rfl ?_
  refine w_vQ (pc := 22) dX2_ready_22 GX2_145 hf1.1 (c_Works_copyFrom hf1 hf2 hp.2.1 hp.2.2.1 (by omega)) rfl rfl rfl rfl ?_
  rintro v h1 ⟨rfl, hw1, ho1⟩
  have hB1 := kCopy_B (σ := φ) hp.2.2.1
  have hp1 := hp.upd2 hw1 hB1 ho1
  refine w_aload_n (pc := 25) (i := 0) dX2_ready_25 rfl rfl ?_
  refine w_get (pc := 26) dX2_ready_26 FX2_16 hp1.1.1 rfl ?_
  refine w_iload_n (pc := 29) (i := 1) dX2_ready_29 rfl rfl ?_
  refine w_vQ (pc := 30) dX2_ready_30 GX2_149 hw1.1 (c_daysTillServed i hw1 hB1) rfl rfl rfl rfl ?_
  rintro v h2 ⟨rfl, hw2, ho2⟩
  exact w_ireturn (pc := 33) dX2_ready_33 ⟨_, rfl, rfl⟩ (PR.yes (by unfold aReady; rw [if_neg c11, nI_clamp (by omega)] <;> rfl) (hp.upd2 hw2 (kTill_B hB1) (ho1.tr ho2)))
set_option maxHeartbeats 1000000 in
theorem c_X2_foresee (x y : Int32) (hp : Pm σ h) : ∃ φ, Ct (d + 8) mX2_foresee 2 12 [.ref 0, .int x, .int y] h (PR (aForesee σ φ x y) h) := by
  obtain ⟨φ, hf1, hf2⟩ := hp.2.2.2
  refine ⟨φ, ?_⟩
  refine Ct.of (by decide +kernel) rfl (Nat.le_of_ble_eq_true rfl) ?_
  show WP (d + 8) mX2_foresee none 2 12 0 [.ref 0, .int x, .int y] [] h _
  refine w_iload_n (pc := 0) (i := 1) dX2_foresee_0 rfl rfl ?_
  refine w_iconst (pc := 1) (v := 1) dX2_foresee_1 (by decide) ?_
  refine w_bipush (pc := 2) (v := 40) dX2_foresee_2 (by decide) ?_
  refine w_sI (pc := 4) dX2_foresee_4 GX2_27 (c_isWithin x 1 40 h) rfl rfl rfl rfl ?_
  refine w_req (pc := 7) dX2_foresee_7 GX2_23 (c_requireArgument _ _ h) rfl rfl (fun c7 => ?_) (fun c7 => PR.no (by unfold aForesee; rw [if_pos c7] <;> rfl))
  refine w_iload_n (pc := 10) (i := 2) dX2_foresee_10 rfl rfl ?_
  refine w_iconst (pc := 11) (v := 0) dX2_foresee_11 (by decide) ?_
  refine w_bipush (pc := 12) (v := 11) dX2_foresee_12 (by decide) ?_
  refine w_sI (pc := 14) dX2_foresee_14 GX2_27 (c_isWithin y 0 11 h) rfl rfl rfl rfl ?_
  refine w_req (pc := 17) dX2_foresee_17 GX2_51 (c_requireIndex _ _ h) rfl rfl (fun c17 => ?_) (fun c17 => PR.no (by unfold aForesee; rw [if_neg c7, if_pos c17] <;> rfl))
  obtain ⟨i, hi, ex⟩ := inB_pos (n := 40) c7 (by decide) (by omega)
  subst ex
  obtain ⟨j, hj, ey⟩ := inB_nat (n := 11) c17 (by omega)
  subst ey
  refine w_aload_n (pc := 20) (i := 0) dX2_foresee_20 rfl rfl ?_
  refine w_get (pc := 21) dX2_foresee_21 FX2_16 hp.1 rfl ?_
  refine w_aload_n (pc := 24) (i := 0) dX2_foresee_24 rfl rfl ?_
  refine w_get (pc := 25) dX2_foresee_25 FX2_10 hp.1 rfl ?_
  refine w_vQ (pc := 28) dX2_foresee_28 GX2_145 hf1.1 (c_Works_copyFrom hf1 hf2 hp.2.1 hp.2.2.1 (by omega)) rfl rfl rfl rfl ?_
  rintro v h1 ⟨rfl, hw1, ho1⟩
  have hB1 := kCopy_B (σ := φ) hp.2.2.1
  have hp1 := hp.upd2 hw1 hB1 ho1
  refine w_aload_n (pc := 31) (i := 0) dX2_foresee_31 rfl rfl ?_
  refine w_get (pc := 32) dX2_foresee_32 FX2_16 hp1.1.1 rfl ?_
  refine w_iload_n (pc := 35) (i := 1) dX2_foresee_35 rfl rfl ?_
  refine w_vQ (pc := 36) dX2_foresee_36 GX2_135 hw1.1 (c_passDays i (by omega) hw1 hB1) rfl rfl rfl rfl ?_
  rintro v h2 ⟨rfl, hw2, ho2⟩
  have hB2 := kDays_B hB1 i
  have hp2 := hp.upd2 hw2 hB2 (ho1.tr ho2)
  refine w_aload_n (pc := 39) (i := 0) dX2_foresee_39 rfl rfl ?_
  refine w_get (pc := 40) dX2_foresee_40 FX2_16 hp2.1.1 rfl ?_
  refine w_iload_n (pc := 43) (i := 2) dX2_foresee_43 rfl rfl ?_
  refine w_vI (pc := 44) dX2_foresee_44 GX2_129 hw2.1 (c_counted j hw2 hB2 (by omega)) rfl rfl rfl rfl ?_
  exact w_ireturn (pc := 47) dX2_foresee_47 ⟨_, rfl, rfl⟩ (PR.yes (by unfold aForesee; rw [if_neg c7, if_neg c17, nI_clamp (by omega), nI_clamp (by omega)] <;> rfl) hp2)
set_option maxHeartbeats 1000000 in
theorem c_X2_mean (hp : Pm σ h) : Ct (d + 8) mX2_mean 0 0 [.ref 0] h (RO (.double (kMean σ)) h) := by
  refine Ct.of (by decide +kernel) rfl (Nat.le_of_ble_eq_true rfl) ?_
  show WP (d + 8) mX2_mean none 0 0 0 [.ref 0] [] h _
  refine w_aload_n (pc := 0) (i := 0) dX2_mean_0 rfl rfl ?_
  refine w_get (pc := 1) dX2_mean_1 FX2_10 hp.1 rfl ?_
  refine w_vO (pc := 4) dX2_mean_4 GX2_152 hp.2.1.1 (c_meanFlaw hp.2.1 hp.2.2.1) rfl rfl rfl rfl ?_
  exact w_dreturn (pc := 7) dX2_mean_7 rfl ⟨rfl, rfl⟩
set_option maxHeartbeats 1000000 in
theorem c_X2_digest (hp : Pm σ h) : Ct (d + 8) mX2_digest 0 0 [.ref 0] h (RO (.long (kDig σ)) h) := by
  refine Ct.of (by decide +kernel) rfl (Nat.le_of_ble_eq_true rfl) ?_
  show WP (d + 8) mX2_digest none 0 0 0 [.ref 0] [] h _
  refine w_aload_n (pc := 0) (i := 0) dX2_digest_0 rfl rfl ?_
  refine w_get (pc := 1) dX2_digest_1 FX2_10 hp.1 rfl ?_
  refine w_vO (pc := 4) dX2_digest_4 GX2_156 hp.2.1.1 (c_checksum hp.2.1 hp.2.2.1) rfl rfl rfl rfl ?_
  exact w_lreturn (pc := 7) dX2_digest_7 rfl ⟨rfl, rfl⟩
end FACE
