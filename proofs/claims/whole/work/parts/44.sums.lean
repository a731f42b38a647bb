/-! Works: the mean and the checksum -/
theorem w_forget {d : Nat} {M : MD} {z : Option (Nat × (Nat → Int32))} {k n pc : Nat} {ls st : List Value} {h : AH} {P : AO → AH → Prop} (i : Nat) {ls' : List Value} (hl : ls.set i vU = ls') (kk : WP d M z k n pc ls' st h P) : WP d M z k n pc ls st h P := by
  subst hl
  intro p l e R s m args below meth c D tc A H locs cells slots as ws L sv sb Q hC hI hX hL
  refine kk hC hI hX ⟨by rw [List.length_set]; exact hL.1, hL.2.1, hL.2.2.1, fun j v hj hv => ?_⟩
  by_cases e : i = j
  · subst e
    have hlt := (List.getElem?_eq_some_iff.mp hj).1
    rw [List.length_set] at hlt
    rw [List.getElem?_set_self hlt] at hj
    cases hj
    exact absurd rfl hv
  · rw [List.getElem?_set_ne e] at hj
    exact hL.2.2.2 j v hj hv
abbrev RO (v : Value) (h : AH) : AO → AH → Prop := fun o h' => o = .inl (some v) ∧ h' = h
theorem w_vO {d : Nat} {M M' : MD} {z : Option (Nat × (Nat → Int32))} {k n pc i np ci a : Nat} {ls st stk As : List Value} {h h1 : AH} {P : AO → AH → Prop} {fs : List Value} {v : Value} (hd : decode (mdB M) pc = .ok (.invokevirtual i, 3)) (hg : GV (mdY M).cls i M' np ci) (hh : h[a]? = some (.inr (ci, fs))) (hct : Ct d M' 0 0 (.ref a :: As) h (RO v h1)) (hA : As.length = np) (hx : noX (.ref a :: As) = true) (hst : stk = As.reverse ++ .ref a :: st) (ho : okC st = true)
    (kk : WP (d + 1) M z k n (pc + 3) ls (v :: st) h1 P) : WP (d + 1) M z k n pc ls stk h P :=
  w_v hd hg hh hct hA hx hst ho (Nat.zero_add k).symm (Nat.zero_add n).symm (fun av h' q => by obtain ⟨q1, rfl⟩ := q; injection q1 with q2; subst q2; exact kk) (fun E h' q => by cases q.1)
theorem w_sO {d : Nat} {M M' : MD} {z : Option (Nat × (Nat → Int32))} {k n pc i np : Nat} {ls st stk As : List Value} {h h1 : AH} {P : AO → AH → Prop} {v : Value} (hd : decode (mdB M) pc = .ok (.invokestatic i, 3)) (hg : GS (mdY M).cls i M' np) (hct : Ct d M' 0 0 As h (RO v h1)) (hA : As.length = np) (hx : noX As = true) (hst : stk = As.reverse ++ st) (ho : okC st = true)
    (kk : WP (d + 1) M z k n (pc + 3) ls (v :: st) h1 P) : WP (d + 1) M z k n pc ls stk h P :=
  w_s hd hg hct hA hx hst ho (Nat.zero_add k).symm (Nat.zero_add n).symm (fun av h' q => by obtain ⟨q1, rfl⟩ := q; injection q1 with q2; subst q2; exact kk) (fun E h' q => by cases q.1)
theorem nn_div {a b : Int32} (hb : ¬ b = 0) : Jvm.FP.Core.val64 (Jvm.FP.Core.ddiv (Jvm.FP.Core.i2d a) (Jvm.FP.Core.i2d b)) ≠ .nan := by
  have ha := Jvm.FP.Core.i2d_int a
  have hb2 := Jvm.FP.Core.i2d_int b
  unfold Jvm.FP.Core.DInt at ha hb2
  rw [Jvm.FP.Core.val64_ddiv]
  have hbi : b.toInt ≠ 0 := fun q => hb (Int32.toInt_inj.mp (q.trans rfl))
  revert ha hb2
  cases Jvm.FP.Core.val64 (Jvm.FP.Core.i2d a) with
  | nan => intro ha; exact ha.elim
  | inf s => intro ha; exact ha.elim
  | fin s c q =>
    cases Jvm.FP.Core.val64 (Jvm.FP.Core.i2d b) with
    | nan => intro _ hb2; exact hb2.elim
    | inf s => intro _ hb2; exact hb2.elim
    | fin t d r =>
      intro _ hb2
      have hd0 : ¬ d = 0 := fun e => hbi ((Jvm.FP.Core.whole_zero hb2).mp e)
      show (if d = 0 then (if c = 0 then Jvm.FP.Core.Datum.nan else .inf (s != t)) else Jvm.FP.Core.roundRatio Jvm.FP.Core.b64 (s != t) c d (q - r)) ≠ .nan
      rw [if_neg hd0]
      unfold Jvm.FP.Core.roundRatio Jvm.FP.Core.roundAt Jvm.FP.Core.settle Jvm.FP.Core.bound
      repeat' split
      all_goals exact Jvm.FP.Core.Datum.noConfusion
theorem nn_bits {r : UInt64} (h : Jvm.FP.Core.val64 r ≠ .nan) : vf_n64 r := by
  unfold vf_n64
  rw [UInt64.le_iff_toNat_le, UInt64.toNat_and]
  show r.toNat &&& (2 ^ 63 - 1) ≤ 2047 * 2 ^ 52
  rw [Nat.and_two_pow_sub_one_eq_mod]
  unfold Jvm.FP.Core.val64 Jvm.FP.Core.decode Jvm.FP.Core.fieldE Jvm.FP.Core.fieldT at h
  rw [show Jvm.FP.Core.b64.tails = 2 ^ 52 from rfl, show Jvm.FP.Core.b64.exps = 2 ^ 11 from rfl] at h
  by_cases e1 : r.toNat / 2 ^ 52 % 2 ^ 11 = 2 ^ 11 - 1
  · rw [if_pos e1] at h
    by_cases e2 : r.toNat % 2 ^ 52 = 0
    · omega
    · rw [if_neg e2] at h; exact absurd rfl h
  · omega
theorem i64_31 (x : Int64) : x * 31 = x * 31 := rfl
def dgS (d : Int64) (x : Int32) : Int64 := d * 31 + x.toInt64
def dgN (g : Nat → Int32) (d : Int64) : Nat → Int64
  | 0 => d
  | n + 1 => dgS (dgN g d n) (g n)
def dgT (g : Nat → Nat → Int32) (w : Nat) (d : Int64) : Nat → Int64
  | 0 => d
  | n + 1 => dgN (g n) (dgT g w d n) w
def tFl (f : Nat → Int32) : Nat → Int32
  | 0 => 0
  | n + 1 => tFl f n + f (n * 4 + 1) * f (n * 4 + 3)
def kMean (σ : WS) : UInt64 := if tSum (σ.1 2) 4 1 (σ.2.1 2) = 0 then FP.dconst0 else FP.ddiv (FP.i2d (tFl (σ.1 2) (σ.2.1 2))) (FP.i2d (tSum (σ.1 2) 4 1 (σ.2.1 2)))
def tTab (f : Nat → Int32) (w : Nat) : Nat → Nat → Int32 := fun i j => f (i * w + j)
def kDg1 (σ : WS) : Int64 := dgN (kCount σ) 1423 12
def kDg2 (σ : WS) : Int64 := dgN (fun i => kDries σ (nI i)) (kDg1 σ) 7
def kDg3 (σ : WS) : Int64 := dgT (kAbout σ) 6 (kDg2 σ) (σ.2.1 0)
def kDg4 (σ : WS) : Int64 := dgT (tTab (σ.1 1) 2) 2 (kDg3 σ) (σ.2.1 1)
def kDg5 (σ : WS) : Int64 := dgT (tTab (σ.1 2) 4) 4 (kDg4 σ) (σ.2.1 2)
def kDg6 (σ : WS) : Int64 := dgT (tTab (σ.1 3) 4) 4 (kDg5 σ) (σ.2.1 3)
def kDg7 (σ : WS) : Int64 := dgN (fun i => kWholeOf σ (nI (4 + i))) (kDg6 σ) 21
def kDig (σ : WS) : Int64 := dgT (tTab (σ.1 4) 4) 4 (kDg7 σ) (σ.2.1 4)
section WORKS5
variable {d b : Nat} {σ : WS} {h : AH}
set_option maxHeartbeats 1000000 in
theorem c_meanFlaw_loop {s : Int32} (hw : Wk b σ h) (hB : WB σ) (hs : ¬ s = 0) : ∀ (m k : Nat), k + m = σ.2.1 2 → WP (d + 2) mX1_meanFlaw none 0 0 19 [.ref b, .int s, .int (tFl (σ.1 2) k), .int (nI k)] [] h (RO (.double (FP.ddiv (FP.i2d (tFl (σ.1 2) (σ.2.1 2))) (FP.i2d s))) h) := by
  have hR := hB.2.2.1
  intro m
  induction m with
  | zero =>
    intro k hk
    have hk : k = σ.2.1 2 := by omega
    subst hk
    refine w_iload_n (pc := 19) (i := 3) dX1_meanFlaw_19 rfl rfl ?_
    refine w_aload_n (pc := 20) (i := 0) dX1_meanFlaw_20 rfl rfl ?_
    refine w_get (pc := 21) dX1_meanFlaw_21 FX1_23 hw.1 rfl ?_
    refine w_vI (pc := 24) dX1_meanFlaw_24 GX1_89 hw.t2.1 (c_size hw.t2) rfl rfl rfl rfl ?_
    refine w_icmp_ge (pc := 27) (tgt := 58) dX1_meanFlaw_27 (by decide) (fun c27 => ?_) (fun c27 => absurd (nI_le (Nat.le_refl _) (by omega)) c27)
    refine w_iload_n (pc := 58) (i := 2) dX1_meanFlaw_58 rfl rfl ?_
    refine w_i2d (pc := 59) dX1_meanFlaw_59 ?_
    refine w_iload_n (pc := 60) (i := 1) dX1_meanFlaw_60 rfl rfl ?_
    refine w_i2d (pc := 61) dX1_meanFlaw_61 ?_
    refine w_ddiv (pc := 62) dX1_meanFlaw_62 (nn_bits (nn_div hs)) ?_
    exact w_dreturn (pc := 63) dX1_meanFlaw_63 rfl ⟨rfl, rfl⟩
  | succ m ih =>
    intro k hk
    refine w_iload_n (pc := 19) (i := 3) dX1_meanFlaw_19 rfl rfl ?_
    refine w_aload_n (pc := 20) (i := 0) dX1_meanFlaw_20 rfl rfl ?_
    refine w_get (pc := 21) dX1_meanFlaw_21 FX1_23 hw.1 rfl ?_
    refine w_vI (pc := 24) dX1_meanFlaw_24 GX1_89 hw.t2.1 (c_size hw.t2) rfl rfl rfl rfl ?_
    refine w_icmp_ge (pc := 27) (tgt := 58) dX1_meanFlaw_27 (by decide) (fun c27 => absurd c27 (nI_ge (by omega) (by omega))) (fun c27 => ?_)
    refine w_iload_n (pc := 30) (i := 2) dX1_meanFlaw_30 rfl rfl ?_
    refine w_aload_n (pc := 31) (i := 0) dX1_meanFlaw_31 rfl rfl ?_
    refine w_get (pc := 32) dX1_meanFlaw_32 FX1_23 hw.1 rfl ?_
    refine w_iload_n (pc := 35) (i := 3) dX1_meanFlaw_35 rfl rfl ?_
    refine w_iconst (pc := 36) (v := 1) dX1_meanFlaw_36 (by decide) ?_
    refine w_vI (pc := 37) dX1_meanFlaw_37 GX1_96 hw.t2.1 (c_at k 1 hw.t2 hB.b2 (by omega) (by omega)) rfl rfl rfl rfl ?_
    refine w_aload_n (pc := 40) (i := 0) dX1_meanFlaw_40 rfl rfl ?_
    refine w_get (pc := 41) dX1_meanFlaw_41 FX1_23 hw.1 rfl ?_
    refine w_iload_n (pc := 44) (i := 3) dX1_meanFlaw_44 rfl rfl ?_
    refine w_iconst (pc := 45) (v := 3) dX1_meanFlaw_45 (by decide) ?_
    refine w_vI (pc := 46) dX1_meanFlaw_46 GX1_96 hw.t2.1 (c_at k 3 hw.t2 hB.b2 (by omega) (by omega)) rfl rfl rfl rfl ?_
    refine w_imul (pc := 49) dX1_meanFlaw_49 ?_
    refine w_iadd (pc := 50) dX1_meanFlaw_50 ?_
    refine w_topi (fun x51 e51 => ?_)
    refine w_istore_n (pc := 51) (i := 2) (ls' := [.ref b, .int s, .int x51, .int (nI k)]) dX1_meanFlaw_51 rfl (by decide) rfl rfl rfl ?_
    obtain ⟨x52, e52⟩ : ∃ y : Int32, y = (nI k) + 1 := ⟨_, rfl⟩
    refine w_iinc (pc := 52) (i := 3) (y := x52) (ls' := [.ref b, .int s, .int x51, .int x52]) dX1_meanFlaw_52 rfl (by rw [e52]; rfl) (by decide) rfl rfl rfl ?_
    refine w_goto (pc := 55) (tgt := 19) dX1_meanFlaw_55 (by decide) ?_
    obtain rfl : x52 = nI (k + 1) := by rw [e52]; exact nI_1 k
    subst e51
    exact ih (k + 1) (by omega)
set_option maxHeartbeats 1000000 in
theorem c_meanFlaw (hw : Wk b σ h) (hB : WB σ) : Ct (d + 2) mX1_meanFlaw 0 0 [.ref b] h (RO (.double (kMean σ)) h) := by
  refine Ct.of (by decide +kernel) rfl (Nat.le_of_ble_eq_true rfl) ?_
  show WP (d + 2) mX1_meanFlaw none 0 0 0 [.ref b, vU, vU, vU] [] h _
  refine w_aload_n (pc := 0) (i := 0) dX1_meanFlaw_0 rfl rfl ?_
  refine w_get (pc := 1) dX1_meanFlaw_1 FX1_23 hw.1 rfl ?_
  refine w_iconst (pc := 4) (v := 1) dX1_meanFlaw_4 (by decide) ?_
  refine w_vI (pc := 5) dX1_meanFlaw_5 GX1_109 hw.t2.1 (c_sum 1 hw.t2 hB.b2 (by omega)) rfl rfl rfl rfl ?_
  refine w_topi (fun x8 e8 => ?_)
  refine w_istore_n (pc := 8) (i := 1) (ls' := [.ref b, .int x8, vU, vU]) dX1_meanFlaw_8 rfl (by decide) rfl rfl rfl ?_
  subst e8
  refine w_iload_n (pc := 9) (i := 1) dX1_meanFlaw_9 rfl rfl ?_
  refine w_if_ne (pc := 10) (tgt := 15) dX1_meanFlaw_10 (by decide) (fun c10 => ?_) (fun c10 => ?_)
  · refine w_iconst (pc := 15) (v := 0) dX1_meanFlaw_15 (by decide) ?_
    refine w_topi (fun x16 e16 => ?_)
    refine w_istore_n (pc := 16) (i := 2) (ls' := [.ref b, .int (tSum (σ.1 2) 4 1 (σ.2.1 2)), .int x16, vU]) dX1_meanFlaw_16 rfl (by decide) rfl rfl rfl ?_
    refine w_iconst (pc := 17) (v := 0) dX1_meanFlaw_17 (by decide) ?_
    refine w_topi (fun x18 e18 => ?_)
    refine w_istore_n (pc := 18) (i := 3) (ls' := [.ref b, .int (tSum (σ.1 2) 4 1 (σ.2.1 2)), .int x16, .int x18]) dX1_meanFlaw_18 rfl (by decide) rfl rfl rfl ?_
    subst e16
    subst e18
    have hL := c_meanFlaw_loop (d := d) hw hB c10 (σ.2.1 2) 0 (Nat.zero_add _)
    unfold kMean
    rw [if_neg c10]
    exact hL
  · refine w_dconst0 (pc := 13) dX1_meanFlaw_13 ?_
    exact w_dreturn (pc := 14) dX1_meanFlaw_14 rfl ⟨by unfold kMean; rw [if_pos c10], rfl⟩
set_option maxHeartbeats 1000000 in
theorem c_withTable_in {tb c N cols rows : Nat} {f : Nat → Int32} {d0 : Int64} (hT : TbO tb c N cols rows f h) (hB : TbB N cols rows) {k : Nat} {y : Int64} (hk : k < rows) {P : AO → AH → Prop} (hK : WP (d + 1) mX1_withTable none 0 0 48 [.long d0, vU, .ref tb, .long (dgN (tTab f cols k) y cols), vU, .int (nI k), .int (nI cols)] [] h P) : ∀ (m j : Nat), j + m = cols → WP (d + 1) mX1_withTable none 0 0 17 [.long d0, vU, .ref tb, .long (dgN (tTab f cols k) y j), vU, .int (nI k), .int (nI j)] [] h P := by
  have hc := hB.2.2.2
  intro m
  induction m with
  | zero =>
    intro j hj
    have hj : j = cols := by omega
    subst hj
    refine w_iload (pc := 17) (i := 6) dX1_withTable_17 rfl ?_
    refine w_aload_n (pc := 19) (i := 2) dX1_withTable_19 rfl rfl ?_
    refine w_vI (pc := 20) dX1_withTable_20 GX1_201 hT.1 (c_width hT) rfl rfl rfl rfl ?_
    refine w_icmp_ge (pc := 23) (tgt := 48) dX1_withTable_23 (by decide) (fun c23 => ?_) (fun c23 => absurd (nI_le (Nat.le_refl _) (by omega)) c23)
    exact hK
  | succ m ih =>
    intro j hj
    refine w_iload (pc := 17) (i := 6) dX1_withTable_17 rfl ?_
    refine w_aload_n (pc := 19) (i := 2) dX1_withTable_19 rfl rfl ?_
    refine w_vI (pc := 20) dX1_withTable_20 GX1_201 hT.1 (c_width hT) rfl rfl rfl rfl ?_
    refine w_icmp_ge (pc := 23) (tgt := 48) dX1_withTable_23 (by decide) (fun c23 => absurd c23 (nI_ge (by omega) (by omega))) (fun c23 => ?_)
    refine w_lload_n (pc := 26) (i := 3) dX1_withTable_26 rfl rfl ?_
    refine w_ldc2 (pc := 27) dX1_withTable_27 CX1_185 ?_
    refine w_lmul (pc := 30) dX1_withTable_30 ?_
    refine w_aload_n (pc := 31) (i := 2) dX1_withTable_31 rfl rfl ?_
    refine w_iload (pc := 32) (i := 5) dX1_withTable_32 rfl ?_
    refine w_iload (pc := 34) (i := 6) dX1_withTable_34 rfl ?_
    refine w_vI (pc := 36) dX1_withTable_36 GX1_96 hT.1 (c_at k j hT hB hk (by omega)) rfl rfl rfl rfl ?_
    refine w_i2l (pc := 39) dX1_withTable_39 ?_
    refine w_ladd (pc := 40) dX1_withTable_40 ?_
    refine w_topl (fun x41 e41 => ?_)
    refine w_lstore_n (pc := 41) (i := 3) (ls' := [.long d0, vU, .ref tb, .long x41, vU, .int (nI k), .int (nI j)]) dX1_withTable_41 rfl (by decide) rfl rfl rfl ?_
    obtain ⟨x42, e42⟩ : ∃ y : Int32, y = (nI j) + 1 := ⟨_, rfl⟩
    refine w_iinc (pc := 42) (i := 6) (y := x42) (ls' := [.long d0, vU, .ref tb, .long x41, vU, .int (nI k), .int x42]) dX1_withTable_42 rfl (by rw [e42]; rfl) (by decide) rfl rfl rfl ?_
    refine w_goto (pc := 45) (tgt := 17) dX1_withTable_45 (by decide) ?_
    obtain rfl : x42 = nI (j + 1) := by rw [e42]; exact nI_1 j
    subst e41
    exact ih (j + 1) (by omega)
set_option maxHeartbeats 1000000 in
theorem c_withTable_loop {tb c N cols rows : Nat} {f : Nat → Int32} {d0 : Int64} (hT : TbO tb c N cols rows f h) (hB : TbB N cols rows) : ∀ (m k : Nat), k + m = rows → WP (d + 1) mX1_withTable none 0 0 5 [.long d0, vU, .ref tb, .long (dgT (tTab f cols) cols d0 k), vU, .int (nI k), vU] [] h (RO (.long (dgT (tTab f cols) cols d0 rows)) h) := by
  have hr := hB.rows
  intro m
  induction m with
  | zero =>
    intro k hk
    have hk : k = rows := by omega
    subst hk
    refine w_iload (pc := 5) (i := 5) dX1_withTable_5 rfl ?_
    refine w_aload_n (pc := 7) (i := 2) dX1_withTable_7 rfl rfl ?_
    refine w_vI (pc := 8) dX1_withTable_8 GX1_89 hT.1 (c_size hT) rfl rfl rfl rfl ?_
    refine w_icmp_ge (pc := 11) (tgt := 54) dX1_withTable_11 (by decide) (fun c11 => ?_) (fun c11 => absurd (nI_le (Nat.le_refl _) (by omega)) c11)
    refine w_lload_n (pc := 54) (i := 3) dX1_withTable_54 rfl rfl ?_
    exact w_lreturn (pc := 55) dX1_withTable_55 rfl ⟨rfl, rfl⟩
  | succ m ih =>
    intro k hk
    refine w_iload (pc := 5) (i := 5) dX1_withTable_5 rfl ?_
    refine w_aload_n (pc := 7) (i := 2) dX1_withTable_7 rfl rfl ?_
    refine w_vI (pc := 8) dX1_withTable_8 GX1_89 hT.1 (c_size hT) rfl rfl rfl rfl ?_
    refine w_icmp_ge (pc := 11) (tgt := 54) dX1_withTable_11 (by decide) (fun c11 => absurd c11 (nI_ge (by omega) (by omega))) (fun c11 => ?_)
    refine w_iconst (pc := 14) (v := 0) dX1_withTable_14 (by decide) ?_
    refine w_topi (fun x15 e15 => ?_)
    refine w_istore (pc := 15) (i := 6) (ls' := [.long d0, vU, .ref tb, .long (dgT (tTab f cols) cols d0 k), vU, .int (nI k), .int x15]) dX1_withTable_15 (by decide) rfl rfl rfl ?_
    subst e15
    refine c_withTable_in hT hB (show k < rows by omega) ?_ cols 0 (Nat.zero_add _)
    obtain ⟨x48, e48⟩ : ∃ y : Int32, y = (nI k) + 1 := ⟨_, rfl⟩
    refine w_iinc (pc := 48) (i := 5) (y := x48) (ls' := [.long d0, vU, .ref tb, .long (dgT (tTab f cols) cols d0 (k + 1)), vU, .int x48, .int (nI cols)]) dX1_withTable_48 rfl (by rw [e48]; rfl) (by decide) rfl rfl rfl ?_
    refine w_goto (pc := 51) (tgt := 5) dX1_withTable_51 (by decide) ?_
    obtain rfl : x48 = nI (k + 1) := by rw [e48]; exact nI_1 k
    exact w_forget 6 rfl (ih (k + 1) (by omega))
set_option maxHeartbeats 1000000 in
theorem c_withTable {tb c N cols rows : Nat} {f : Nat → Int32} {d0 : Int64} (hT : TbO tb c N cols rows f h) (hB : TbB N cols rows) : Ct (d + 1) mX1_withTable 0 0 [.long d0, .ref tb] h (RO (.long (dgT (tTab f cols) cols d0 rows)) h) := by
  refine Ct.of (by decide +kernel) rfl (Nat.le_of_ble_eq_true rfl) ?_
  show WP (d + 1) mX1_withTable none 0 0 0 [.long d0, vU, .ref tb, vU, vU, vU, vU] [] h _
  refine w_lload_n (pc := 0) (i := 0) dX1_withTable_0 rfl rfl ?_
  refine w_topl (fun x1 e1 => ?_)
  refine w_lstore_n (pc := 1) (i := 3) (ls' := [.long d0, vU, .ref tb, .long x1, vU, vU, vU]) dX1_withTable_1 rfl (by decide) rfl rfl rfl ?_
  refine w_iconst (pc := 2) (v := 0) dX1_withTable_2 (by decide) ?_
  refine w_topi (fun x3 e3 => ?_)
  refine w_istore (pc := 3) (i := 5) (ls' := [.long d0, vU, .ref tb, .long x1, vU, .int x3, vU]) dX1_withTable_3 (by decide) rfl rfl rfl ?_
  subst e1
  subst e3
  exact c_withTable_loop hT hB rows 0 (Nat.zero_add _)
set_option maxHeartbeats 1000000 in
theorem c_withMoulds_in (hw : Wk b σ h) (hB : WB σ) {d0 : Int64} {k : Nat} {y : Int64} (hk : k < σ.2.1 0) {P : AO → AH → Prop} (hK : WP (d + 3) mX1_withMoulds none 0 0 48 [.ref b, .long d0, vU, .long (dgN (kAbout σ k) y 6), vU, .int (nI k), .int (nI 6)] [] h P) : ∀ (m j : Nat), j + m = 6 → WP (d + 3) mX1_withMoulds none 0 0 20 [.ref b, .long d0, vU, .long (dgN (kAbout σ k) y j), vU, .int (nI k), .int (nI j)] [] h P := by
  have hR := hB.1
  intro m
  induction m with
  | zero =>
    intro j hj
    have hj : j = 6 := by omega
    subst hj
    refine w_iload (pc := 20) (i := 6) dX1_withMoulds_20 rfl ?_
    refine w_iconst (pc := 22) (v := 5) dX1_withMoulds_22 (by decide) ?_
    refine w_icmp_gt (pc := 23) (tgt := 48) dX1_withMoulds_23 (by decide) (fun c23 => ?_) (fun c23 => absurd (by decide) c23)
    exact hK
  | succ m ih =>
    intro j hj
    refine w_iload (pc := 20) (i := 6) dX1_withMoulds_20 rfl ?_
    refine w_iconst (pc := 22) (v := 5) dX1_withMoulds_22 (by decide) ?_
    refine w_icmp_gt (pc := 23) (tgt := 48) dX1_withMoulds_23 (by decide) (fun c23 => absurd c23 (fun q => nI_nlt (show j ≤ 5 by omega) (by omega) (show nI 5 < nI j from q))) (fun c23 => ?_)
    refine w_lload_n (pc := 26) (i := 3) dX1_withMoulds_26 rfl rfl ?_
    refine w_ldc2 (pc := 27) dX1_withMoulds_27 CX1_185 ?_
    refine w_lmul (pc := 30) dX1_withMoulds_30 ?_
    refine w_aload_n (pc := 31) (i := 0) dX1_withMoulds_31 rfl rfl ?_
    refine w_iload (pc := 32) (i := 5) dX1_withMoulds_32 rfl ?_
    refine w_iload (pc := 34) (i := 6) dX1_withMoulds_34 rfl ?_
    refine w_vI (pc := 36) dX1_withMoulds_36 GX1_198 hw.1 (c_aboutMould k j hw hB hk (by omega)) rfl rfl rfl rfl ?_
    refine w_i2l (pc := 39) dX1_withMoulds_39 ?_
    refine w_ladd (pc := 40) dX1_withMoulds_40 ?_
    refine w_topl (fun x41 e41 => ?_)
    refine w_lstore_n (pc := 41) (i := 3) (ls' := [.ref b, .long d0, vU, .long x41, vU, .int (nI k), .int (nI j)]) dX1_withMoulds_41 rfl (by decide) rfl rfl rfl ?_
    obtain ⟨x42, e42⟩ : ∃ y : Int32, y = (nI j) + 1 := ⟨_, rfl⟩
    refine w_iinc (pc := 42) (i := 6) (y := x42) (ls' := [.ref b, .long d0, vU, .long x41, vU, .int (nI k), .int x42]) dX1_withMoulds_42 rfl (by rw [e42]; rfl) (by decide) rfl rfl rfl ?_
    refine w_goto (pc := 45) (tgt := 20) dX1_withMoulds_45 (by decide) ?_
    obtain rfl : x42 = nI (j + 1) := by rw [e42]; exact nI_1 j
    subst e41
    exact ih (j + 1) (by omega)
set_option maxHeartbeats 1000000 in
theorem c_withMoulds_loop (hw : Wk b σ h) (hB : WB σ) {d0 : Int64} : ∀ (m k : Nat), k + m = σ.2.1 0 → WP (d + 3) mX1_withMoulds none 0 0 5 [.ref b, .long d0, vU, .long (dgT (kAbout σ) 6 d0 k), vU, .int (nI k), vU] [] h (RO (.long (dgT (kAbout σ) 6 d0 (σ.2.1 0))) h) := by
  have hR := hB.1
  intro m
  induction m with
  | zero =>
    intro k hk
    have hk : k = σ.2.1 0 := by omega
    subst hk
    refine w_iload (pc := 5) (i := 5) dX1_withMoulds_5 rfl ?_
    refine w_aload_n (pc := 7) (i := 0) dX1_withMoulds_7 rfl rfl ?_
    refine w_get (pc := 8) dX1_withMoulds_8 FX1_14 hw.1 rfl ?_
    refine w_vI (pc := 11) dX1_withMoulds_11 GX1_89 hw.t0.1 (c_size hw.t0) rfl rfl rfl rfl ?_
    refine w_icmp_ge (pc := 14) (tgt := 54) dX1_withMoulds_14 (by decide) (fun c14 => ?_) (fun c14 => absurd (nI_le (Nat.le_refl _) (by omega)) c14)
    refine w_lload_n (pc := 54) (i := 3) dX1_withMoulds_54 rfl rfl ?_
    exact w_lreturn (pc := 55) dX1_withMoulds_55 rfl ⟨rfl, rfl⟩
  | succ m ih =>
    intro k hk
    refine w_iload (pc := 5) (i := 5) dX1_withMoulds_5 rfl ?_
    refine w_aload_n (pc := 7) (i := 0) dX1_withMoulds_7 rfl rfl ?_
    refine w_get (pc := 8) dX1_withMoulds_8 FX1_14 hw.1 rfl ?_
    refine w_vI (pc := 11) dX1_withMoulds_11 GX1_89 hw.t0.1 (c_size hw.t0) rfl rfl rfl rfl ?_
    refine w_icmp_ge (pc := 14) (tgt := 54) dX1_withMoulds_14 (by decide) (fun c14 => absurd c14 (nI_ge (by omega) (by omega))) (fun c14 => ?_)
    refine w_iconst (pc := 17) (v := 0) dX1_withMoulds_17 (by decide) ?_
    refine w_topi (fun x18 e18 => ?_)
    refine w_istore (pc := 18) (i := 6) (ls' := [.ref b, .long d0, vU, .long (dgT (kAbout σ) 6 d0 k), vU, .int (nI k), .int x18]) dX1_withMoulds_18 (by decide) rfl rfl rfl ?_
    subst e18
    refine c_withMoulds_in hw hB (show k < σ.2.1 0 by omega) ?_ 6 0 rfl
    obtain ⟨x48, e48⟩ : ∃ y : Int32, y = (nI k) + 1 := ⟨_, rfl⟩
    refine w_iinc (pc := 48) (i := 5) (y := x48) (ls' := [.ref b, .long d0, vU, .long (dgT (kAbout σ) 6 d0 (k + 1)), vU, .int x48, .int (nI 6)]) dX1_withMoulds_48 rfl (by rw [e48]; rfl) (by decide) rfl rfl rfl ?_
    refine w_goto (pc := 51) (tgt := 5) dX1_withMoulds_51 (by decide) ?_
    obtain rfl : x48 = nI (k + 1) := by rw [e48]; exact nI_1 k
    exact w_forget 6 rfl (ih (k + 1) (by omega))
set_option maxHeartbeats 1000000 in
theorem c_withMoulds (hw : Wk b σ h) (hB : WB σ) (d0 : Int64) : Ct (d + 3) mX1_withMoulds 0 0 [.ref b, .long d0] h (RO (.long (dgT (kAbout σ) 6 d0 (σ.2.1 0))) h) := by
  refine Ct.of (by decide +kernel) rfl (Nat.le_of_ble_eq_true rfl) ?_
  show WP (d + 3) mX1_withMoulds none 0 0 0 [.ref b, .long d0, vU, vU, vU, vU, vU] [] h _
  refine w_lload_n (pc := 0) (i := 1) dX1_withMoulds_0 rfl rfl ?_
  refine w_topl (fun x1 e1 => ?_)
  refine w_lstore_n (pc := 1) (i := 3) (ls' := [.ref b, .long d0, vU, .long x1, vU, vU, vU]) dX1_withMoulds_1 rfl (by decide) rfl rfl rfl ?_
  refine w_iconst (pc := 2) (v := 0) dX1_withMoulds_2 (by decide) ?_
  refine w_topi (fun x3 e3 => ?_)
  refine w_istore (pc := 3) (i := 5) (ls' := [.ref b, .long d0, vU, .long x1, vU, .int x3, vU]) dX1_withMoulds_3 (by decide) rfl rfl rfl ?_
  subst e1
  subst e3
  exact c_withMoulds_loop hw hB (σ.2.1 0) 0 (Nat.zero_add _)
set_option maxHeartbeats 1000000 in
theorem c_checksum_1 (hw : Wk b σ h) (hB : WB σ) {d0 : Int64} {P : AO → AH → Prop} (hK : WP (d + 4) mX1_checksum none 0 0 31 [.ref b, .long (dgN (kCount σ) d0 12), vU, .int (nI (12))] [] h P) : ∀ (m j : Nat), j + m = 12 → WP (d + 4) mX1_checksum none 0 0 6 [.ref b, .long (dgN (kCount σ) d0 j), vU, .int (nI (j))] [] h P := by
  intro m
  induction m with
  | zero =>
    intro j hj
    have hj : j = 12 := by omega
    subst hj
    refine w_iload_n (pc := 6) (i := 3) dX1_checksum_6 rfl rfl ?_
    refine w_bipush (pc := 7) (v := 11) dX1_checksum_7 (by decide) ?_
    refine w_icmp_gt (pc := 9) (tgt := 31) dX1_checksum_9 (by decide) (fun c9 => ?_) (fun c9 => absurd (by decide) c9)
    exact hK
  | succ m ih =>
    intro j hj
    refine w_iload_n (pc := 6) (i := 3) dX1_checksum_6 rfl rfl ?_
    refine w_bipush (pc := 7) (v := 11) dX1_checksum_7 (by decide) ?_
    refine w_icmp_gt (pc := 9) (tgt := 31) dX1_checksum_9 (by decide) (fun c9 => absurd c9 (fun q => nI_nlt (show j ≤ 11 by omega) (by omega) (show nI 11 < nI (j) from q))) (fun c9 => ?_)
    refine w_lload_n (pc := 12) (i := 1) dX1_checksum_12 rfl rfl ?_
    refine w_ldc2 (pc := 13) dX1_checksum_13 CX1_185 ?_
    refine w_lmul (pc := 16) dX1_checksum_16 ?_
    refine w_aload_n (pc := 17) (i := 0) dX1_checksum_17 rfl rfl ?_
    refine w_iload_n (pc := 18) (i := 3) dX1_checksum_18 rfl rfl ?_
    refine w_vI (pc := 19) dX1_checksum_19 GX1_187 hw.1 (c_counted j hw hB (by omega)) rfl rfl rfl rfl ?_
    refine w_i2l (pc := 22) dX1_checksum_22 ?_
    refine w_ladd (pc := 23) dX1_checksum_23 ?_
    refine w_topl (fun x24 e24 => ?_)
    refine w_lstore_n (pc := 24) (i := 1) (ls' := [.ref b, .long x24, vU, .int (nI (j))]) dX1_checksum_24 rfl (by decide) rfl rfl rfl ?_
    obtain ⟨x25, e25⟩ : ∃ y : Int32, y = (nI (j)) + 1 := ⟨_, rfl⟩
    refine w_iinc (pc := 25) (i := 3) (y := x25) (ls' := [.ref b, .long x24, vU, .int x25]) dX1_checksum_25 rfl (by rw [e25]; rfl) (by decide) rfl rfl rfl ?_
    refine w_goto (pc := 28) (tgt := 6) dX1_checksum_28 (by decide) ?_
    obtain rfl : x25 = nI ((j + 1)) := by rw [e25]; exact nI_1 _
    subst e24
    exact ih (j + 1) (by omega)
set_option maxHeartbeats 1000000 in
theorem c_checksum_2 (hw : Wk b σ h) (hB : WB σ) {d0 : Int64} {P : AO → AH → Prop} (hK : WP (d + 4) mX1_checksum none 0 0 58 [.ref b, .long (dgN (fun i => kDries σ (nI i)) d0 7), vU, .int (nI (7))] [] h P) : ∀ (m j : Nat), j + m = 7 → WP (d + 4) mX1_checksum none 0 0 33 [.ref b, .long (dgN (fun i => kDries σ (nI i)) d0 j), vU, .int (nI (j))] [] h P := by
  intro m
  induction m with
  | zero =>
    intro j hj
    have hj : j = 7 := by omega
    subst hj
    refine w_iload_n (pc := 33) (i := 3) dX1_checksum_33 rfl rfl ?_
    refine w_bipush (pc := 34) (v := 7) dX1_checksum_34 (by decide) ?_
    refine w_icmp_ge (pc := 36) (tgt := 58) dX1_checksum_36 (by decide) (fun c36 => ?_) (fun c36 => absurd (by decide) c36)
    exact hK
  | succ m ih =>
    intro j hj
    refine w_iload_n (pc := 33) (i := 3) dX1_checksum_33 rfl rfl ?_
    refine w_bipush (pc := 34) (v := 7) dX1_checksum_34 (by decide) ?_
    refine w_icmp_ge (pc := 36) (tgt := 58) dX1_checksum_36 (by decide) (fun c36 => absurd (show nI 7 ≤ nI (j) from c36) (nI_ge (show j < 7 by omega) (by omega))) (fun c36 => ?_)
    refine w_lload_n (pc := 39) (i := 1) dX1_checksum_39 rfl rfl ?_
    refine w_ldc2 (pc := 40) dX1_checksum_40 CX1_185 ?_
    refine w_lmul (pc := 43) dX1_checksum_43 ?_
    refine w_aload_n (pc := 44) (i := 0) dX1_checksum_44 rfl rfl ?_
    refine w_iload_n (pc := 45) (i := 3) dX1_checksum_45 rfl rfl ?_
    refine w_vI (pc := 46) dX1_checksum_46 GX1_149 hw.1 (c_driesBy (nI j) hw) rfl rfl rfl rfl ?_
    refine w_i2l (pc := 49) dX1_checksum_49 ?_
    refine w_ladd (pc := 50) dX1_checksum_50 ?_
    refine w_topl (fun x51 e51 => ?_)
    refine w_lstore_n (pc := 51) (i := 1) (ls' := [.ref b, .long x51, vU, .int (nI (j))]) dX1_checksum_51 rfl (by decide) rfl rfl rfl ?_
    obtain ⟨x52, e52⟩ : ∃ y : Int32, y = (nI (j)) + 1 := ⟨_, rfl⟩
    refine w_iinc (pc := 52) (i := 3) (y := x52) (ls' := [.ref b, .long x51, vU, .int x52]) dX1_checksum_52 rfl (by rw [e52]; rfl) (by decide) rfl rfl rfl ?_
    refine w_goto (pc := 55) (tgt := 33) dX1_checksum_55 (by decide) ?_
    obtain rfl : x52 = nI ((j + 1)) := by rw [e52]; exact nI_1 _
    subst e51
    exact ih (j + 1) (by omega)
set_option maxHeartbeats 1000000 in
theorem c_checksum_3 (hw : Wk b σ h) (hB : WB σ) {d0 : Int64} {P : AO → AH → Prop} (hK : WP (d + 4) mX1_checksum none 0 0 118 [.ref b, .long (dgN (fun i => kWholeOf σ (nI (4 + i))) d0 21), vU, .int (nI (4 + 21))] [] h P) : ∀ (m j : Nat), j + m = 21 → WP (d + 4) mX1_checksum none 0 0 93 [.ref b, .long (dgN (fun i => kWholeOf σ (nI (4 + i))) d0 j), vU, .int (nI (4 + j))] [] h P := by
  intro m
  induction m with
  | zero =>
    intro j hj
    have hj : j = 21 := by omega
    subst hj
    refine w_iload_n (pc := 93) (i := 3) dX1_checksum_93 rfl rfl ?_
    refine w_bipush (pc := 94) (v := 24) dX1_checksum_94 (by decide) ?_
    refine w_icmp_gt (pc := 96) (tgt := 118) dX1_checksum_96 (by decide) (fun c96 => ?_) (fun c96 => absurd (by decide) c96)
    exact hK
  | succ m ih =>
    intro j hj
    refine w_iload_n (pc := 93) (i := 3) dX1_checksum_93 rfl rfl ?_
    refine w_bipush (pc := 94) (v := 24) dX1_checksum_94 (by decide) ?_
    refine w_icmp_gt (pc := 96) (tgt := 118) dX1_checksum_96 (by decide) (fun c96 => absurd c96 (fun q => nI_nlt (show 4 + j ≤ 24 by omega) (by omega) (show nI 24 < nI (4 + j) from q))) (fun c96 => ?_)
    refine w_lload_n (pc := 99) (i := 1) dX1_checksum_99 rfl rfl ?_
    refine w_ldc2 (pc := 100) dX1_checksum_100 CX1_185 ?_
    refine w_lmul (pc := 103) dX1_checksum_103 ?_
    refine w_aload_n (pc := 104) (i := 0) dX1_checksum_104 rfl rfl ?_
    refine w_iload_n (pc := 105) (i := 3) dX1_checksum_105 rfl rfl ?_
    refine w_vI (pc := 106) dX1_checksum_106 GX1_92 hw.1 (c_wholeOf (nI (4 + j)) hw) rfl rfl rfl rfl ?_
    refine w_i2l (pc := 109) dX1_checksum_109 ?_
    refine w_ladd (pc := 110) dX1_checksum_110 ?_
    refine w_topl (fun x111 e111 => ?_)
    refine w_lstore_n (pc := 111) (i := 1) (ls' := [.ref b, .long x111, vU, .int (nI (4 + j))]) dX1_checksum_111 rfl (by decide) rfl rfl rfl ?_
    obtain ⟨x112, e112⟩ : ∃ y : Int32, y = (nI (4 + j)) + 1 := ⟨_, rfl⟩
    refine w_iinc (pc := 112) (i := 3) (y := x112) (ls' := [.ref b, .long x111, vU, .int x112]) dX1_checksum_112 rfl (by rw [e112]; rfl) (by decide) rfl rfl rfl ?_
    refine w_goto (pc := 115) (tgt := 93) dX1_checksum_115 (by decide) ?_
    obtain rfl : x112 = nI (4 + (j + 1)) := by rw [e112]; exact nI_1 _
    subst e111
    exact ih (j + 1) (by omega)
set_option maxHeartbeats 1000000 in
theorem c_checksum (hw : Wk b σ h) (hB : WB σ) : Ct (d + 4) mX1_checksum 0 0 [.ref b] h (RO (.long (kDig σ)) h) := by
  refine Ct.of (by decide +kernel) rfl (Nat.le_of_ble_eq_true rfl) ?_
  show WP (d + 4) mX1_checksum none 0 0 0 [.ref b, vU, vU, vU] [] h _
  refine w_ldc2 (pc := 0) dX1_checksum_0 CX1_183 ?_
  refine w_topl (fun x3 e3 => ?_)
  refine w_lstore_n (pc := 3) (i := 1) (ls' := [.ref b, .long x3, vU, vU]) dX1_checksum_3 rfl (by decide) rfl rfl rfl ?_
  refine w_iconst (pc := 4) (v := 0) dX1_checksum_4 (by decide) ?_
  refine w_topi (fun x5 e5 => ?_)
  refine w_istore_n (pc := 5) (i := 3) (ls' := [.ref b, .long x3, vU, .int x5]) dX1_checksum_5 rfl (by decide) rfl rfl rfl ?_
  subst e3
  subst e5
  refine c_checksum_1 hw hB ?_ 12 0 rfl
  show WP (d + 4) mX1_checksum none 0 0 31 [.ref b, .long (kDg1 σ), vU, .int (nI 12)] [] h _
  generalize hy1 : kDg1 σ = y1
  refine w_iconst (pc := 31) (v := 0) dX1_checksum_31 (by decide) ?_
  refine w_topi (fun x32 e32 => ?_)
  refine w_istore_n (pc := 32) (i := 3) (ls' := [.ref b, .long y1, vU, .int x32]) dX1_checksum_32 rfl (by decide) rfl rfl rfl ?_
  subst e32
  refine c_checksum_2 hw hB ?_ 7 0 rfl
  generalize hy2 : dgN (fun i => kDries σ (nI i)) y1 7 = y2
  refine w_aload_n (pc := 58) (i := 0) dX1_checksum_58 rfl rfl ?_
  refine w_lload_n (pc := 59) (i := 1) dX1_checksum_59 rfl rfl ?_
  refine w_vO (pc := 60) dX1_checksum_60 GX1_190 hw.1 (c_withMoulds hw hB y2) rfl rfl rfl rfl ?_
  refine w_topl (fun x63 e63 => ?_)
  refine w_lstore_n (pc := 63) (i := 1) (ls' := [.ref b, .long x63, vU, .int (nI 7)]) dX1_checksum_63 rfl (by decide) rfl rfl rfl ?_
  refine w_lload_n (pc := 64) (i := 1) dX1_checksum_64 rfl rfl ?_
  refine w_aload_n (pc := 65) (i := 0) dX1_checksum_65 rfl rfl ?_
  refine w_get (pc := 66) dX1_checksum_66 FX1_20 hw.1 rfl ?_
  refine w_sO (pc := 69) dX1_checksum_69 GX1_194 (c_withTable hw.t1 hB.b1) rfl rfl rfl rfl ?_
  refine w_topl (fun x72 e72 => ?_)
  refine w_lstore_n (pc := 72) (i := 1) (ls' := [.ref b, .long x72, vU, .int (nI 7)]) dX1_checksum_72 rfl (by decide) rfl rfl rfl ?_
  refine w_lload_n (pc := 73) (i := 1) dX1_checksum_73 rfl rfl ?_
  refine w_aload_n (pc := 74) (i := 0) dX1_checksum_74 rfl rfl ?_
  refine w_get (pc := 75) dX1_checksum_75 FX1_23 hw.1 rfl ?_
  refine w_sO (pc := 78) dX1_checksum_78 GX1_194 (c_withTable hw.t2 hB.b2) rfl rfl rfl rfl ?_
  refine w_topl (fun x81 e81 => ?_)
  refine w_lstore_n (pc := 81) (i := 1) (ls' := [.ref b, .long x81, vU, .int (nI 7)]) dX1_checksum_81 rfl (by decide) rfl rfl rfl ?_
  refine w_lload_n (pc := 82) (i := 1) dX1_checksum_82 rfl rfl ?_
  refine w_aload_n (pc := 83) (i := 0) dX1_checksum_83 rfl rfl ?_
  refine w_get (pc := 84) dX1_checksum_84 FX1_26 hw.1 rfl ?_
  refine w_sO (pc := 87) dX1_checksum_87 GX1_194 (c_withTable hw.t3 hB.b3) rfl rfl rfl rfl ?_
  refine w_topl (fun x90 e90 => ?_)
  refine w_lstore_n (pc := 90) (i := 1) (ls' := [.ref b, .long x90, vU, .int (nI 7)]) dX1_checksum_90 rfl (by decide) rfl rfl rfl ?_
  refine w_iconst (pc := 91) (v := 4) dX1_checksum_91 (by decide) ?_
  refine w_topi (fun x92 e92 => ?_)
  refine w_istore_n (pc := 92) (i := 3) (ls' := [.ref b, .long x90, vU, .int x92]) dX1_checksum_92 rfl (by decide) rfl rfl rfl ?_
  subst e92
  refine c_checksum_3 hw hB ?_ 21 0 rfl
  obtain ⟨y7, hy7⟩ : ∃ y : Int64, y = dgN (fun i => kWholeOf σ (nI (4 + i))) x90 21 := ⟨_, rfl⟩
  rw [← hy7]
  refine w_lload_n (pc := 118) (i := 1) dX1_checksum_118 rfl rfl ?_
  refine w_aload_n (pc := 119) (i := 0) dX1_checksum_119 rfl rfl ?_
  refine w_get (pc := 120) dX1_checksum_120 FX1_29 hw.1 rfl ?_
  refine w_sO (pc := 123) dX1_checksum_123 GX1_194 (c_withTable hw.t4 hB.b4) rfl rfl rfl rfl ?_
  have hfin : kDig σ = dgT (tTab (σ.1 4) 4) 4 y7 (σ.2.1 4) := by rw [hy7, e90, e81, e72, e63, ← hy2, ← hy1]; rfl
  rw [hfin]
  exact w_lreturn (pc := 126) dX1_checksum_126 rfl ⟨rfl, rfl⟩
end WORKS5
