/-! the reference: the model's calls that look at all -/
theorem w_widen {d : Nat} {M : MD} {z : Option (Nat × (Nat → Int32))} {k n k' n' pc : Nat} {ls st : List Value} {h : AH} {P : AO → AH → Prop} (h1 : k ≤ k') (h2 : n ≤ n') (kk : WP d M z k n pc ls st h P) : WP d M z k' n' pc ls st h P := by
  intro p l e R s m args below meth c D tc A H locs cells slots as ws L sv sb Q hC hI hX hL hS hc hs hr ht
  exact kk hC hI hX hL hS (by omega) (by omega) hr ht
def rStN (τ : ST) (y : Int32) : Nat → Int32
  | 0 => 0
  | k + 1 => rStN τ y k + rBreaks τ k y
def rBs (τ : ST) : Nat → Int32 × Int32
  | 0 => (0, 2147483647)
  | c + 1 => if (rBs τ c).2 ≤ rStN τ (nI (c + 1)) 6 then rBs τ c else (nI (c + 1), rStN τ (nI (c + 1)) 6)
def rAdvise (τ : ST) : Int32 := if rPipes τ 10 6 = 0 then -1 else (rBs τ 30).1
def rFl (τ : ST) : Nat → Int32
  | 0 => 0
  | n + 1 => rFl τ n + τ.2.1 n 1 * τ.2.1 n 3
def rMean (τ : ST) : UInt64 := if rPipes τ 0 (τ.2.2.2.1 0) = 0 then FP.dconst0 else FP.ddiv (FP.i2d (rFl τ (τ.2.2.2.1 0))) (FP.i2d (rPipes τ 0 (τ.2.2.2.1 0)))
def rAsk (α τ : ST) (x : Int32) : ST := tS (rBecome α τ) 8 x
def bReady (α : ST) (N : Nat) (ρ : RS) (x : Int32) : RR := if hR (ρ.2.2.2.2.1 1) x = 0 then (1, 0, ρ) else (0, if (rPassN ρ.1 (rAsk α ρ.2 x) N).2.2.2.2 9 = 1 then nI N else -1, ρ)
def bForesee (α : ST) (ρ : RS) (x y : Int32) : RR := if inB x 1 40 = 0 then (1, 0, ρ) else if inB y 0 11 = 0 then (2, 0, ρ) else (0, rCount (rPassN ρ.1 (rBecome α ρ.2) x.toNatClampNeg) y.toNatClampNeg, ρ)
def rDg1 (τ : ST) : Int64 := dgN (rCount τ) 1423 12
def rDg2 (μ : MS) (τ : ST) : Int64 := dgN (μ.1 0) (rDg1 τ) 7
def rDg3 (μ : MS) (τ : ST) : Int64 := dgT (rTold (μ, τ)) 6 (rDg2 μ τ) (μ.2 0)
def rDg4 (μ : MS) (τ : ST) : Int64 := dgT (fun k j => rMTold μ k (nI j)) 2 (rDg3 μ τ) (μ.2 1)
def rDg5 (μ : MS) (τ : ST) : Int64 := dgT (fun k j => τ.2.1 k j) 4 (rDg4 μ τ) (τ.2.2.2.1 0)
def rDg6 (μ : MS) (τ : ST) : Int64 := dgT (fun k j => τ.2.1 (10 + k) j) 4 (rDg5 μ τ) 6
def rDg7 (μ : MS) (τ : ST) : Int64 := dgN (fun i => τ.1 2 (4 + i)) (rDg6 μ τ) 21
def rDig (μ : MS) (τ : ST) : Int64 := dgT (fun k j => τ.2.2.1 k j) 4 (rDg7 μ τ) (τ.2.2.2.1 1)
section MODEL4
variable {d : Nat} {μ : MS} {τ : ST} {t : Int32} {h : AH}
set_option maxHeartbeats 1000000 in
theorem c_advise_in {be le y : Int32} (hp : Rm (μ, τ) t h) {P : AO → AH → Prop} (hK : WP (d + 5) mX4_advise none 0 0 64 [.ref 27, .int be, .int le, .int y, .int (rStN τ y 6), .int (nI 6)] [] h P) : ∀ (m k : Nat), k + m = 6 → WP (d + 5) mX4_advise none 0 0 36 [.ref 27, .int be, .int le, .int y, .int (rStN τ y k), .int (nI k)] [] h P := by
  intro m
  induction m with
  | zero =>
    intro k hk
    have hk : k = 6 := by omega
    subst hk
    refine w_iload (pc := 36) (i := 5) dX4_advise_36 rfl ?_
    refine w_bipush (pc := 38) (v := 6) dX4_advise_38 (by decide) ?_
    refine w_icmp_ge (pc := 40) (tgt := 64) dX4_advise_40 (by decide) (fun c40 => ?_) (fun c40 => absurd (by decide) c40)
    exact hK
  | succ m ih =>
    intro k hk
    refine w_iload (pc := 36) (i := 5) dX4_advise_36 rfl ?_
    refine w_bipush (pc := 38) (v := 6) dX4_advise_38 (by decide) ?_
    refine w_icmp_ge (pc := 40) (tgt := 64) dX4_advise_40 (by decide) (fun c40 => absurd (show nI 6 ≤ nI k from c40) (nI_ge (by omega) (by omega))) (fun c40 => ?_)
    refine w_iload (pc := 43) (i := 4) dX4_advise_43 rfl ?_
    refine w_aload_n (pc := 45) (i := 0) dX4_advise_45 rfl rfl ?_
    refine w_get (pc := 46) dX4_advise_46 FX4_27 hp.1.1 rfl ?_
    refine w_iload (pc := 49) (i := 5) dX4_advise_49 rfl ?_
    refine w_iload_n (pc := 51) (i := 3) dX4_advise_51 rfl rfl ?_
    refine w_vI (pc := 52) dX4_advise_52 GX4_106 hp.2.1.1 (c_breaks k y hp.2.1 (by omega)) rfl rfl rfl rfl ?_
    refine w_iadd (pc := 55) dX4_advise_55 ?_
    refine w_topi (fun x56 e56 => ?_)
    refine w_istore (pc := 56) (i := 4) (ls' := [.ref 27, .int be, .int le, .int y, .int x56, .int (nI k)]) dX4_advise_56 (by decide) rfl rfl rfl ?_
    obtain ⟨x58, e58⟩ : ∃ y : Int32, y = (nI k) + 1 := ⟨_, rfl⟩
    refine w_iinc (pc := 58) (i := 5) (y := x58) (ls' := [.ref 27, .int be, .int le, .int y, .int x56, .int x58]) dX4_advise_58 rfl (by rw [e58]; rfl) (by decide) rfl rfl rfl ?_
    refine w_goto (pc := 61) (tgt := 36) dX4_advise_61 (by decide) ?_
    obtain rfl : x58 = nI (k + 1) := by rw [e58]; exact nI_1 k
    subst e56
    exact ih (k + 1) (by omega)
set_option maxHeartbeats 1000000 in
theorem c_advise_loop (hp : Rm (μ, τ) t h) {P : AO → AH → Prop} (hP : P (.inl (some (.int (rBs τ 30).1))) h) : ∀ (m c : Nat), c + m = 30 → WP (d + 5) mX4_advise none 0 0 24 [.ref 27, .int (rBs τ c).1, .int (rBs τ c).2, .int (nI (c + 1)), vU, vU] [] h P := by
  intro m
  induction m with
  | zero =>
    intro c hc
    have hc : c = 30 := by omega
    subst hc
    refine w_iload_n (pc := 24) (i := 3) dX4_advise_24 rfl rfl ?_
    refine w_bipush (pc := 25) (v := 30) dX4_advise_25 (by decide) ?_
    refine w_icmp_gt (pc := 27) (tgt := 84) dX4_advise_27 (by decide) (fun c27 => ?_) (fun c27 => absurd (by decide) c27)
    refine w_iload_n (pc := 84) (i := 1) dX4_advise_84 rfl rfl ?_
    exact w_ireturn (pc := 85) dX4_advise_85 ⟨_, rfl, rfl⟩ hP
  | succ m ih =>
    intro c hc
    refine w_iload_n (pc := 24) (i := 3) dX4_advise_24 rfl rfl ?_
    refine w_bipush (pc := 25) (v := 30) dX4_advise_25 (by decide) ?_
    refine w_icmp_gt (pc := 27) (tgt := 84) dX4_advise_27 (by decide) (fun c27 => absurd c27 (fun q => nI_nlt (show c + 1 ≤ 30 by omega) (by omega) (show nI 30 < nI (c + 1) from q))) (fun c27 => ?_)
    refine w_iconst (pc := 30) (v := 0) dX4_advise_30 (by decide) ?_
    refine w_topi (fun x31 e31 => ?_)
    refine w_istore (pc := 31) (i := 4) (ls' := [.ref 27, .int (rBs τ c).1, .int (rBs τ c).2, .int (nI (c + 1)), .int x31, vU]) dX4_advise_31 (by decide) rfl rfl rfl ?_
    refine w_iconst (pc := 33) (v := 0) dX4_advise_33 (by decide) ?_
    refine w_topi (fun x34 e34 => ?_)
    refine w_istore (pc := 34) (i := 5) (ls' := [.ref 27, .int (rBs τ c).1, .int (rBs τ c).2, .int (nI (c + 1)), .int x31, .int x34]) dX4_advise_34 (by decide) rfl rfl rfl ?_
    subst e31
    subst e34
    refine c_advise_in hp ?_ 6 0 rfl
    refine w_iload (pc := 64) (i := 4) dX4_advise_64 rfl ?_
    refine w_iload_n (pc := 66) (i := 2) dX4_advise_66 rfl rfl ?_
    refine w_icmp_lt (pc := 67) (tgt := 73) dX4_advise_67 (by decide) (fun c67 => ?_) (fun c67 => ?_)
    · have e : rBs τ (c + 1) = (nI (c + 1), rStN τ (nI (c + 1)) 6) := if_neg (Int32.not_le.mpr c67)
      refine w_iload (pc := 73) (i := 4) dX4_advise_73 rfl ?_
      refine w_topi (fun x75 e75 => ?_)
      refine w_istore_n (pc := 75) (i := 2) (ls' := [.ref 27, .int (rBs τ c).1, .int x75, .int (nI (c + 1)), .int (rStN τ (nI (c + 1)) 6), .int (nI 6)]) dX4_advise_75 rfl (by decide) rfl rfl rfl ?_
      refine w_iload_n (pc := 76) (i := 3) dX4_advise_76 rfl rfl ?_
      refine w_topi (fun x77 e77 => ?_)
      refine w_istore_n (pc := 77) (i := 1) (ls' := [.ref 27, .int x77, .int x75, .int (nI (c + 1)), .int (rStN τ (nI (c + 1)) 6), .int (nI 6)]) dX4_advise_77 rfl (by decide) rfl rfl rfl ?_
      obtain ⟨x78, e78⟩ : ∃ y : Int32, y = (nI (c + 1)) + 1 := ⟨_, rfl⟩
      refine w_iinc (pc := 78) (i := 3) (y := x78) (ls' := [.ref 27, .int x77, .int x75, .int x78, .int (rStN τ (nI (c + 1)) 6), .int (nI 6)]) dX4_advise_78 rfl (by rw [e78]; rfl) (by decide) rfl rfl rfl ?_
      refine w_goto (pc := 81) (tgt := 24) dX4_advise_81 (by decide) ?_
      subst e75
      subst e77
      obtain rfl : x78 = nI (c + 1 + 1) := by rw [e78]; exact nI_1 _
      have hL := ih (c + 1) (by omega)
      rw [e] at hL
      exact w_forget 5 rfl (w_forget 4 rfl hL)
    · have e : rBs τ (c + 1) = rBs τ c := if_pos (Int32.not_lt.mp c67)
      refine w_goto (pc := 70) (tgt := 78) dX4_advise_70 (by decide) ?_
      obtain ⟨x78, e78⟩ : ∃ y : Int32, y = (nI (c + 1)) + 1 := ⟨_, rfl⟩
      refine w_iinc (pc := 78) (i := 3) (y := x78) (ls' := [.ref 27, .int (rBs τ c).1, .int (rBs τ c).2, .int x78, .int (rStN τ (nI (c + 1)) 6), .int (nI 6)]) dX4_advise_78 rfl (by rw [e78]; rfl) (by decide) rfl rfl rfl ?_
      refine w_goto (pc := 81) (tgt := 24) dX4_advise_81 (by decide) ?_
      obtain rfl : x78 = nI (c + 1 + 1) := by rw [e78]; exact nI_1 _
      have hL := ih (c + 1) (by omega)
      rw [e] at hL
      exact w_forget 5 rfl (w_forget 4 rfl hL)
set_option maxHeartbeats 1000000 in
theorem c_X4_advise (hp : Rm (μ, τ) t h) (h0 : μ.2 0 ≤ 6) (h1 : μ.2 1 ≤ 5) (hT : TB τ)  : Ct (d + 5) mX4_advise 0 0 [.ref 27] h (NT (fun v h1 => v = some (.int (rAdvise τ)) ∧ Rm (μ, τ) 0 h1 ∧ GOut 27 65 h h1)) := by
  refine Ct.of (by decide +kernel) rfl (Nat.le_of_ble_eq_true rfl) ?_
  show WP (d + 5) mX4_advise none 0 0 0 [.ref 27, vU, vU, vU, vU, vU] [] h _
  have ho : GOut 27 65 h h := GOut.rf
  have hT0 := hT.1
  have hT1 := hT.2
  refine w_aload_n (pc := 0) (i := 0) dX4_advise_0 rfl rfl ?_
  refine w_iconst (pc := 1) (v := 0) dX4_advise_1 (by decide) ?_
  refine w_put (pc := 2) dX4_advise_2 UX4_34 hp.1.1 (Nat.le_of_ble_eq_true rfl) nv_i (fun _ q => by cases q) ?_
  have hp2 : Rm (μ, τ) 0 (h.set 27 (.inr (4, (mdF μ t).set 0 (.int 0)))) := by exact hp.md (hp.1.s0 _) (GOut.rf.set (by omega) (by omega))
  have ho2 : GOut 27 65 h (h.set 27 (.inr (4, (mdF μ t).set 0 (.int 0)))) := ho.set (by omega) (by omega)
  show WP _ _ _ _ _ _ _ _ (h.set 27 (.inr (4, (mdF μ t).set 0 (.int 0)))) _
  generalize hh2 : (h.set 27 (.inr (4, (mdF μ t).set 0 (.int 0)))) = h2 at hp2 ho2 ⊢
  clear hh2
  refine w_aload_n (pc := 5) (i := 0) dX4_advise_5 rfl rfl ?_
  refine w_get (pc := 6) dX4_advise_6 FX4_27 hp2.1.1 rfl ?_
  refine w_vI (pc := 9) dX4_advise_9 GX4_102 hp2.2.1.1 (c_inSaggars hp2.2.1) rfl rfl rfl rfl ?_
  refine w_if_ne (pc := 12) (tgt := 17) dX4_advise_12 (by decide) (fun c12 => ?_) (fun c12 => ?_)
  · refine w_iconst (pc := 17) (v := 0) dX4_advise_17 (by decide) ?_
    refine w_topi (fun x18 e18 => ?_)
    refine w_istore_n (pc := 18) (i := 1) (ls' := [.ref 27, .int x18, vU, vU, vU, vU]) dX4_advise_18 rfl (by decide) rfl rfl rfl ?_
    refine w_ldc (pc := 19) dX4_advise_19 CX4_157 ?_
    refine w_topi (fun x21 e21 => ?_)
    refine w_istore_n (pc := 21) (i := 2) (ls' := [.ref 27, .int x18, .int x21, vU, vU, vU]) dX4_advise_21 rfl (by decide) rfl rfl rfl ?_
    refine w_iconst (pc := 22) (v := 1) dX4_advise_22 (by decide) ?_
    refine w_topi (fun x23 e23 => ?_)
    refine w_istore_n (pc := 23) (i := 3) (ls' := [.ref 27, .int x18, .int x21, .int x23, vU, vU]) dX4_advise_23 rfl (by decide) rfl rfl rfl ?_
    subst e18
    subst e21
    subst e23
    exact c_advise_loop hp2 ⟨_, rfl, by unfold rAdvise; rw [if_neg c12], hp2, ho2⟩ 30 0 rfl
  · refine w_iconst (pc := 15) (v := -1) dX4_advise_15 (by decide) ?_
    exact w_ireturn (pc := 16) dX4_advise_16 ⟨_, rfl, rfl⟩ ⟨_, rfl, by unfold rAdvise; rw [if_pos c12], hp2, ho2⟩
set_option maxHeartbeats 1000000 in
theorem c_ready_loop {σ0 : ST} {x : Int32} {N : Nat} (hN : N ≤ 40) (hA : MakeOk μ) (hP : ∀ j, j < N → PassOk (rPassN μ σ0 j) ∧ (rPassN μ σ0 j).2.2.2.2 9 = 0) (hE : ¬ (rPassN μ σ0 N).2.2.2.2 9 = 0) : ∀ (m n : Nat) (h2 : AH), n + m = N → Rm (μ, τ) 0 h2 → St 62 (rPassN μ σ0 n) h2 → GOut 27 65 h h2 → WP (d + 5) mX4_ready none 0 0 41 [.ref 27, .int x, .int (nI n)] [] h2 (NT (fun v h1 => v = some (.int (if (rPassN μ σ0 N).2.2.2.2 9 = 1 then nI N else -1)) ∧ Rm (μ, τ) 0 h1 ∧ GOut 27 65 h h1)) := by
  intro m
  induction m with
  | zero =>
    intro n h2 hn hp ha ho
    have hn : n = N := by omega
    subst hn
    refine w_aload_n (pc := 41) (i := 0) dX4_ready_41 rfl rfl ?_
    refine w_get (pc := 42) dX4_ready_42 FX4_31 hp.1.1 rfl ?_
    refine w_get (pc := 45) dX4_ready_45 FX4_165 ha.1 rfl ?_
    refine w_if_ne (pc := 48) (tgt := 64) dX4_ready_48 (by decide) (fun c48 => ?_) (fun c48 => absurd c48 hE)
    refine w_aload_n (pc := 64) (i := 0) dX4_ready_64 rfl rfl ?_
    refine w_get (pc := 65) dX4_ready_65 FX4_31 hp.1.1 rfl ?_
    refine w_get (pc := 68) dX4_ready_68 FX4_165 ha.1 rfl ?_
    refine w_iconst (pc := 71) (v := 1) dX4_ready_71 (by decide) ?_
    refine w_icmp_ne (pc := 72) (tgt := 79) dX4_ready_72 (by decide) (fun c72 => ?_) (fun c72 => ?_)
    · refine w_iconst (pc := 79) (v := -1) dX4_ready_79 (by decide) ?_
      exact w_ireturn (pc := 80) dX4_ready_80 ⟨_, rfl, rfl⟩ ⟨_, rfl, by rw [if_neg c72], hp, ho⟩
    · refine w_iload_n (pc := 75) (i := 2) dX4_ready_75 rfl rfl ?_
      refine w_goto (pc := 76) (tgt := 80) dX4_ready_76 (by decide) ?_
      exact w_ireturn (pc := 80) dX4_ready_80 ⟨_, rfl, rfl⟩ ⟨_, rfl, by rw [if_pos c72], hp, ho⟩
  | succ m ih =>
    intro n h2 hn hp ha ho
    refine w_aload_n (pc := 41) (i := 0) dX4_ready_41 rfl rfl ?_
    refine w_get (pc := 42) dX4_ready_42 FX4_31 hp.1.1 rfl ?_
    refine w_get (pc := 45) dX4_ready_45 FX4_165 ha.1 rfl ?_
    refine w_if_ne (pc := 48) (tgt := 64) dX4_ready_48 (by decide) (fun c48 => absurd (hP n (by omega)).2 c48) (fun c48 => ?_)
    refine w_aload_n (pc := 51) (i := 0) dX4_ready_51 rfl rfl ?_
    refine w_get (pc := 52) dX4_ready_52 FX4_31 hp.1.1 rfl ?_
    refine w_vQ (pc := 55) dX4_ready_55 GX4_168 ha.1 (c_rpass ha hp.1 (by omega) hA (hP n (by omega)).1) rfl rfl rfl rfl ?_
    rintro v3 h3 ⟨rfl, hw3, ho3⟩
    obtain ⟨x58, e58⟩ : ∃ y : Int32, y = (nI n) + 1 := ⟨_, rfl⟩
    refine w_iinc (pc := 58) (i := 2) (y := x58) (ls' := [.ref 27, .int x, .int x58]) dX4_ready_58 rfl (by rw [e58]; rfl) (by decide) rfl rfl rfl ?_
    refine w_goto (pc := 61) (tgt := 41) dX4_ready_61 (by decide) ?_
    obtain rfl : x58 = nI (n + 1) := by rw [e58]; exact nI_1 n
    exact ih (n + 1) h3 (by omega) (hp.al hw3 ho3) hw3 (ho.tr (ho3.mono (by omega) (by omega)))
set_option maxHeartbeats 1000000 in
theorem c_X4_ready (x : Int32) (hp : Rm (μ, τ) t h) (h0 : μ.2 0 ≤ 6) (h1 : μ.2 1 ≤ 5) (hT : TB τ)  : ∃ α, ∀ N, (¬ hR (τ.2.2.2.1 1) x = 0 → (N ≤ 40 ∧ MakeOk μ ∧ (∀ j, j < N → PassOk (rPassN μ (rAsk α τ x) j) ∧ (rPassN μ (rAsk α τ x) j).2.2.2.2 9 = 0) ∧ ¬ (rPassN μ (rAsk α τ x) N).2.2.2.2 9 = 0)) → Ct (d + 5) mX4_ready 0 0 [.ref 27, .int x] h (RRet (bReady α N (μ, τ) x) h) := by
  obtain ⟨α, hα⟩ := hp.2.2
  refine ⟨α, fun N hq => ?_⟩
  refine Ct.of (by decide +kernel) rfl (Nat.le_of_ble_eq_true rfl) ?_
  show WP (d + 5) mX4_ready none 0 0 0 [.ref 27, .int x, vU] [] h _
  have ho : GOut 27 65 h h := GOut.rf
  have hT0 := hT.1
  have hT1 := hT.2
  refine w_aload_n (pc := 0) (i := 0) dX4_ready_0 rfl rfl ?_
  refine w_iconst (pc := 1) (v := 0) dX4_ready_1 (by decide) ?_
  refine w_put (pc := 2) dX4_ready_2 UX4_34 hp.1.1 (Nat.le_of_ble_eq_true rfl) nv_i (fun _ q => by cases q) ?_
  have hα : St 62 α (h.set 27 (.inr (4, (mdF μ t).set 0 (.int 0)))) := hα.out (c := 27) (w := 5) (GOut.rf.set (by omega) (by omega)) (by omega)
  have hp2 : Rm (μ, τ) 0 (h.set 27 (.inr (4, (mdF μ t).set 0 (.int 0)))) := hp.md (hp.1.s0 _) (GOut.rf.set (by omega) (by omega))
  have ho2 : GOut 27 65 h (h.set 27 (.inr (4, (mdF μ t).set 0 (.int 0)))) := ho.set (by omega) (by omega)
  show WP _ _ _ _ _ _ _ _ (h.set 27 (.inr (4, (mdF μ t).set 0 (.int 0)))) _
  generalize (h.set 27 (.inr (4, (mdF μ t).set 0 (.int 0)))) = h2 at hp2 ho2 hα ⊢
  refine w_aload_n (pc := 5) (i := 0) dX4_ready_5 rfl rfl ?_
  refine w_iload_n (pc := 6) (i := 1) dX4_ready_6 rfl rfl ?_
  refine w_vI (pc := 7) dX4_ready_7 GX4_143 hp2.1.1 (c_isWaiting x hp2) rfl rfl rfl rfl ?_
  refine w_if_ne (pc := 10) (tgt := 19) dX4_ready_10 (by decide) (fun c10 => ?_) (fun c10 => ?_)
  · obtain ⟨hN, hA, hP, hE⟩ := hq c10
    refine w_aload_n (pc := 19) (i := 0) dX4_ready_19 rfl rfl ?_
    refine w_get (pc := 20) dX4_ready_20 FX4_31 hp2.1.1 rfl ?_
    refine w_aload_n (pc := 23) (i := 0) dX4_ready_23 rfl rfl ?_
    refine w_get (pc := 24) dX4_ready_24 FX4_27 hp2.1.1 rfl ?_
    refine w_vQ (pc := 27) dX4_ready_27 GX4_158 hα.1 (c_become hα hp2.2.1 (by omega)) rfl rfl rfl rfl ?_
    rintro v3 h3 ⟨rfl, hw3, ho3⟩
    show WP _ _ _ _ _ _ _ [.ref 62] _ _
    have hp3 := hp2.al hw3 ho3
    have ho33 := ho2.tr (ho3.mono (b' := 27) (w' := 65) (by omega) (by omega))
    refine w_pop (pc := 30) dX4_ready_30 rfl ?_
    refine w_aload_n (pc := 31) (i := 0) dX4_ready_31 rfl rfl ?_
    refine w_get (pc := 32) dX4_ready_32 FX4_31 hp3.1.1 rfl ?_
    refine w_iload_n (pc := 35) (i := 1) dX4_ready_35 rfl rfl ?_
    refine w_put (pc := 36) dX4_ready_36 UX4_162 hw3.1 (Nat.le_of_ble_eq_true rfl) nv_i (fun _ q => by cases q) ?_
    have ha4 : St 62 (rAsk α τ x) (h3.set 62 (.inr (3, (stF 62 (rBecome α τ)).set 15 (.int x)))) := hw3.s8 x
    have hp4 : Rm (μ, τ) 0 (h3.set 62 (.inr (3, (stF 62 (rBecome α τ)).set 15 (.int x)))) := hp3.al ha4 (GOut.rf.set (by omega) (by omega))
    have ho4 : GOut 27 65 h (h3.set 62 (.inr (3, (stF 62 (rBecome α τ)).set 15 (.int x)))) := ho33.set (by omega) (by omega)
    show WP _ _ _ _ _ _ _ _ (h3.set 62 (.inr (3, (stF 62 (rBecome α τ)).set 15 (.int x)))) _
    generalize (h3.set 62 (.inr (3, (stF 62 (rBecome α τ)).set 15 (.int x)))) = h4 at ha4 hp4 ho4 ⊢
    refine w_iconst (pc := 39) (v := 0) dX4_ready_39 (by decide) ?_
    refine w_topi (fun x40 e40 => ?_)
    refine w_istore_n (pc := 40) (i := 2) (ls' := [.ref 27, .int x, .int x40]) dX4_ready_40 rfl (by decide) rfl rfl rfl ?_
    subst e40
    have hL := c_ready_loop (d := d) (h := h) (τ := τ) (x := x) hN hA hP hE N 0 h4 (Nat.zero_add _) hp4 ha4 ho4
    rw [show bReady α N (μ, τ) x = (0, if (rPassN μ (rAsk α τ x) N).2.2.2.2 9 = 1 then nI N else -1, (μ, τ)) from if_neg c10]
    exact hL
  · refine w_aload_n (pc := 13) (i := 0) dX4_ready_13 rfl rfl ?_
    refine w_iconst (pc := 14) (v := 1) dX4_ready_14 (by decide) ?_
    refine w_vQ (pc := 15) dX4_ready_15 GX4_55 hp2.1.1 (c_no 1 hp2) rfl rfl rfl rfl ?_
    rintro vn hn ⟨rfl, hpn, hon⟩
    exact w_ireturn (pc := 18) dX4_ready_18 ⟨_, rfl, rfl⟩ (RRet.of (by unfold bReady; dsimp only; rw [if_pos c10] <;> rfl) hpn (ho2.tr hon))
set_option maxHeartbeats 1000000 in
theorem c_X4_foresee (x y : Int32) (hp : Rm (μ, τ) t h) : ∃ α, MakeOk μ → (∀ i, i ≤ 40 → PassOk (rPassN μ (rBecome α τ) i)) → Ct (d + 5) mX4_foresee 1 12 [.ref 27, .int x, .int y] h (RRet (bForesee α (μ, τ) x y) h) := by
  obtain ⟨α, hα⟩ := hp.2.2
  refine ⟨α, fun hA hP => ?_⟩
  refine Ct.of (by decide +kernel) rfl (Nat.le_of_ble_eq_true rfl) ?_
  show WP (d + 5) mX4_foresee none 1 12 0 [.ref 27, .int x, .int y] [] h _
  have ho : GOut 27 65 h h := GOut.rf
  refine w_aload_n (pc := 0) (i := 0) dX4_foresee_0 rfl rfl ?_
  refine w_iconst (pc := 1) (v := 0) dX4_foresee_1 (by decide) ?_
  refine w_put (pc := 2) dX4_foresee_2 UX4_34 hp.1.1 (Nat.le_of_ble_eq_true rfl) nv_i (fun _ q => by cases q) ?_
  have hα : St 62 α (h.set 27 (.inr (4, (mdF μ t).set 0 (.int 0)))) := hα.out (c := 27) (w := 5) (GOut.rf.set (by omega) (by omega)) (by omega)
  have hp2 : Rm (μ, τ) 0 (h.set 27 (.inr (4, (mdF μ t).set 0 (.int 0)))) := hp.md (hp.1.s0 _) (GOut.rf.set (by omega) (by omega))
  have ho2 : GOut 27 65 h (h.set 27 (.inr (4, (mdF μ t).set 0 (.int 0)))) := ho.set (by omega) (by omega)
  show WP _ _ _ _ _ _ _ _ (h.set 27 (.inr (4, (mdF μ t).set 0 (.int 0)))) _
  generalize (h.set 27 (.inr (4, (mdF μ t).set 0 (.int 0)))) = h2 at hp2 ho2 hα ⊢
  refine w_iload_n (pc := 5) (i := 1) dX4_foresee_5 rfl rfl ?_
  refine w_iconst (pc := 6) (v := 1) dX4_foresee_6 (by decide) ?_
  refine w_bipush (pc := 7) (v := 40) dX4_foresee_7 (by decide) ?_
  refine w_sI (pc := 9) dX4_foresee_9 GX4_38 (c_isIn x 1 40 h2) rfl rfl rfl rfl ?_
  refine w_if_ne (pc := 12) (tgt := 21) dX4_foresee_12 (by decide) (fun c12 => ?_) (fun c12 => ?_)
  · refine w_iload_n (pc := 21) (i := 2) dX4_foresee_21 rfl rfl ?_
    refine w_iconst (pc := 22) (v := 0) dX4_foresee_22 (by decide) ?_
    refine w_bipush (pc := 23) (v := 11) dX4_foresee_23 (by decide) ?_
    refine w_sI (pc := 25) dX4_foresee_25 GX4_38 (c_isIn y 0 11 h2) rfl rfl rfl rfl ?_
    refine w_if_ne (pc := 28) (tgt := 37) dX4_foresee_28 (by decide) (fun c28 => ?_) (fun c28 => ?_)
    · obtain ⟨x0, hx0, ex0⟩ := inB_pos (n := 40) c12 (by decide) (by omega)
      subst ex0
      obtain ⟨y0, hy0, ey0⟩ := inB_nat (n := 11) c28 (by omega)
      subst ey0
      have hxn : (nI x0).toNatClampNeg = x0 := nI_clamp (by omega)
      have hyn : (nI y0).toNatClampNeg = y0 := nI_clamp (by omega)
      refine w_aload_n (pc := 37) (i := 0) dX4_foresee_37 rfl rfl ?_
      refine w_get (pc := 38) dX4_foresee_38 FX4_31 hp2.1.1 rfl ?_
      refine w_aload_n (pc := 41) (i := 0) dX4_foresee_41 rfl rfl ?_
      refine w_get (pc := 42) dX4_foresee_42 FX4_27 hp2.1.1 rfl ?_
      refine w_vQ (pc := 45) dX4_foresee_45 GX4_158 hα.1 (c_become hα hp2.2.1 (by omega)) rfl rfl rfl rfl ?_
      rintro v3 h3 ⟨rfl, hw3, ho3⟩
      show WP _ _ _ _ _ _ _ [.ref 62] _ _
      have hp3 := hp2.al hw3 ho3
      have ho33 := ho2.tr (ho3.mono (b' := 27) (w' := 65) (by omega) (by omega))
      refine w_iload_n (pc := 48) (i := 1) dX4_foresee_48 rfl rfl ?_
      refine w_vQ (pc := 49) dX4_foresee_49 GX4_152 hw3.1 (c_rpassN x0 (by omega) hw3 hp3.1 (by omega) hA (fun i hi => hP i (by omega))) rfl rfl rfl rfl ?_
      rintro v4 h4 ⟨rfl, hw4, ho4⟩
      have hp4 := hp3.al hw4 ho4
      have ho44 := ho33.tr (ho4.mono (b' := 27) (w' := 65) (by omega) (by omega))
      refine w_aload_n (pc := 52) (i := 0) dX4_foresee_52 rfl rfl ?_
      refine w_get (pc := 53) dX4_foresee_53 FX4_31 hp4.1.1 rfl ?_
      refine w_iload_n (pc := 56) (i := 2) dX4_foresee_56 rfl rfl ?_
      refine w_vQ2 (k1 := 1) (n1 := 12) (k2 := 0) (n2 := 0) (pc := 57) dX4_foresee_57 GX4_146 hw4.1 (c_rcounted y0 hw4 (hP x0 (by omega)).1 (by omega)) rfl rfl rfl rfl rfl rfl ?_
      rintro v5 h5 ⟨rfl, ho5⟩
      exact w_ireturn (pc := 60) dX4_foresee_60 ⟨_, rfl, rfl⟩ (RRet.of (by unfold bForesee; dsimp only; rw [if_neg c12, if_neg c28, hxn, hyn] <;> rfl) (hp4.nil ho5) (ho44.tr ho5.nil))
    · refine w_aload_n (pc := 31) (i := 0) dX4_foresee_31 rfl rfl ?_
      refine w_iconst (pc := 32) (v := 2) dX4_foresee_32 (by decide) ?_
      refine w_vQ (pc := 33) dX4_foresee_33 GX4_55 hp2.1.1 (c_no 2 hp2) rfl rfl rfl rfl ?_
      rintro vn hn ⟨rfl, hpn, hon⟩
      exact w_ireturn (pc := 36) dX4_foresee_36 ⟨_, rfl, rfl⟩ (RRet.of (by unfold bForesee; dsimp only; rw [if_neg c12, if_pos c28] <;> rfl) hpn (ho2.tr hon))
  · refine w_aload_n (pc := 15) (i := 0) dX4_foresee_15 rfl rfl ?_
    refine w_iconst (pc := 16) (v := 1) dX4_foresee_16 (by decide) ?_
    refine w_vQ (pc := 17) dX4_foresee_17 GX4_55 hp2.1.1 (c_no 1 hp2) rfl rfl rfl rfl ?_
    rintro vn hn ⟨rfl, hpn, hon⟩
    exact w_ireturn (pc := 20) dX4_foresee_20 ⟨_, rfl, rfl⟩ (RRet.of (by unfold bForesee; dsimp only; rw [if_pos c12] <;> rfl) hpn (ho2.tr hon))
set_option maxHeartbeats 1000000 in
theorem c_mean_loop (hp : Rm (μ, τ) t h) (hT : τ.2.2.2.1 0 ≤ 10) {P : AO → AH → Prop} (hP : ∀ {x : UInt64}, x = rMean τ → P (.inl (some (.double x))) h) : ∀ (m k : Nat), k + m = τ.2.2.2.1 0 → WP d mX4_mean none 0 0 11 [.ref 27, .int (rPipes τ 0 k), .int (rFl τ k), .int (nI k)] [] h P := by
  intro m
  induction m with
  | zero =>
    intro k hk
    have hk : k = τ.2.2.2.1 0 := by omega
    subst hk
    refine w_iload_n (pc := 11) (i := 3) dX4_mean_11 rfl rfl ?_
    refine w_aload_n (pc := 12) (i := 0) dX4_mean_12 rfl rfl ?_
    refine w_get (pc := 13) dX4_mean_13 FX4_27 hp.1.1 rfl ?_
    refine w_get (pc := 16) dX4_mean_16 FX4_48 hp.2.1.1 rfl ?_
    refine w_icmp_ge (pc := 19) (tgt := 68) dX4_mean_19 (by decide) (fun c19 => ?_) (fun c19 => absurd (nI_le (Nat.le_refl _) (by omega)) c19)
    refine w_iload_n (pc := 68) (i := 1) dX4_mean_68 rfl rfl ?_
    refine w_if_ne (pc := 69) (tgt := 76) dX4_mean_69 (by decide) (fun c69 => ?_) (fun c69 => ?_)
    · refine w_iload_n (pc := 76) (i := 2) dX4_mean_76 rfl rfl ?_
      refine w_i2d (pc := 77) dX4_mean_77 ?_
      refine w_iload_n (pc := 78) (i := 1) dX4_mean_78 rfl rfl ?_
      refine w_i2d (pc := 79) dX4_mean_79 ?_
      refine w_ddiv (pc := 80) dX4_mean_80 (nn_bits (nn_div c69)) ?_
      exact w_dreturn (pc := 81) dX4_mean_81 rfl (hP (by unfold rMean; rw [if_neg c69]))
    · refine w_dconst0 (pc := 72) dX4_mean_72 ?_
      refine w_goto (pc := 73) (tgt := 81) dX4_mean_73 (by decide) ?_
      exact w_dreturn (pc := 81) dX4_mean_81 rfl (hP (by unfold rMean; rw [if_pos c69]))
  | succ m ih =>
    intro k hk
    refine w_iload_n (pc := 11) (i := 3) dX4_mean_11 rfl rfl ?_
    refine w_aload_n (pc := 12) (i := 0) dX4_mean_12 rfl rfl ?_
    refine w_get (pc := 13) dX4_mean_13 FX4_27 hp.1.1 rfl ?_
    refine w_get (pc := 16) dX4_mean_16 FX4_48 hp.2.1.1 rfl ?_
    refine w_icmp_ge (pc := 19) (tgt := 68) dX4_mean_19 (by decide) (fun c19 => absurd c19 (nI_ge (by omega) (by omega))) (fun c19 => ?_)
    refine w_iload_n (pc := 22) (i := 1) dX4_mean_22 rfl rfl ?_
    refine w_aload_n (pc := 23) (i := 0) dX4_mean_23 rfl rfl ?_
    refine w_get (pc := 24) dX4_mean_24 FX4_27 hp.1.1 rfl ?_
    refine w_get (pc := 27) dX4_mean_27 FX4_86 hp.2.1.1 rfl ?_
    refine w_iload_n (pc := 30) (i := 3) dX4_mean_30 rfl rfl ?_
    refine w_aald (pc := 31) dX4_mean_31 hp.2.1.ware (vp_in_nI (by omega) (by omega)) (rowsAt_nI (by omega) (by omega)) ?_
    refine w_iconst (pc := 32) (v := 1) dX4_mean_32 (by decide) ?_
    refine w_iald (pc := 33) dX4_mean_33 (hp.2.1.wg (by omega)) (vp_in_nI (n := 1) (by omega) (by omega)) ?_
    rw [show Int32.toNatClampNeg 1 = 1 from rfl]
    refine w_iadd (pc := 34) dX4_mean_34 ?_
    refine w_topi (fun x35 e35 => ?_)
    refine w_istore_n (pc := 35) (i := 1) (ls' := [.ref 27, .int x35, .int (rFl τ k), .int (nI k)]) dX4_mean_35 rfl (by decide) rfl rfl rfl ?_
    have e35 : x35 = rPipes τ 0 (k + 1) := by rw [e35]; show rPipes τ 0 k + τ.2.1 k 1 = rPipes τ 0 k + τ.2.1 (0 + k) 1; rw [Nat.zero_add]
    subst e35
    refine w_iload_n (pc := 36) (i := 2) dX4_mean_36 rfl rfl ?_
    refine w_aload_n (pc := 37) (i := 0) dX4_mean_37 rfl rfl ?_
    refine w_get (pc := 38) dX4_mean_38 FX4_27 hp.1.1 rfl ?_
    refine w_get (pc := 41) dX4_mean_41 FX4_86 hp.2.1.1 rfl ?_
    refine w_iload_n (pc := 44) (i := 3) dX4_mean_44 rfl rfl ?_
    refine w_aald (pc := 45) dX4_mean_45 hp.2.1.ware (vp_in_nI (by omega) (by omega)) (rowsAt_nI (by omega) (by omega)) ?_
    refine w_iconst (pc := 46) (v := 1) dX4_mean_46 (by decide) ?_
    refine w_iald (pc := 47) dX4_mean_47 (hp.2.1.wg (by omega)) (vp_in_nI (n := 1) (by omega) (by omega)) ?_
    rw [show Int32.toNatClampNeg 1 = 1 from rfl]
    refine w_aload_n (pc := 48) (i := 0) dX4_mean_48 rfl rfl ?_
    refine w_get (pc := 49) dX4_mean_49 FX4_27 hp.1.1 rfl ?_
    refine w_get (pc := 52) dX4_mean_52 FX4_86 hp.2.1.1 rfl ?_
    refine w_iload_n (pc := 55) (i := 3) dX4_mean_55 rfl rfl ?_
    refine w_aald (pc := 56) dX4_mean_56 hp.2.1.ware (vp_in_nI (by omega) (by omega)) (rowsAt_nI (by omega) (by omega)) ?_
    refine w_iconst (pc := 57) (v := 3) dX4_mean_57 (by decide) ?_
    refine w_iald (pc := 58) dX4_mean_58 (hp.2.1.wg (by omega)) (vp_in_nI (n := 3) (by omega) (by omega)) ?_
    rw [show Int32.toNatClampNeg 3 = 3 from rfl]
    refine w_imul (pc := 59) dX4_mean_59 ?_
    refine w_iadd (pc := 60) dX4_mean_60 ?_
    refine w_topi (fun x61 e61 => ?_)
    refine w_istore_n (pc := 61) (i := 2) (ls' := [.ref 27, .int (rPipes τ 0 (k + 1)), .int x61, .int (nI k)]) dX4_mean_61 rfl (by decide) rfl rfl rfl ?_
    obtain ⟨x62, e62⟩ : ∃ y : Int32, y = (nI k) + 1 := ⟨_, rfl⟩
    refine w_iinc (pc := 62) (i := 3) (y := x62) (ls' := [.ref 27, .int (rPipes τ 0 (k + 1)), .int x61, .int x62]) dX4_mean_62 rfl (by rw [e62]; rfl) (by decide) rfl rfl rfl ?_
    refine w_goto (pc := 65) (tgt := 11) dX4_mean_65 (by decide) ?_
    obtain rfl : x62 = nI (k + 1) := by rw [e62]; exact nI_1 k
    subst e61
    exact ih (k + 1) (by omega)
set_option maxHeartbeats 1000000 in
theorem c_X4_mean (hp : Rm (μ, τ) t h) (h0 : μ.2 0 ≤ 6) (h1 : μ.2 1 ≤ 5) (hT : TB τ)  : Ct (d + 5) mX4_mean 0 0 [.ref 27] h (NT (fun v h1 => v = some (.double (rMean τ)) ∧ Rm (μ, τ) 0 h1 ∧ GOut 27 65 h h1)) := by
  refine Ct.of (by decide +kernel) rfl (Nat.le_of_ble_eq_true rfl) ?_
  show WP (d + 5) mX4_mean none 0 0 0 [.ref 27, vU, vU, vU] [] h _
  have ho : GOut 27 65 h h := GOut.rf
  have hT0 := hT.1
  have hT1 := hT.2
  refine w_aload_n (pc := 0) (i := 0) dX4_mean_0 rfl rfl ?_
  refine w_iconst (pc := 1) (v := 0) dX4_mean_1 (by decide) ?_
  refine w_put (pc := 2) dX4_mean_2 UX4_34 hp.1.1 (Nat.le_of_ble_eq_true rfl) nv_i (fun _ q => by cases q) ?_
  have hp2 : Rm (μ, τ) 0 (h.set 27 (.inr (4, (mdF μ t).set 0 (.int 0)))) := by exact hp.md (hp.1.s0 _) (GOut.rf.set (by omega) (by omega))
  have ho2 : GOut 27 65 h (h.set 27 (.inr (4, (mdF μ t).set 0 (.int 0)))) := ho.set (by omega) (by omega)
  show WP _ _ _ _ _ _ _ _ (h.set 27 (.inr (4, (mdF μ t).set 0 (.int 0)))) _
  generalize hh2 : (h.set 27 (.inr (4, (mdF μ t).set 0 (.int 0)))) = h2 at hp2 ho2 ⊢
  clear hh2
  refine w_iconst (pc := 5) (v := 0) dX4_mean_5 (by decide) ?_
  refine w_topi (fun x6 e6 => ?_)
  refine w_istore_n (pc := 6) (i := 1) (ls' := [.ref 27, .int x6, vU, vU]) dX4_mean_6 rfl (by decide) rfl rfl rfl ?_
  refine w_iconst (pc := 7) (v := 0) dX4_mean_7 (by decide) ?_
  refine w_topi (fun x8 e8 => ?_)
  refine w_istore_n (pc := 8) (i := 2) (ls' := [.ref 27, .int x6, .int x8, vU]) dX4_mean_8 rfl (by decide) rfl rfl rfl ?_
  refine w_iconst (pc := 9) (v := 0) dX4_mean_9 (by decide) ?_
  refine w_topi (fun x10 e10 => ?_)
  refine w_istore_n (pc := 10) (i := 3) (ls' := [.ref 27, .int x6, .int x8, .int x10]) dX4_mean_10 rfl (by decide) rfl rfl rfl ?_
  subst e6
  subst e8
  subst e10
  exact c_mean_loop hp2 hT0 (fun e => ⟨_, rfl, by rw [e], hp2, ho2⟩) (τ.2.2.2.1 0) 0 (Nat.zero_add _)
end MODEL4
