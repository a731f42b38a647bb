/-! the reference: a day -/
def Tmp (L N : Nat) (f : Nat → Int32) (h h1 : AH) : Prop := GOut 0 0 h h1 ∧ h1[L]? = some (.inl (N, .inl f)) ∧ h.length ≤ L
theorem Tmp.new {N : Nat} {h : AH} : Tmp h.length N (fun _ => 0) h (h ++ [.inl (N, .inl (fun _ => 0))]) := ⟨GOut.rf.grow, by rw [List.getElem?_append_right (Nat.le_refl _), Nat.sub_self]; rfl, Nat.le_refl _⟩
theorem GOut.top {h h1 : AH} {i : Nat} {x : AC} (a : GOut 0 0 h h1) (hi : h.length ≤ i) : GOut 0 0 h (h1.set i x) := fun j y hj q => by
  have hlt := (List.getElem?_eq_some_iff.mp q).1
  rw [gsn (by omega)]
  exact a j y hj q
theorem Tmp.set {L N i : Nat} {x : Int32} {f : Nat → Int32} {h h1 : AH} (a : Tmp L N f h h1) : Tmp L N (upd f i x) h (h1.set L (.inl (N, .inl (upd f i x)))) := ⟨a.1.top a.2.2, gss a.2.1, a.2.2⟩
theorem w_tmp {d : Nat} {M : MD} {z : Option (Nat × (Nat → Int32))} {k n pc : Nat} {ls st : List Value} {h0 h : AH} {P : AO → AH → Prop} {L N j : Nat} {x : Int32} {f : Nat → Int32} (hd : decode (mdB M) pc = .ok (.iastore, 1)) (hT : Tmp L N f h0 h) (hj : j < N) (hN : N < 2 ^ 31)
    (kk : ∀ h1, Tmp L N (upd f j x) h0 h1 → WP d M z k n (pc + 1) ls st h1 P) : WP d M z k n pc ls (.int x :: .int (nI j) :: .ref L :: st) h P := by
  refine w_iast hd hT.2.1 (vp_in_nI hj hN) ?_
  rw [nI_clamp (by omega)]
  exact kk _ hT.set
theorem St.len {b : Nat} {τ : ST} {h : AH} (hw : St b τ h) : b + 30 ≤ h.length := by have := (List.getElem?_eq_some_iff.mp (hw.og (k := 7) (by omega))).1; omega
def rPipesM (μ : MS) (τ : ST) (k m : Nat) : Int32 := if τ.2.2.2.2 1 / rClay μ m < μ.1 2 k then τ.2.2.2.2 1 / rClay μ m else μ.1 2 k
def rMade3 (μ : MS) (τ : ST) (m : Nat) (x : Int32) : ST := tC (tW (tS (tS τ 1 (τ.2.2.2.2 1 - x * rClay μ m)) 4 (τ.2.2.2.2 4 + x)) (τ.2.2.2.1 0) (pF (τ.2.1 (τ.2.2.2.1 0)) (μ.1 1 m) x 6 (rFlaw τ m))) 0 (τ.2.2.2.1 0 + 1)
def rMade (μ : MS) (τ : ST) (m : Nat) (x : Int32) : ST :=
  if kThen (τ.1 1 m) ((x + 3) / 4) / 10 ≤ τ.1 1 m / 10 then tA (rMade3 μ τ m x) 1 (upd (τ.1 1) m (kThen (τ.1 1 m) ((x + 3) / 4)))
  else tA (tA (rMade3 μ τ m x) 1 (upd (τ.1 1) m (kThen (τ.1 1 m) ((x + 3) / 4)))) 0 (upd (τ.1 0) m (if 0 < τ.1 0 m - 1 then τ.1 0 m - 1 else 0))
def rMake (μ : MS) (τ : ST) (k : Nat) : ST := if μ.1 3 k = -1 ∨ nI (τ.2.2.2.1 0) = 10 then τ else if rPipesM μ τ k (μ.1 3 k).toNatClampNeg = 0 then τ else rMade μ τ (μ.1 3 k).toNatClampNeg (rPipesM μ τ k (μ.1 3 k).toNatClampNeg)
def rMakes (μ : MS) (τ : ST) : Nat → ST
  | 0 => τ
  | k + 1 => rMake μ (rMakes μ τ k) k
def rDr (τ : ST) (y : Int32) : Nat → ST
  | 0 => τ
  | k + 1 => tW (rDr τ y k) k (upd ((rDr τ y k).2.1 k) 2 (if 0 < (rDr τ y k).2.1 k 2 - y then (rDr τ y k).2.1 k 2 - y else 0))
def rServed1 (τ : ST) (k : Nat) : ST := tS (tS (tA τ 2 (upd (τ.1 2) (τ.2.2.1 k 0).toNatClampNeg (τ.1 2 (τ.2.2.1 k 0).toNatClampNeg - τ.2.2.1 k 1))) 3 (τ.2.2.2.2 3 + τ.2.2.1 k 3)) 6 (τ.2.2.2.2 6 + 1)
def rServed (τ : ST) (k : Nat) : ST := if τ.2.2.1 k 4 = τ.2.2.2.2 8 then tS (rServed1 τ k) 9 1 else rServed1 τ k
def rLess (τ : ST) (k : Nat) : ST := tO τ k (upd (τ.2.2.1 k) 2 (τ.2.2.1 k 2 - 1))
def rLost (τ : ST) (k : Nat) : ST := if τ.2.2.1 k 4 = τ.2.2.2.2 8 then tS (tS τ 7 (τ.2.2.2.2 7 + 1)) 9 2 else tS τ 7 (τ.2.2.2.2 7 + 1)
def rCpy (τ : ST) (l k : Nat) : Nat → ST
  | 0 => τ
  | i + 1 => tO (rCpy τ l k i) l (upd ((rCpy τ l k i).2.2.1 l) i ((rCpy τ l k i).2.2.1 k i))
def rSvS (q : Nat × ST) (k : Nat) : Nat × ST := if q.2.2.2.1 k 1 ≤ q.2.1 2 (q.2.2.2.1 k 0).toNatClampNeg then (q.1, rServed q.2 k) else if q.2.2.2.1 k 2 - 1 < 0 then (q.1, rLost (rLess q.2 k) k) else (q.1 + 1, rCpy (rLess q.2 k) q.1 k 5)
def rSv (τ : ST) : Nat → Nat × ST
  | 0 => (0, τ)
  | k + 1 => rSvS (rSv τ k) k
def rServe (τ : ST) : ST := tC (rSv τ (τ.2.2.2.1 1)).2 1 (rSv τ (τ.2.2.2.1 1)).1
def rIx (τ : ST) : Int32 := τ.2.2.2.2 0 - τ.2.2.2.2 0 / 7 * 7
def rBy (μ : MS) (τ : ST) : Int32 := μ.1 0 (rIx τ).toNatClampNeg
def rPass2 (μ : MS) (τ : ST) : ST := rDr (rMakes μ τ (μ.2 1)) (rBy μ (rMakes μ τ (μ.2 1))) 16
def rPass (μ : MS) (τ : ST) : ST := tS (rServe (rPass2 μ τ)) 0 ((rServe (rPass2 μ τ)).2.2.2.2 0 + 1)
def rPassN (μ : MS) (τ : ST) : Nat → ST
  | 0 => τ
  | k + 1 => rPass μ (rPassN μ τ k)
def MakeOk (μ : MS) : Prop := μ.2 1 ≤ 5 ∧ ∀ k, k < μ.2 1 → (μ.1 3 k = -1 ∨ ∃ m, m < 6 ∧ μ.1 3 k = nI m ∧ ¬ rClay μ m = 0)
def PassOk (τ : ST) : Prop := TB τ ∧ vp_in (rIx τ) 7 ∧ ∀ k, k < τ.2.2.2.1 1 → vp_in (τ.2.2.1 k 0) 25
theorem rMade_C {μ : MS} {τ : ST} {m : Nat} {x : Int32} : (rMade μ τ m x).2.2.2.1 = (tC τ 0 (τ.2.2.2.1 0 + 1)).2.2.2.1 := by unfold rMade; split <;> rfl
theorem rMake_B {μ : MS} {τ : ST} {k : Nat} (h : TB τ) : TB (rMake μ τ k) := by
  unfold rMake
  split
  · exact h
  · rename_i h1
    split
    · exact h
    · have h2 : ¬ τ.2.2.2.1 0 = 10 := fun q => h1 (Or.inr (by rw [q]; rfl))
      have h3 := h.1
      unfold TB
      rw [rMade_C]
      exact ⟨show τ.2.2.2.1 0 + 1 ≤ 10 by omega, h.2⟩
theorem rMakes_B {μ : MS} {τ : ST} (h : TB τ) : ∀ k, TB (rMakes μ τ k)
  | 0 => h
  | k + 1 => rMake_B (rMakes_B h k)
theorem rMake_O {μ : MS} {τ : ST} {k : Nat} : (rMake μ τ k).2.2.1 = τ.2.2.1 ∧ (rMake μ τ k).2.2.2.1 1 = τ.2.2.2.1 1 ∧ (rMake μ τ k).2.2.2.2 0 = τ.2.2.2.2 0 := by
  unfold rMake
  split
  · exact ⟨rfl, rfl, rfl⟩
  · split
    · exact ⟨rfl, rfl, rfl⟩
    · unfold rMade
      split <;> exact ⟨rfl, rfl, rfl⟩
theorem rMakes_O {μ : MS} {τ : ST} : ∀ k, (rMakes μ τ k).2.2.1 = τ.2.2.1 ∧ (rMakes μ τ k).2.2.2.1 1 = τ.2.2.2.1 1 ∧ (rMakes μ τ k).2.2.2.2 0 = τ.2.2.2.2 0
  | 0 => ⟨rfl, rfl, rfl⟩
  | k + 1 => by
    obtain ⟨a1, a2, a3⟩ := rMakes_O (μ := μ) (τ := τ) k
    obtain ⟨b1, b2, b3⟩ := rMake_O (μ := μ) (τ := rMakes μ τ k) (k := k)
    exact ⟨b1.trans a1, b2.trans a2, b3.trans a3⟩
theorem rDr_O {τ : ST} {y : Int32} : ∀ k, (rDr τ y k).1 = τ.1 ∧ (rDr τ y k).2.2 = τ.2.2
  | 0 => ⟨rfl, rfl⟩
  | k + 1 => rDr_O (τ := τ) (y := y) k
theorem rCpy_row {τ : ST} {l k j : Nat} (hj : l < j) : ∀ n, (rCpy τ l k n).2.2.1 j = τ.2.2.1 j
  | 0 => rfl
  | n + 1 => (if_neg (by omega)).trans (rCpy_row hj n)
theorem rCpy_C {τ : ST} {l k : Nat} : ∀ n, (rCpy τ l k n).1 = τ.1 ∧ (rCpy τ l k n).2.1 = τ.2.1 ∧ (rCpy τ l k n).2.2.2 = τ.2.2.2
  | 0 => ⟨rfl, rfl, rfl⟩
  | n + 1 => rCpy_C (τ := τ) (l := l) (k := k) n
theorem rServed_O {τ : ST} {k : Nat} : (rServed τ k).2.2.1 = τ.2.2.1 ∧ (rServed τ k).2.2.2.1 = τ.2.2.2.1 := by unfold rServed; split <;> exact ⟨rfl, rfl⟩
theorem rLost_O {τ : ST} {k : Nat} : (rLost τ k).2.2.1 = τ.2.2.1 ∧ (rLost τ k).2.2.2.1 = τ.2.2.2.1 := by unfold rLost; split <;> exact ⟨rfl, rfl⟩
theorem rSvS_row {τ : ST} {q : Nat × ST} {k : Nat} (a1 : q.1 ≤ k) (a2 : q.2.2.2.2.1 = τ.2.2.2.1) (a3 : ∀ j, k ≤ j → q.2.2.2.1 j = τ.2.2.1 j) : (rSvS q k).1 ≤ k + 1 ∧ (rSvS q k).2.2.2.2.1 = τ.2.2.2.1 ∧ ∀ j, k + 1 ≤ j → (rSvS q k).2.2.2.1 j = τ.2.2.1 j := by
  unfold rSvS
  split
  · exact ⟨Nat.le_succ_of_le a1, rServed_O.2.trans a2, fun j hj => (congrFun rServed_O.1 j).trans (a3 j (by omega))⟩
  · split
    · exact ⟨Nat.le_succ_of_le a1, rLost_O.2.trans a2, fun j hj => (congrFun rLost_O.1 j).trans ((if_neg (by omega)).trans (a3 j (by omega)))⟩
    · exact ⟨Nat.succ_le_succ a1, (congrArg Prod.fst (rCpy_C (τ := rLess q.2 k) (l := q.1) (k := k) 5).2.2).trans a2, fun j hj => (rCpy_row (by omega) 5).trans ((if_neg (by omega)).trans (a3 j (by omega)))⟩
theorem rSv_row {τ : ST} : ∀ k, (rSv τ k).1 ≤ k ∧ (rSv τ k).2.2.2.2.1 = τ.2.2.2.1 ∧ ∀ j, k ≤ j → (rSv τ k).2.2.2.1 j = τ.2.2.1 j
  | 0 => ⟨Nat.le_refl _, rfl, fun _ _ => rfl⟩
  | k + 1 => rSvS_row (rSv_row (τ := τ) k).1 (rSv_row (τ := τ) k).2.1 (rSv_row (τ := τ) k).2.2
section RDAY
variable {d b : Nat} {τ : ST} {μ : MS} {t : Int32} {h : AH}
set_option maxHeartbeats 1000000 in
theorem c_rcounted (j : Nat) (hw : St b τ h) (hB : TB τ) (hj : j < 12) : Ct (d + 2) mX3_counted 1 12 [.ref b, .int (nI j)] h (NT (fun v h1 => v = some (.int (rCount τ j)) ∧ GOut 0 0 h h1)) := by
  refine Ct.of (by decide +kernel) rfl (Nat.le_of_ble_eq_true rfl) ?_
  show WP (d + 2) mX3_counted none 1 12 0 [.ref b, .int (nI j), vU] [] h _
  have hlen := hw.len
  refine w_bipush (pc := 0) (v := 12) dX3_counted_0 (by decide) ?_
  refine w_newi (pc := 2) (N := 12) (k := 0) (n := 0) dX3_counted_2 rfl (by omega) ?_
  obtain ⟨L, hL⟩ : ∃ z : Nat, z = h.length := ⟨_, rfl⟩
  have hT : Tmp L 12 (fun _ => 0) h (h ++ [.inl (12, .inl (fun _ => 0))]) := by rw [hL]; exact Tmp.new
  rw [← hL]
  generalize (h ++ [.inl (12, .inl (fun _ => 0))]) = hh at hT ⊢
  have hs := hw.nil hT.1
  refine w_dup (pc := 4) dX3_counted_4 rfl ?_
  refine w_iconst (pc := 5) (v := 0) dX3_counted_5 (by decide) ?_
  refine w_aload_n (pc := 6) (i := 0) dX3_counted_6 rfl rfl ?_
  refine w_get (pc := 7) dX3_counted_7 FX3_46 hs.1 rfl ?_
  refine w_tmp (pc := 10) (j := 0) dX3_counted_10 hT (by omega) (by omega) (fun hh hT => ?_)
  have hs := hw.nil hT.1
  refine w_dup (pc := 11) dX3_counted_11 rfl ?_
  refine w_iconst (pc := 12) (v := 1) dX3_counted_12 (by decide) ?_
  refine w_aload_n (pc := 13) (i := 0) dX3_counted_13 rfl rfl ?_
  refine w_get (pc := 14) dX3_counted_14 FX3_15 hs.1 rfl ?_
  refine w_tmp (pc := 17) (j := 1) dX3_counted_17 hT (by omega) (by omega) (fun hh hT => ?_)
  have hs := hw.nil hT.1
  refine w_dup (pc := 18) dX3_counted_18 rfl ?_
  refine w_iconst (pc := 19) (v := 2) dX3_counted_19 (by decide) ?_
  refine w_aload_n (pc := 20) (i := 0) dX3_counted_20 rfl rfl ?_
  refine w_get (pc := 21) dX3_counted_21 FX3_19 hs.1 rfl ?_
  refine w_tmp (pc := 24) (j := 2) dX3_counted_24 hT (by omega) (by omega) (fun hh hT => ?_)
  have hs := hw.nil hT.1
  refine w_dup (pc := 25) dX3_counted_25 rfl ?_
  refine w_iconst (pc := 26) (v := 3) dX3_counted_26 (by decide) ?_
  refine w_aload_n (pc := 27) (i := 0) dX3_counted_27 rfl rfl ?_
  refine w_get (pc := 28) dX3_counted_28 FX3_22 hs.1 rfl ?_
  refine w_tmp (pc := 31) (j := 3) dX3_counted_31 hT (by omega) (by omega) (fun hh hT => ?_)
  have hs := hw.nil hT.1
  refine w_dup (pc := 32) dX3_counted_32 rfl ?_
  refine w_iconst (pc := 33) (v := 4) dX3_counted_33 (by decide) ?_
  refine w_aload_n (pc := 34) (i := 0) dX3_counted_34 rfl rfl ?_
  refine w_get (pc := 35) dX3_counted_35 FX3_49 hs.1 rfl ?_
  refine w_tmp (pc := 38) (j := 4) dX3_counted_38 hT (by omega) (by omega) (fun hh hT => ?_)
  have hs := hw.nil hT.1
  refine w_dup (pc := 39) dX3_counted_39 rfl ?_
  refine w_iconst (pc := 40) (v := 5) dX3_counted_40 (by decide) ?_
  refine w_aload_n (pc := 41) (i := 0) dX3_counted_41 rfl rfl ?_
  refine w_get (pc := 42) dX3_counted_42 FX3_52 hs.1 rfl ?_
  refine w_tmp (pc := 45) (j := 5) dX3_counted_45 hT (by omega) (by omega) (fun hh hT => ?_)
  have hs := hw.nil hT.1
  refine w_dup (pc := 46) dX3_counted_46 rfl ?_
  refine w_bipush (pc := 47) (v := 6) dX3_counted_47 (by decide) ?_
  refine w_aload_n (pc := 49) (i := 0) dX3_counted_49 rfl rfl ?_
  refine w_iconst (pc := 50) (v := 0) dX3_counted_50 (by decide) ?_
  refine w_aload_n (pc := 51) (i := 0) dX3_counted_51 rfl rfl ?_
  refine w_get (pc := 52) dX3_counted_52 FX3_61 hs.1 rfl ?_
  refine w_vI (pc := 55) dX3_counted_55 GX3_128 hs.1 (c_pipes 0 (τ.2.2.2.1 0) hs (by omega) (by have := hB.1; omega)) rfl rfl rfl rfl ?_
  refine w_tmp (pc := 58) (j := 6) dX3_counted_58 hT (by omega) (by omega) (fun hh hT => ?_)
  have hs := hw.nil hT.1
  refine w_dup (pc := 59) dX3_counted_59 rfl ?_
  refine w_bipush (pc := 60) (v := 7) dX3_counted_60 (by decide) ?_
  refine w_aload_n (pc := 62) (i := 0) dX3_counted_62 rfl rfl ?_
  refine w_vI (pc := 63) dX3_counted_63 GX3_131 hs.1 (c_inSaggars hs) rfl rfl rfl rfl ?_
  refine w_tmp (pc := 66) (j := 7) dX3_counted_66 hT (by omega) (by omega) (fun hh hT => ?_)
  have hs := hw.nil hT.1
  refine w_dup (pc := 67) dX3_counted_67 rfl ?_
  refine w_bipush (pc := 68) (v := 8) dX3_counted_68 (by decide) ?_
  refine w_aload_n (pc := 70) (i := 0) dX3_counted_70 rfl rfl ?_
  refine w_vI (pc := 71) dX3_counted_71 GX3_135 hs.1 (c_stored hs) rfl rfl rfl rfl ?_
  refine w_tmp (pc := 74) (j := 8) dX3_counted_74 hT (by omega) (by omega) (fun hh hT => ?_)
  have hs := hw.nil hT.1
  refine w_dup (pc := 75) dX3_counted_75 rfl ?_
  refine w_bipush (pc := 76) (v := 9) dX3_counted_76 (by decide) ?_
  refine w_aload_n (pc := 78) (i := 0) dX3_counted_78 rfl rfl ?_
  refine w_get (pc := 79) dX3_counted_79 FX3_64 hs.1 rfl ?_
  refine w_tmp (pc := 82) (j := 9) dX3_counted_82 hT (by omega) (by omega) (fun hh hT => ?_)
  have hs := hw.nil hT.1
  refine w_dup (pc := 83) dX3_counted_83 rfl ?_
  refine w_bipush (pc := 84) (v := 10) dX3_counted_84 (by decide) ?_
  refine w_aload_n (pc := 86) (i := 0) dX3_counted_86 rfl rfl ?_
  refine w_get (pc := 87) dX3_counted_87 FX3_55 hs.1 rfl ?_
  refine w_tmp (pc := 90) (j := 10) dX3_counted_90 hT (by omega) (by omega) (fun hh hT => ?_)
  have hs := hw.nil hT.1
  refine w_dup (pc := 91) dX3_counted_91 rfl ?_
  refine w_bipush (pc := 92) (v := 11) dX3_counted_92 (by decide) ?_
  refine w_aload_n (pc := 94) (i := 0) dX3_counted_94 rfl rfl ?_
  refine w_get (pc := 95) dX3_counted_95 FX3_58 hs.1 rfl ?_
  refine w_tmp (pc := 98) (j := 11) dX3_counted_98 hT (by omega) (by omega) (fun hh hT => ?_)
  have hs := hw.nil hT.1
  refine w_topa (fun x99 e99 => ?_)
  refine w_astore_n (pc := 99) (i := 2) (ls' := [.ref b, .int (nI j), .ref x99]) dX3_counted_99 rfl (by decide) rfl rfl rfl ?_
  subst e99
  refine w_aload_n (pc := 100) (i := 2) dX3_counted_100 rfl rfl ?_
  refine w_iload_n (pc := 101) (i := 1) dX3_counted_101 rfl rfl ?_
  refine w_iald (pc := 102) dX3_counted_102 hT.2.1 (vp_in_nI (by omega) (by omega)) ?_
  rw [nI_clamp (by omega)]
  refine w_ireturn (pc := 103) dX3_counted_103 ⟨_, rfl, rfl⟩ ⟨_, rfl, ?_, hT.1⟩
  match j, hj with
  | 0, _ => rfl
  | 1, _ => rfl
  | 2, _ => rfl
  | 3, _ => rfl
  | 4, _ => rfl
  | 5, _ => rfl
  | 6, _ => rfl
  | 7, _ => rfl
  | 8, _ => rfl
  | 9, _ => rfl
  | 10, _ => rfl
  | 11, _ => rfl
set_option maxHeartbeats 1000000 in
theorem c_rclayOf (m : Nat) (hM : Md μ t h) (hm : m < 6) : Ct d mX4_clayOf 0 0 [.ref 27, .int (nI m)] h (RI (rClay μ m) h) := by
  refine Ct.of (by decide +kernel) rfl (Nat.le_of_ble_eq_true rfl) ?_
  show WP d mX4_clayOf none 0 0 0 [.ref 27, .int (nI m)] [] h _
  refine w_aload_n (pc := 0) (i := 0) dX4_clayOf_0 rfl rfl ?_
  refine w_get (pc := 1) dX4_clayOf_1 FX4_13 hM.1 rfl ?_
  refine w_iload_n (pc := 4) (i := 1) dX4_clayOf_4 rfl rfl ?_
  refine w_iald (pc := 5) dX4_clayOf_5 hM.2.2.1 (vp_in_nI hm (by omega)) ?_
  rw [nI_clamp (by omega)]
  refine w_bipush (pc := 6) (v := 7) dX4_clayOf_6 (by decide) ?_
  refine w_iadd (pc := 8) dX4_clayOf_8 ?_
  refine w_bipush (pc := 9) (v := 8) dX4_clayOf_9 (by decide) ?_
  refine w_idiv (pc := 11) dX4_clayOf_11 (by decide) ?_
  exact w_ireturn (pc := 12) dX4_clayOf_12 ⟨_, rfl, rfl⟩ ⟨rfl, rfl⟩
set_option maxHeartbeats 1000000 in
theorem c_make (k : Nat) (hw : St b τ h) (hM : Md μ t h) (hb : 32 ≤ b) (hT : TB τ) (hk : k < 5) (hA : μ.1 3 k = -1 ∨ ∃ m, m < 6 ∧ μ.1 3 k = nI m ∧ ¬ rClay μ m = 0) : Ct (d + 1) mX3_make 0 0 [.ref b, .int (nI k)] h (NT (fun v h1 => v = none ∧ St b (rMake μ τ k) h1 ∧ GOut b 30 h h1)) := by
  refine Ct.of (by decide +kernel) rfl (Nat.le_of_ble_eq_true rfl) ?_
  show WP (d + 1) mX3_make none 0 0 0 [.ref b, .int (nI k), vU, vU, vU] [] h _
  have ho : GOut b 30 h h := GOut.rf
  have hT1 := hT.1
  refine w_aload_n (pc := 0) (i := 0) dX3_make_0 rfl rfl ?_
  refine w_get (pc := 1) dX3_make_1 FX3_3 hw.1 rfl ?_
  refine w_get (pc := 4) dX3_make_4 FX3_76 (hM.out ho (by omega)).1 rfl ?_
  refine w_iload_n (pc := 7) (i := 1) dX3_make_7 rfl rfl ?_
  refine w_iald (pc := 8) dX3_make_8 hM.2.2.2.2 (vp_in_nI (by omega) (by omega)) ?_
  rw [nI_clamp (by omega)]
  refine w_topi (fun x9 e9 => ?_)
  refine w_istore_n (pc := 9) (i := 2) (ls' := [.ref b, .int (nI k), .int x9, vU, vU]) dX3_make_9 rfl (by decide) rfl rfl rfl ?_
  subst e9
  refine w_iload_n (pc := 10) (i := 2) dX3_make_10 rfl rfl ?_
  refine w_iconst (pc := 11) (v := -1) dX3_make_11 (by decide) ?_
  refine w_icmp_eq (pc := 12) (tgt := 24) dX3_make_12 (by decide) (fun c12 => ?_) (fun c12 => ?_)
  · exact w_return (pc := 24) dX3_make_24 rfl ⟨none, rfl, rfl, by unfold rMake; rw [if_pos (Or.inl c12)]; exact hw, ho⟩
  · refine w_aload_n (pc := 15) (i := 0) dX3_make_15 rfl rfl ?_
    refine w_get (pc := 16) dX3_make_16 FX3_61 hw.1 rfl ?_
    refine w_bipush (pc := 19) (v := 10) dX3_make_19 (by decide) ?_
    refine w_icmp_ne (pc := 21) (tgt := 25) dX3_make_21 (by decide) (fun c21 => ?_) (fun c21 => ?_)
    · obtain ⟨m, hm, em, hz⟩ := hA.resolve_left c12
      have hmn : (nI m).toNatClampNeg = m := nI_clamp (by omega)
      have hn : ¬ (μ.1 3 k = -1 ∨ nI (τ.2.2.2.1 0) = 10) := fun q => q.elim c12 c21
      have hb10 : τ.2.2.2.1 0 < 10 := by
        have : ¬ τ.2.2.2.1 0 = 10 := fun q => c21 (by rw [q]; rfl)
        omega
      unfold rMake
      rw [if_neg hn]
      clear c12 c21 hn
      rw [em, hmn]
      refine w_aload_n (pc := 25) (i := 0) dX3_make_25 rfl rfl ?_
      refine w_get (pc := 26) dX3_make_26 FX3_3 hw.1 rfl ?_
      refine w_get (pc := 29) dX3_make_29 FX3_79 (hM.out ho (by omega)).1 rfl ?_
      refine w_iload_n (pc := 32) (i := 1) dX3_make_32 rfl rfl ?_
      refine w_iald (pc := 33) dX3_make_33 hM.2.2.2.1 (vp_in_nI (by omega) (by omega)) ?_
      rw [nI_clamp (by omega)]
      refine w_aload_n (pc := 34) (i := 0) dX3_make_34 rfl rfl ?_
      refine w_get (pc := 35) dX3_make_35 FX3_15 hw.1 rfl ?_
      refine w_aload_n (pc := 38) (i := 0) dX3_make_38 rfl rfl ?_
      refine w_get (pc := 39) dX3_make_39 FX3_3 hw.1 rfl ?_
      refine w_iload_n (pc := 42) (i := 2) dX3_make_42 rfl rfl ?_
      refine w_nI (pc := 43) dX3_make_43 GX3_82 hM.1 (c_rclayOf m hM hm) rfl rfl rfl rfl ?_
      refine w_idiv (pc := 46) dX3_make_46 hz ?_
      refine w_min (pc := 47) dX3_make_47 LX3_86 (by omega) rfl (Nat.le_of_ble_eq_true rfl) ?_
      refine w_topi (fun x50 e50 => ?_)
      refine w_istore_n (pc := 50) (i := 3) (ls' := [.ref b, .int (nI k), .int (nI m), .int x50, vU]) dX3_make_50 rfl (by decide) rfl rfl rfl ?_
      have e50 : x50 = rPipesM μ τ k m := e50
      refine w_iload_n (pc := 51) (i := 3) dX3_make_51 rfl rfl ?_
      refine w_if_ne (pc := 52) (tgt := 56) dX3_make_52 (by decide) (fun c52 => ?_) (fun c52 => ?_)
      · rw [← e50, if_neg c52]
        refine w_aload_n (pc := 56) (i := 0) dX3_make_56 rfl rfl ?_
        refine w_dup (pc := 57) dX3_make_57 rfl ?_
        refine w_get (pc := 58) dX3_make_58 FX3_15 hw.1 rfl ?_
        refine w_iload_n (pc := 61) (i := 3) dX3_make_61 rfl rfl ?_
        refine w_aload_n (pc := 62) (i := 0) dX3_make_62 rfl rfl ?_
        refine w_get (pc := 63) dX3_make_63 FX3_3 hw.1 rfl ?_
        refine w_iload_n (pc := 66) (i := 2) dX3_make_66 rfl rfl ?_
        refine w_nI (pc := 67) dX3_make_67 GX3_82 hM.1 (c_rclayOf m hM hm) rfl rfl rfl rfl ?_
        refine w_imul (pc := 70) dX3_make_70 ?_
        refine w_isub (pc := 71) dX3_make_71 ?_
        refine w_put (pc := 72) dX3_make_72 UX3_15 hw.1 (Nat.le_of_ble_eq_true rfl) nv_i (fun _ q => by cases q) ?_
        obtain ⟨s72, hs72⟩ : ∃ z : ST, z = tS τ 1 (τ.2.2.2.2 1 - x50 * rClay μ m) := ⟨_, rfl⟩
        have hw72 : St b s72 (h.set b (.inr (3, (stF b τ).set 1 (.int (τ.2.2.2.2 1 - x50 * rClay μ m))))) := by rw [hs72]; exact hw.s1 _
        have ho72 : GOut b 30 h (h.set b (.inr (3, (stF b τ).set 1 (.int (τ.2.2.2.2 1 - x50 * rClay μ m))))) := ho.set (by omega) (by omega)
        generalize hh72 : (h.set b (.inr (3, (stF b τ).set 1 (.int (τ.2.2.2.2 1 - x50 * rClay μ m))))) = h72 at hw72 ho72 ⊢
        clear hh72
        refine w_aload_n (pc := 75) (i := 0) dX3_make_75 rfl rfl ?_
        refine w_dup (pc := 76) dX3_make_76 rfl ?_
        refine w_get (pc := 77) dX3_make_77 FX3_49 hw72.1 rfl ?_
        refine w_iload_n (pc := 80) (i := 3) dX3_make_80 rfl rfl ?_
        refine w_iadd (pc := 81) dX3_make_81 ?_
        rw [show s72.2.2.2.2 4 = τ.2.2.2.2 4 from by rw [hs72]; rfl]
        refine w_put (pc := 82) dX3_make_82 UX3_49 hw72.1 (Nat.le_of_ble_eq_true rfl) nv_i (fun _ q => by cases q) ?_
        obtain ⟨s82, hs82⟩ : ∃ z : ST, z = tS s72 4 (τ.2.2.2.2 4 + x50) := ⟨_, rfl⟩
        have hw82 : St b s82 (h72.set b (.inr (3, (stF b s72).set 4 (.int (τ.2.2.2.2 4 + x50))))) := by rw [hs82]; exact hw72.s4 _
        have ho82 : GOut b 30 h (h72.set b (.inr (3, (stF b s72).set 4 (.int (τ.2.2.2.2 4 + x50))))) := ho72.set (by omega) (by omega)
        generalize hh82 : (h72.set b (.inr (3, (stF b s72).set 4 (.int (τ.2.2.2.2 4 + x50))))) = h82 at hw82 ho82 ⊢
        clear hh82
        have hc82 : s82.2.2.2.1 0 = τ.2.2.2.1 0 := by rw [hs82, hs72]; rfl
        refine w_aload_n (pc := 85) (i := 0) dX3_make_85 rfl rfl ?_
        refine w_aload_n (pc := 86) (i := 0) dX3_make_86 rfl rfl ?_
        refine w_get (pc := 87) dX3_make_87 FX3_34 hw82.1 rfl ?_
        refine w_aload_n (pc := 90) (i := 0) dX3_make_90 rfl rfl ?_
        refine w_get (pc := 91) dX3_make_91 FX3_61 hw82.1 rfl ?_
        rw [hc82]
        refine w_aald (pc := 94) dX3_make_94 hw82.ware (vp_in_nI (by omega) (by omega)) (rowsAt_nI (by omega) (by omega)) ?_
        refine w_aload_n (pc := 95) (i := 0) dX3_make_95 rfl rfl ?_
        refine w_get (pc := 96) dX3_make_96 FX3_3 hw82.1 rfl ?_
        refine w_get (pc := 99) dX3_make_99 FX3_92 (hM.out ho82 (by omega)).1 rfl ?_
        refine w_iload_n (pc := 102) (i := 2) dX3_make_102 rfl rfl ?_
        refine w_iald (pc := 103) dX3_make_103 (hM.out ho82 (by omega)).2.2.1 (vp_in_nI (by omega) (by omega)) ?_
        rw [hmn]
        refine w_iload_n (pc := 104) (i := 3) dX3_make_104 rfl rfl ?_
        refine w_bipush (pc := 105) (v := 6) dX3_make_105 (by decide) ?_
        refine w_aload_n (pc := 107) (i := 0) dX3_make_107 rfl rfl ?_
        refine w_iload_n (pc := 108) (i := 2) dX3_make_108 rfl rfl ?_
        refine w_vI (pc := 109) dX3_make_109 GX3_95 hw82.1 (c_flaw m hw82 hm) rfl rfl rfl rfl ?_
        rw [show rFlaw s82 m = rFlaw τ m from by rw [hs82, hs72]; rfl]
        refine w_vV (pc := 112) dX3_make_112 GX3_98 hw82.1 (c_put3 (μ.1 1 m) x50 6 (rFlaw τ m) (hw82.wg (by omega))) rfl rfl rfl rfl ?_
        obtain ⟨s112, hs112⟩ : ∃ z : ST, z = tW s82 (τ.2.2.2.1 0) (pF (s82.2.1 (τ.2.2.2.1 0)) (μ.1 1 m) x50 6 (rFlaw τ m)) := ⟨_, rfl⟩
        have hw112 : St b s112 (h82.set (b + 4 + (τ.2.2.2.1 0)) (.inl (4, .inl (pF (s82.2.1 (τ.2.2.2.1 0)) (μ.1 1 m) x50 6 (rFlaw τ m))))) := by rw [hs112]; exact hw82.w (by omega) _
        have ho112 : GOut b 30 h (h82.set (b + 4 + (τ.2.2.2.1 0)) (.inl (4, .inl (pF (s82.2.1 (τ.2.2.2.1 0)) (μ.1 1 m) x50 6 (rFlaw τ m))))) := ho82.set (by omega) (by omega)
        generalize hh112 : (h82.set (b + 4 + (τ.2.2.2.1 0)) (.inl (4, .inl (pF (s82.2.1 (τ.2.2.2.1 0)) (μ.1 1 m) x50 6 (rFlaw τ m))))) = h112 at hw112 ho112 ⊢
        clear hh112
        have hc112 : s112.2.2.2.1 0 = τ.2.2.2.1 0 := by rw [hs112]; exact hc82
        refine w_aload_n (pc := 115) (i := 0) dX3_make_115 rfl rfl ?_
        refine w_dup (pc := 116) dX3_make_116 rfl ?_
        refine w_get (pc := 117) dX3_make_117 FX3_61 hw112.1 rfl ?_
        refine w_iconst (pc := 120) (v := 1) dX3_make_120 (by decide) ?_
        refine w_iadd (pc := 121) dX3_make_121 ?_
        rw [nI_1, hc112]
        refine w_put (pc := 122) dX3_make_122 UX3_61 hw112.1 (Nat.le_of_ble_eq_true rfl) nv_i (fun _ q => by cases q) ?_
        obtain ⟨s122, hs122⟩ : ∃ z : ST, z = tC s112 0 (τ.2.2.2.1 0 + 1) := ⟨_, rfl⟩
        have hw122 : St b s122 (h112.set b (.inr (3, (stF b s112).set 10 (.int (nI (τ.2.2.2.1 0 + 1)))))) := by rw [hs122]; exact hw112.c0 _
        have ho122 : GOut b 30 h (h112.set b (.inr (3, (stF b s112).set 10 (.int (nI (τ.2.2.2.1 0 + 1)))))) := ho112.set (by omega) (by omega)
        generalize hh122 : (h112.set b (.inr (3, (stF b s112).set 10 (.int (nI (τ.2.2.2.1 0 + 1)))))) = h122 at hw122 ho122 ⊢
        clear hh122
        have em122 : s122 = rMade3 μ τ m x50 := by rw [hs122, hs112, hs82, hs72]; rfl
        have hwn : s122.1 1 = τ.1 1 := by rw [em122]; rfl
        have htn : s122.1 0 = τ.1 0 := by rw [em122]; rfl
        refine w_aload_n (pc := 125) (i := 0) dX3_make_125 rfl rfl ?_
        refine w_get (pc := 126) dX3_make_126 FX3_29 hw122.1 rfl ?_
        refine w_iload_n (pc := 129) (i := 2) dX3_make_129 rfl rfl ?_
        refine w_iald (pc := 130) dX3_make_130 hw122.worn (vp_in_nI hm (by omega)) ?_
        rw [hmn, hwn]
        refine w_topi (fun x131 e131 => ?_)
        refine w_istore (pc := 131) (i := 4) (ls' := [.ref b, .int (nI k), .int (nI m), .int x50, .int x131]) dX3_make_131 (by decide) rfl rfl rfl ?_
        subst e131
        refine w_aload_n (pc := 133) (i := 0) dX3_make_133 rfl rfl ?_
        refine w_get (pc := 134) dX3_make_134 FX3_29 hw122.1 rfl ?_
        refine w_iload_n (pc := 137) (i := 2) dX3_make_137 rfl rfl ?_
        refine w_bipush (pc := 138) (v := 100) dX3_make_138 (by decide) ?_
        refine w_iload (pc := 140) (i := 4) dX3_make_140 rfl ?_
        refine w_iload_n (pc := 142) (i := 3) dX3_make_142 rfl rfl ?_
        refine w_iconst (pc := 143) (v := 3) dX3_make_143 (by decide) ?_
        refine w_iadd (pc := 144) dX3_make_144 ?_
        refine w_iconst (pc := 145) (v := 4) dX3_make_145 (by decide) ?_
        refine w_idiv (pc := 146) dX3_make_146 (by decide) ?_
        refine w_iadd (pc := 147) dX3_make_147 ?_
        refine w_min (pc := 148) dX3_make_148 LX3_86 (by omega) rfl (Nat.le_of_ble_eq_true rfl) ?_
        show WP (d + 1) mX3_make none 0 0 151 _ [.int (kThen (τ.1 1 m) ((x50 + 3) / 4)), .int (nI m), .ref (b + 2)] _ _
        refine w_iast (pc := 151) dX3_make_151 hw122.worn (vp_in_nI hm (by omega)) ?_
        rw [hmn, hwn]
        obtain ⟨s151, hs151⟩ : ∃ z : ST, z = tA s122 1 (upd (τ.1 1) m (kThen (τ.1 1 m) ((x50 + 3) / 4))) := ⟨_, rfl⟩
        have hw151 : St b s151 (h122.set (b + 2) (.inl (6, .inl (upd (τ.1 1) m (kThen (τ.1 1 m) ((x50 + 3) / 4)))))) := by rw [hs151]; exact hw122.a1 _
        have ho151 : GOut b 30 h (h122.set (b + 2) (.inl (6, .inl (upd (τ.1 1) m (kThen (τ.1 1 m) ((x50 + 3) / 4)))))) := ho122.set (by omega) (by omega)
        generalize hh151 : (h122.set (b + 2) (.inl (6, .inl (upd (τ.1 1) m (kThen (τ.1 1 m) ((x50 + 3) / 4)))))) = h151 at hw151 ho151 ⊢
        clear hh151
        refine w_aload_n (pc := 152) (i := 0) dX3_make_152 rfl rfl ?_
        refine w_get (pc := 153) dX3_make_153 FX3_29 hw151.1 rfl ?_
        refine w_iload_n (pc := 156) (i := 2) dX3_make_156 rfl rfl ?_
        refine w_iald (pc := 157) dX3_make_157 hw151.worn (vp_in_nI hm (by omega)) ?_
        rw [hmn, show s151.1 1 m = kThen (τ.1 1 m) ((x50 + 3) / 4) from by rw [hs151]; exact if_pos rfl]
        refine w_bipush (pc := 158) (v := 10) dX3_make_158 (by decide) ?_
        refine w_idiv (pc := 160) dX3_make_160 (by decide) ?_
        refine w_iload (pc := 161) (i := 4) dX3_make_161 rfl ?_
        refine w_bipush (pc := 163) (v := 10) dX3_make_163 (by decide) ?_
        refine w_idiv (pc := 165) dX3_make_165 (by decide) ?_
        refine w_icmp_le (pc := 166) (tgt := 187) dX3_make_166 (by decide) (fun c166 => ?_) (fun c166 => ?_)
        · exact w_return (pc := 187) dX3_make_187 rfl ⟨none, rfl, rfl, by unfold rMade; rw [if_pos c166, ← em122, ← hs151]; exact hw151, ho151⟩
        · refine w_aload_n (pc := 169) (i := 0) dX3_make_169 rfl rfl ?_
          refine w_get (pc := 170) dX3_make_170 FX3_25 hw151.1 rfl ?_
          refine w_iload_n (pc := 173) (i := 2) dX3_make_173 rfl rfl ?_
          refine w_iconst (pc := 174) (v := 0) dX3_make_174 (by decide) ?_
          refine w_aload_n (pc := 175) (i := 0) dX3_make_175 rfl rfl ?_
          refine w_get (pc := 176) dX3_make_176 FX3_25 hw151.1 rfl ?_
          refine w_iload_n (pc := 179) (i := 2) dX3_make_179 rfl rfl ?_
          refine w_iald (pc := 180) dX3_make_180 hw151.tight (vp_in_nI hm (by omega)) ?_
          rw [hmn, show s151.1 0 = τ.1 0 from by rw [hs151]; exact htn]
          refine w_iconst (pc := 181) (v := 1) dX3_make_181 (by decide) ?_
          refine w_isub (pc := 182) dX3_make_182 ?_
          refine w_max (pc := 183) dX3_make_183 LX3_102 (by omega) rfl (Nat.le_of_ble_eq_true rfl) ?_
          refine w_iast (pc := 186) dX3_make_186 hw151.tight (vp_in_nI hm (by omega)) ?_
          rw [hmn, show s151.1 0 = τ.1 0 from by rw [hs151]; exact htn]
          obtain ⟨s186, hs186⟩ : ∃ z : ST, z = tA s151 0 (upd (τ.1 0) m (if 0 < τ.1 0 m - 1 then τ.1 0 m - 1 else 0)) := ⟨_, rfl⟩
          have hw186 : St b s186 (h151.set (b + 1) (.inl (6, .inl (upd (τ.1 0) m (if 0 < τ.1 0 m - 1 then τ.1 0 m - 1 else 0))))) := by rw [hs186]; exact hw151.a0 _
          have ho186 : GOut b 30 h (h151.set (b + 1) (.inl (6, .inl (upd (τ.1 0) m (if 0 < τ.1 0 m - 1 then τ.1 0 m - 1 else 0))))) := ho151.set (by omega) (by omega)
          generalize hh186 : (h151.set (b + 1) (.inl (6, .inl (upd (τ.1 0) m (if 0 < τ.1 0 m - 1 then τ.1 0 m - 1 else 0))))) = h186 at hw186 ho186 ⊢
          clear hh186
          exact w_return (pc := 187) dX3_make_187 rfl ⟨none, rfl, rfl, by unfold rMade; rw [if_neg c166, ← em122, ← hs151, ← hs186]; exact hw186, ho186⟩
      · exact w_return (pc := 55) dX3_make_55 rfl ⟨none, rfl, rfl, by rw [← e50, if_pos c52]; exact hw, ho⟩
    · exact w_return (pc := 24) dX3_make_24 rfl ⟨none, rfl, rfl, by unfold rMake; rw [if_pos (Or.inr c21)]; exact hw, ho⟩
end RDAY
