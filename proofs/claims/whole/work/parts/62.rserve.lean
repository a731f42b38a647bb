/-! the reference: serving, a day's end, taking a batch -/
theorem rSvS_1 {p k : Nat} {s : ST} (c : s.2.2.1 k 1 ≤ s.1 2 (s.2.2.1 k 0).toNatClampNeg) : rSvS (p, s) k = (p, rServed s k) := if_pos c
theorem rSvS_2 {p k : Nat} {s : ST} (c : ¬ s.2.2.1 k 1 ≤ s.1 2 (s.2.2.1 k 0).toNatClampNeg) (c2 : s.2.2.1 k 2 - 1 < 0) : rSvS (p, s) k = (p, rLost (rLess s k) k) := (if_neg c).trans (if_pos c2)
theorem rSvS_3 {p k : Nat} {s : ST} (c : ¬ s.2.2.1 k 1 ≤ s.1 2 (s.2.2.1 k 0).toNatClampNeg) (c2 : ¬ s.2.2.1 k 2 - 1 < 0) : rSvS (p, s) k = (p + 1, rCpy (rLess s k) p k 5) := (if_neg c).trans (if_neg c2)
def rTk (τ : ST) (i : Nat) : Nat → ST
  | 0 => tC τ 0 (τ.2.2.2.1 0 - 1)
  | n + 1 => tW (rTk τ i n) (i + n) (pF ((rTk τ i n).2.1 (i + n)) ((rTk τ i n).2.1 (i + n + 1) 0) ((rTk τ i n).2.1 (i + n + 1) 1) ((rTk τ i n).2.1 (i + n + 1) 2) ((rTk τ i n).2.1 (i + n + 1) 3))
theorem rTk_C {τ : ST} {i : Nat} : ∀ n, (rTk τ i n).2.2.2.1 0 = τ.2.2.2.1 0 - 1
  | 0 => rfl
  | n + 1 => rTk_C (τ := τ) (i := i) n
def rTake (τ : ST) (i : Nat) : ST := rTk τ i (τ.2.2.2.1 0 - 1 - i)
section RSERVE
variable {d b : Nat} {τ : ST} {μ : MS} {t : Int32} {h : AH}
set_option maxHeartbeats 1000000 in
theorem c_serve_copy {p k : Nat} (hp : p ≤ k) (hk : k < 8) {P : AO → AH → Prop} (hK : ∀ h2, St b (rCpy τ p k 5) h2 → GOut b 30 h h2 → WP (d + 1) mX3_serve none 0 0 156 [.ref b, .int (nI p), .int (nI k), .ref (b + 22 + k), .int (nI 5)] [] h2 P) : ∀ (m i : Nat) (h2 : AH), i + m = 5 → St b (rCpy τ p k i) h2 → GOut b 30 h h2 → WP (d + 1) mX3_serve none 0 0 131 [.ref b, .int (nI p), .int (nI k), .ref (b + 22 + k), .int (nI i)] [] h2 P := by
  intro m
  induction m with
  | zero =>
    intro i h2 hi hw ho
    have hi : i = 5 := by omega
    subst hi
    refine w_iload (pc := 131) (i := 4) dX3_serve_131 rfl ?_
    refine w_iconst (pc := 133) (v := 5) dX3_serve_133 (by decide) ?_
    refine w_icmp_ge (pc := 134) (tgt := 156) dX3_serve_134 (by decide) (fun c134 => ?_) (fun c134 => absurd (by decide) c134)
    exact hK h2 hw ho
  | succ m ih =>
    intro i h2 hi hw ho
    have hin : (nI i).toNatClampNeg = i := nI_clamp (by omega)
    refine w_iload (pc := 131) (i := 4) dX3_serve_131 rfl ?_
    refine w_iconst (pc := 133) (v := 5) dX3_serve_133 (by decide) ?_
    refine w_icmp_ge (pc := 134) (tgt := 156) dX3_serve_134 (by decide) (fun c134 => absurd (show nI 5 ≤ nI i from c134) (nI_ge (by omega) (by omega))) (fun c134 => ?_)
    refine w_aload_n (pc := 137) (i := 0) dX3_serve_137 rfl rfl ?_
    refine w_get (pc := 138) dX3_serve_138 FX3_40 hw.1 rfl ?_
    refine w_iload_n (pc := 141) (i := 1) dX3_serve_141 rfl rfl ?_
    refine w_aald (pc := 142) dX3_serve_142 hw.order (vp_in_nI (by omega) (by omega)) (rowsAt_nI (by omega) (by omega)) ?_
    refine w_iload (pc := 143) (i := 4) dX3_serve_143 rfl ?_
    refine w_aload_n (pc := 145) (i := 3) dX3_serve_145 rfl rfl ?_
    refine w_iload (pc := 146) (i := 4) dX3_serve_146 rfl ?_
    refine w_iald (pc := 148) dX3_serve_148 (hw.og hk) (vp_in_nI (by omega) (by omega)) ?_
    rw [hin]
    refine w_iast (pc := 149) dX3_serve_149 (hw.og (by omega)) (vp_in_nI (by omega) (by omega)) ?_
    rw [hin]
    obtain ⟨s149, hs149⟩ : ∃ z : ST, z = tO (rCpy τ p k i) (p) (upd ((rCpy τ p k i).2.2.1 p) i ((rCpy τ p k i).2.2.1 k i)) := ⟨_, rfl⟩
    have hw149 : St b s149 (h2.set (b + 22 + (p)) (.inl (5, .inl (upd ((rCpy τ p k i).2.2.1 p) i ((rCpy τ p k i).2.2.1 k i))))) := by rw [hs149]; exact hw.o (by omega) _
    have ho149 : GOut b 30 h (h2.set (b + 22 + (p)) (.inl (5, .inl (upd ((rCpy τ p k i).2.2.1 p) i ((rCpy τ p k i).2.2.1 k i))))) := ho.set (by omega) (by omega)
    show WP _ _ _ _ _ _ _ _ (h2.set (b + 22 + (p)) (.inl (5, .inl (upd ((rCpy τ p k i).2.2.1 p) i ((rCpy τ p k i).2.2.1 k i))))) _
    generalize hh149 : (h2.set (b + 22 + (p)) (.inl (5, .inl (upd ((rCpy τ p k i).2.2.1 p) i ((rCpy τ p k i).2.2.1 k i))))) = h149 at hw149 ho149 ⊢
    clear hh149
    obtain ⟨x150, e150⟩ : ∃ y : Int32, y = (nI i) + 1 := ⟨_, rfl⟩
    refine w_iinc (pc := 150) (i := 4) (y := x150) (ls' := [.ref b, .int (nI p), .int (nI k), .ref (b + 22 + k), .int x150]) dX3_serve_150 rfl (by rw [e150]; rfl) (by decide) rfl rfl rfl ?_
    refine w_goto (pc := 153) (tgt := 131) dX3_serve_153 (by decide) ?_
    obtain rfl : x150 = nI (i + 1) := by rw [e150]; exact nI_1 i
    subst hs149
    exact ih (i + 1) h149 (by omega) hw149 ho149
set_option maxHeartbeats 1000000 in
theorem c_serve_one {p k : Nat} (hw : St b τ h) (hp : p ≤ k) (hk : k < 8) (hv : vp_in (τ.2.2.1 k 0) 25) {P : AO → AH → Prop} (hK : ∀ h2, St b (rSvS (p, τ) k).2 h2 → GOut b 30 h h2 → WP (d + 1) mX3_serve none 0 0 159 [.ref b, .int (nI (rSvS (p, τ) k).1), .int (nI k), vU, vU] [] h2 P) : WP (d + 1) mX3_serve none 0 0 12 [.ref b, .int (nI p), .int (nI k), vU, vU] [] h P := by
  have ho : GOut b 30 h h := GOut.rf
  refine w_aload_n (pc := 12) (i := 0) dX3_serve_12 rfl rfl ?_
  refine w_get (pc := 13) dX3_serve_13 FX3_40 hw.1 rfl ?_
  refine w_iload_n (pc := 16) (i := 2) dX3_serve_16 rfl rfl ?_
  refine w_aald (pc := 17) dX3_serve_17 hw.order (vp_in_nI (by omega) (by omega)) (rowsAt_nI (by omega) (by omega)) ?_
  refine w_topa (fun x18 e18 => ?_)
  refine w_astore_n (pc := 18) (i := 3) (ls' := [.ref b, .int (nI p), .int (nI k), .ref x18, vU]) dX3_serve_18 rfl (by decide) rfl rfl rfl ?_
  subst e18
  refine w_aload_n (pc := 19) (i := 0) dX3_serve_19 rfl rfl ?_
  refine w_get (pc := 20) dX3_serve_20 FX3_37 hw.1 rfl ?_
  refine w_aload_n (pc := 23) (i := 3) dX3_serve_23 rfl rfl ?_
  refine w_iconst (pc := 24) (v := 0) dX3_serve_24 (by decide) ?_
  refine w_iald (pc := 25) dX3_serve_25 (hw.og hk) (vp_in_nI (n := 0) (by omega) (by omega)) ?_
  rw [show Int32.toNatClampNeg 0 = 0 from rfl]
  refine w_iald (pc := 26) dX3_serve_26 hw.store hv ?_
  refine w_aload_n (pc := 27) (i := 3) dX3_serve_27 rfl rfl ?_
  refine w_iconst (pc := 28) (v := 1) dX3_serve_28 (by decide) ?_
  refine w_iald (pc := 29) dX3_serve_29 (hw.og hk) (vp_in_nI (n := 1) (by omega) (by omega)) ?_
  rw [show Int32.toNatClampNeg 1 = 1 from rfl]
  refine w_icmp_lt (pc := 30) (tgt := 87) dX3_serve_30 (by decide) (fun c30 => ?_) (fun c30 => ?_)
  · have hc : ¬ τ.2.2.1 k 1 ≤ τ.1 2 (τ.2.2.1 k 0).toNatClampNeg := Int32.not_le.mpr c30
    refine w_aload_n (pc := 87) (i := 3) dX3_serve_87 rfl rfl ?_
    refine w_iconst (pc := 88) (v := 2) dX3_serve_88 (by decide) ?_
    refine w_dup2 (pc := 89) dX3_serve_89 rfl rfl ?_
    refine w_iald (pc := 90) dX3_serve_90 (hw.og hk) (vp_in_nI (n := 2) (by omega) (by omega)) ?_
    refine w_iconst (pc := 91) (v := 1) dX3_serve_91 (by decide) ?_
    refine w_isub (pc := 92) dX3_serve_92 ?_
    refine w_iast (pc := 93) dX3_serve_93 (hw.og hk) (vp_in_nI (n := 2) (by omega) (by omega)) ?_
    obtain ⟨s93, hs93⟩ : ∃ z : ST, z = tO τ (k) (upd (τ.2.2.1 k) 2 (τ.2.2.1 k 2 - 1)) := ⟨_, rfl⟩
    have hw93 : St b s93 (h.set (b + 22 + (k)) (.inl (5, .inl (upd (τ.2.2.1 k) 2 (τ.2.2.1 k 2 - 1))))) := by rw [hs93]; exact hw.o (by omega) _
    have ho93 : GOut b 30 h (h.set (b + 22 + (k)) (.inl (5, .inl (upd (τ.2.2.1 k) 2 (τ.2.2.1 k 2 - 1))))) := ho.set (by omega) (by omega)
    show WP _ _ _ _ _ _ _ _ (h.set (b + 22 + (k)) (.inl (5, .inl (upd (τ.2.2.1 k) 2 (τ.2.2.1 k 2 - 1))))) _
    generalize hh93 : (h.set (b + 22 + (k)) (.inl (5, .inl (upd (τ.2.2.1 k) 2 (τ.2.2.1 k 2 - 1))))) = h93 at hw93 ho93 ⊢
    clear hh93
    have e93 : s93 = rLess τ k := hs93
    have hv93 : s93.2.2.1 k = upd (τ.2.2.1 k) 2 (τ.2.2.1 k 2 - 1) := by rw [hs93]; exact if_pos rfl
    refine w_aload_n (pc := 94) (i := 3) dX3_serve_94 rfl rfl ?_
    refine w_iconst (pc := 95) (v := 2) dX3_serve_95 (by decide) ?_
    refine w_iald (pc := 96) dX3_serve_96 (hw93.og hk) (vp_in_nI (n := 2) (by omega) (by omega)) ?_
    rw [show Int32.toNatClampNeg 2 = 2 from rfl]
    rw [show s93.2.2.1 k 2 = τ.2.2.1 k 2 - 1 from by rw [hv93]; rfl]
    refine w_if_ge (pc := 97) (tgt := 128) dX3_serve_97 (by decide) (fun c97 => ?_) (fun c97 => ?_)
    · rw [rSvS_3 hc (Int32.not_lt.mpr c97), ← e93] at hK
      refine w_iconst (pc := 128) (v := 0) dX3_serve_128 (by decide) ?_
      refine w_topi (fun x129 e129 => ?_)
      refine w_istore (pc := 129) (i := 4) (ls' := [.ref b, .int (nI p), .int (nI k), .ref (b + 22 + k), .int x129]) dX3_serve_129 (by decide) rfl rfl rfl ?_
      subst e129
      refine c_serve_copy (h := h) hp hk (fun h2 hw2 ho2 => ?_) 5 0 h93 rfl hw93 ho93
      obtain ⟨x156, e156⟩ : ∃ y : Int32, y = (nI p) + 1 := ⟨_, rfl⟩
      refine w_iinc (pc := 156) (i := 1) (y := x156) (ls' := [.ref b, .int x156, .int (nI k), .ref (b + 22 + k), .int (nI 5)]) dX3_serve_156 rfl (by rw [e156]; rfl) (by decide) rfl rfl rfl ?_
      obtain rfl : x156 = nI (p + 1) := by rw [e156]; exact nI_1 p
      exact w_forget 4 rfl (w_forget 3 rfl (hK h2 hw2 ho2))
    · rw [rSvS_2 hc (Int32.not_le.mp c97), ← e93] at hK
      refine w_aload_n (pc := 100) (i := 0) dX3_serve_100 rfl rfl ?_
      refine w_dup (pc := 101) dX3_serve_101 rfl ?_
      refine w_get (pc := 102) dX3_serve_102 FX3_58 hw93.1 rfl ?_
      refine w_iconst (pc := 105) (v := 1) dX3_serve_105 (by decide) ?_
      refine w_iadd (pc := 106) dX3_serve_106 ?_
      refine w_put (pc := 107) dX3_serve_107 UX3_58 hw93.1 (Nat.le_of_ble_eq_true rfl) nv_i (fun _ q => by cases q) ?_
      obtain ⟨s107, hs107⟩ : ∃ z : ST, z = tS s93 7 (s93.2.2.2.2 7 + 1) := ⟨_, rfl⟩
      have hw107 : St b s107 (h93.set b (.inr (3, (stF b s93).set 7 (.int (s93.2.2.2.2 7 + 1))))) := by rw [hs107]; exact hw93.s7 _
      have ho107 : GOut b 30 h (h93.set b (.inr (3, (stF b s93).set 7 (.int (s93.2.2.2.2 7 + 1))))) := ho93.set (by omega) (by omega)
      show WP _ _ _ _ _ _ _ _ (h93.set b (.inr (3, (stF b s93).set 7 (.int (s93.2.2.2.2 7 + 1))))) _
      generalize hh107 : (h93.set b (.inr (3, (stF b s93).set 7 (.int (s93.2.2.2.2 7 + 1))))) = h107 at hw107 ho107 ⊢
      clear hh107
      have e107 : s107.2.2.1 = s93.2.2.1 := by rw [hs107]; rfl
      have f107 : s107.2.2.2.2 8 = s93.2.2.2.2 8 := by rw [hs107]; rfl
      refine w_aload_n (pc := 110) (i := 3) dX3_serve_110 rfl rfl ?_
      refine w_iconst (pc := 111) (v := 4) dX3_serve_111 (by decide) ?_
      refine w_iald (pc := 112) dX3_serve_112 (hw107.og hk) (vp_in_nI (n := 4) (by omega) (by omega)) ?_
      rw [show Int32.toNatClampNeg 4 = 4 from rfl]
      refine w_aload_n (pc := 113) (i := 0) dX3_serve_113 rfl rfl ?_
      refine w_get (pc := 114) dX3_serve_114 FX3_43 hw107.1 rfl ?_
      rw [e107, f107]
      refine w_icmp_ne (pc := 117) (tgt := 159) dX3_serve_117 (by decide) (fun c117 => ?_) (fun c117 => ?_)
      · exact w_forget 3 rfl (hK h107 (by unfold rLost; rw [if_neg c117, ← hs107]; exact hw107) ho107)
      · refine w_aload_n (pc := 120) (i := 0) dX3_serve_120 rfl rfl ?_
        refine w_iconst (pc := 121) (v := 2) dX3_serve_121 (by decide) ?_
        refine w_put (pc := 122) dX3_serve_122 UX3_67 hw107.1 (Nat.le_of_ble_eq_true rfl) nv_i (fun _ q => by cases q) ?_
        obtain ⟨s122, hs122⟩ : ∃ z : ST, z = tS s107 9 (2) := ⟨_, rfl⟩
        have hw122 : St b s122 (h107.set b (.inr (3, (stF b s107).set 16 (.int (2))))) := by rw [hs122]; exact hw107.s9 _
        have ho122 : GOut b 30 h (h107.set b (.inr (3, (stF b s107).set 16 (.int (2))))) := ho107.set (by omega) (by omega)
        show WP _ _ _ _ _ _ _ _ (h107.set b (.inr (3, (stF b s107).set 16 (.int (2))))) _
        generalize hh122 : (h107.set b (.inr (3, (stF b s107).set 16 (.int (2))))) = h122 at hw122 ho122 ⊢
        clear hh122
        refine w_goto (pc := 125) (tgt := 159) dX3_serve_125 (by decide) ?_
        exact w_forget 3 rfl (hK h122 (by unfold rLost; rw [if_pos c117, ← hs107, ← hs122]; exact hw122) ho122)
  · rw [rSvS_1 (Int32.not_lt.mp c30)] at hK
    refine w_aload_n (pc := 33) (i := 0) dX3_serve_33 rfl rfl ?_
    refine w_get (pc := 34) dX3_serve_34 FX3_37 hw.1 rfl ?_
    refine w_aload_n (pc := 37) (i := 3) dX3_serve_37 rfl rfl ?_
    refine w_iconst (pc := 38) (v := 0) dX3_serve_38 (by decide) ?_
    refine w_iald (pc := 39) dX3_serve_39 (hw.og hk) (vp_in_nI (n := 0) (by omega) (by omega)) ?_
    rw [show Int32.toNatClampNeg 0 = 0 from rfl]
    refine w_dup2 (pc := 40) dX3_serve_40 rfl rfl ?_
    refine w_iald (pc := 41) dX3_serve_41 hw.store hv ?_
    refine w_aload_n (pc := 42) (i := 3) dX3_serve_42 rfl rfl ?_
    refine w_iconst (pc := 43) (v := 1) dX3_serve_43 (by decide) ?_
    refine w_iald (pc := 44) dX3_serve_44 (hw.og hk) (vp_in_nI (n := 1) (by omega) (by omega)) ?_
    rw [show Int32.toNatClampNeg 1 = 1 from rfl]
    refine w_isub (pc := 45) dX3_serve_45 ?_
    refine w_iast (pc := 46) dX3_serve_46 hw.store hv ?_
    obtain ⟨s46, hs46⟩ : ∃ z : ST, z = tA τ 2 (upd (τ.1 2) (τ.2.2.1 k 0).toNatClampNeg (τ.1 2 (τ.2.2.1 k 0).toNatClampNeg - τ.2.2.1 k 1)) := ⟨_, rfl⟩
    have hw46 : St b s46 (h.set (b + 20) (.inl (25, .inl (upd (τ.1 2) (τ.2.2.1 k 0).toNatClampNeg (τ.1 2 (τ.2.2.1 k 0).toNatClampNeg - τ.2.2.1 k 1))))) := by rw [hs46]; exact hw.a2 _
    have ho46 : GOut b 30 h (h.set (b + 20) (.inl (25, .inl (upd (τ.1 2) (τ.2.2.1 k 0).toNatClampNeg (τ.1 2 (τ.2.2.1 k 0).toNatClampNeg - τ.2.2.1 k 1))))) := ho.set (by omega) (by omega)
    show WP _ _ _ _ _ _ _ _ (h.set (b + 20) (.inl (25, .inl (upd (τ.1 2) (τ.2.2.1 k 0).toNatClampNeg (τ.1 2 (τ.2.2.1 k 0).toNatClampNeg - τ.2.2.1 k 1))))) _
    generalize hh46 : (h.set (b + 20) (.inl (25, .inl (upd (τ.1 2) (τ.2.2.1 k 0).toNatClampNeg (τ.1 2 (τ.2.2.1 k 0).toNatClampNeg - τ.2.2.1 k 1))))) = h46 at hw46 ho46 ⊢
    clear hh46
    have o46 : s46.2.2.1 = τ.2.2.1 := by rw [hs46]; rfl
    refine w_aload_n (pc := 47) (i := 0) dX3_serve_47 rfl rfl ?_
    refine w_dup (pc := 48) dX3_serve_48 rfl ?_
    refine w_get (pc := 49) dX3_serve_49 FX3_22 hw46.1 rfl ?_
    refine w_aload_n (pc := 52) (i := 3) dX3_serve_52 rfl rfl ?_
    refine w_iconst (pc := 53) (v := 3) dX3_serve_53 (by decide) ?_
    refine w_iald (pc := 54) dX3_serve_54 (hw46.og hk) (vp_in_nI (n := 3) (by omega) (by omega)) ?_
    rw [show Int32.toNatClampNeg 3 = 3 from rfl]
    rw [o46]
    refine w_iadd (pc := 55) dX3_serve_55 ?_
    rw [show s46.2.2.2.2 3 = τ.2.2.2.2 3 from by rw [hs46]; rfl]
    refine w_put (pc := 56) dX3_serve_56 UX3_22 hw46.1 (Nat.le_of_ble_eq_true rfl) nv_i (fun _ q => by cases q) ?_
    obtain ⟨s56, hs56⟩ : ∃ z : ST, z = tS s46 3 (τ.2.2.2.2 3 + τ.2.2.1 k 3) := ⟨_, rfl⟩
    have hw56 : St b s56 (h46.set b (.inr (3, (stF b s46).set 3 (.int (τ.2.2.2.2 3 + τ.2.2.1 k 3))))) := by rw [hs56]; exact hw46.s3 _
    have ho56 : GOut b 30 h (h46.set b (.inr (3, (stF b s46).set 3 (.int (τ.2.2.2.2 3 + τ.2.2.1 k 3))))) := ho46.set (by omega) (by omega)
    show WP _ _ _ _ _ _ _ _ (h46.set b (.inr (3, (stF b s46).set 3 (.int (τ.2.2.2.2 3 + τ.2.2.1 k 3))))) _
    generalize hh56 : (h46.set b (.inr (3, (stF b s46).set 3 (.int (τ.2.2.2.2 3 + τ.2.2.1 k 3))))) = h56 at hw56 ho56 ⊢
    clear hh56
    refine w_aload_n (pc := 59) (i := 0) dX3_serve_59 rfl rfl ?_
    refine w_dup (pc := 60) dX3_serve_60 rfl ?_
    refine w_get (pc := 61) dX3_serve_61 FX3_55 hw56.1 rfl ?_
    refine w_iconst (pc := 64) (v := 1) dX3_serve_64 (by decide) ?_
    refine w_iadd (pc := 65) dX3_serve_65 ?_
    rw [show s56.2.2.2.2 6 = τ.2.2.2.2 6 from by rw [hs56, hs46]; rfl]
    refine w_put (pc := 66) dX3_serve_66 UX3_55 hw56.1 (Nat.le_of_ble_eq_true rfl) nv_i (fun _ q => by cases q) ?_
    obtain ⟨s66, hs66⟩ : ∃ z : ST, z = tS s56 6 (τ.2.2.2.2 6 + 1) := ⟨_, rfl⟩
    have hw66 : St b s66 (h56.set b (.inr (3, (stF b s56).set 6 (.int (τ.2.2.2.2 6 + 1))))) := by rw [hs66]; exact hw56.s6 _
    have ho66 : GOut b 30 h (h56.set b (.inr (3, (stF b s56).set 6 (.int (τ.2.2.2.2 6 + 1))))) := ho56.set (by omega) (by omega)
    show WP _ _ _ _ _ _ _ _ (h56.set b (.inr (3, (stF b s56).set 6 (.int (τ.2.2.2.2 6 + 1))))) _
    generalize hh66 : (h56.set b (.inr (3, (stF b s56).set 6 (.int (τ.2.2.2.2 6 + 1))))) = h66 at hw66 ho66 ⊢
    clear hh66
    have e66 : s66 = rServed1 τ k := by rw [hs66, hs56, hs46]; rfl
    refine w_aload_n (pc := 69) (i := 3) dX3_serve_69 rfl rfl ?_
    refine w_iconst (pc := 70) (v := 4) dX3_serve_70 (by decide) ?_
    refine w_iald (pc := 71) dX3_serve_71 (hw66.og hk) (vp_in_nI (n := 4) (by omega) (by omega)) ?_
    rw [show Int32.toNatClampNeg 4 = 4 from rfl]
    refine w_aload_n (pc := 72) (i := 0) dX3_serve_72 rfl rfl ?_
    refine w_get (pc := 73) dX3_serve_73 FX3_43 hw66.1 rfl ?_
    rw [show s66.2.2.1 k 4 = τ.2.2.1 k 4 from by rw [e66]; rfl, show s66.2.2.2.2 8 = τ.2.2.2.2 8 from by rw [e66]; rfl]
    refine w_icmp_ne (pc := 76) (tgt := 159) dX3_serve_76 (by decide) (fun c76 => ?_) (fun c76 => ?_)
    · exact w_forget 3 rfl (hK h66 (by unfold rServed; rw [if_neg c76, ← e66]; exact hw66) ho66)
    · refine w_aload_n (pc := 79) (i := 0) dX3_serve_79 rfl rfl ?_
      refine w_iconst (pc := 80) (v := 1) dX3_serve_80 (by decide) ?_
      refine w_put (pc := 81) dX3_serve_81 UX3_67 hw66.1 (Nat.le_of_ble_eq_true rfl) nv_i (fun _ q => by cases q) ?_
      obtain ⟨s81, hs81⟩ : ∃ z : ST, z = tS s66 9 (1) := ⟨_, rfl⟩
      have hw81 : St b s81 (h66.set b (.inr (3, (stF b s66).set 16 (.int (1))))) := by rw [hs81]; exact hw66.s9 _
      have ho81 : GOut b 30 h (h66.set b (.inr (3, (stF b s66).set 16 (.int (1))))) := ho66.set (by omega) (by omega)
      show WP _ _ _ _ _ _ _ _ (h66.set b (.inr (3, (stF b s66).set 16 (.int (1))))) _
      generalize hh81 : (h66.set b (.inr (3, (stF b s66).set 16 (.int (1))))) = h81 at hw81 ho81 ⊢
      clear hh81
      refine w_goto (pc := 84) (tgt := 159) dX3_serve_84 (by decide) ?_
      exact w_forget 3 rfl (hK h81 (by unfold rServed; rw [if_pos c76, ← e66, ← hs81]; exact hw81) ho81)
set_option maxHeartbeats 1000000 in
theorem c_serve_loop (h8 : τ.2.2.2.1 1 ≤ 8) (hv : ∀ k, k < τ.2.2.2.1 1 → vp_in (τ.2.2.1 k 0) 25) : ∀ (m k : Nat) (h2 : AH), k + m = τ.2.2.2.1 1 → St b (rSv τ k).2 h2 → GOut b 30 h h2 → WP (d + 1) mX3_serve none 0 0 4 [.ref b, .int (nI (rSv τ k).1), .int (nI k), vU, vU] [] h2 (NT (fun v h1 => v = none ∧ St b (rServe τ) h1 ∧ GOut b 30 h h1)) := by
  intro m
  induction m with
  | zero =>
    intro k h2 hk hw ho
    have hk : k = τ.2.2.2.1 1 := by omega
    obtain ⟨r1, r2, r3⟩ := rSv_row (τ := τ) k
    refine w_iload_n (pc := 4) (i := 2) dX3_serve_4 rfl rfl ?_
    refine w_aload_n (pc := 5) (i := 0) dX3_serve_5 rfl rfl ?_
    refine w_get (pc := 6) dX3_serve_6 FX3_64 hw.1 rfl ?_
    rw [show (rSv τ k).2.2.2.2.1 1 = τ.2.2.2.1 1 from congrFun r2 1]
    refine w_icmp_ge (pc := 9) (tgt := 165) dX3_serve_9 (by decide) (fun c9 => ?_) (fun c9 => absurd (nI_le (by omega) (by omega)) c9)
    refine w_aload_n (pc := 165) (i := 0) dX3_serve_165 rfl rfl ?_
    refine w_iload_n (pc := 166) (i := 1) dX3_serve_166 rfl rfl ?_
    refine w_put (pc := 167) dX3_serve_167 UX3_64 hw.1 (Nat.le_of_ble_eq_true rfl) nv_i (fun _ q => by cases q) ?_
    obtain ⟨s167, hs167⟩ : ∃ z : ST, z = tC (rSv τ k).2 1 ((rSv τ k).1) := ⟨_, rfl⟩
    have hw167 : St b s167 (h2.set b (.inr (3, (stF b (rSv τ k).2).set 13 (.int (nI ((rSv τ k).1)))))) := by rw [hs167]; exact hw.c1 _
    have ho167 : GOut b 30 h (h2.set b (.inr (3, (stF b (rSv τ k).2).set 13 (.int (nI ((rSv τ k).1)))))) := ho.set (by omega) (by omega)
    show WP _ _ _ _ _ _ _ _ (h2.set b (.inr (3, (stF b (rSv τ k).2).set 13 (.int (nI ((rSv τ k).1)))))) _
    generalize hh167 : (h2.set b (.inr (3, (stF b (rSv τ k).2).set 13 (.int (nI ((rSv τ k).1)))))) = h167 at hw167 ho167 ⊢
    clear hh167
    subst hs167
    exact w_return (pc := 170) dX3_serve_170 rfl ⟨none, rfl, rfl, by unfold rServe; rw [← hk]; exact hw167, ho167⟩
  | succ m ih =>
    intro k h2 hk hw ho
    obtain ⟨r1, r2, r3⟩ := rSv_row (τ := τ) k
    refine w_iload_n (pc := 4) (i := 2) dX3_serve_4 rfl rfl ?_
    refine w_aload_n (pc := 5) (i := 0) dX3_serve_5 rfl rfl ?_
    refine w_get (pc := 6) dX3_serve_6 FX3_64 hw.1 rfl ?_
    rw [show (rSv τ k).2.2.2.2.1 1 = τ.2.2.2.1 1 from congrFun r2 1]
    refine w_icmp_ge (pc := 9) (tgt := 165) dX3_serve_9 (by decide) (fun c9 => absurd c9 (nI_ge (by omega) (by omega))) (fun c9 => ?_)
    refine c_serve_one hw r1 (by omega) (by rw [r3 k (Nat.le_refl _)]; exact hv k (by omega)) (fun h3 hw3 ho3 => ?_)
    show WP (d + 1) mX3_serve none 0 0 159 [.ref b, .int (nI (rSv τ (k + 1)).1), .int (nI k), vU, vU] [] h3 _
    obtain ⟨x159, e159⟩ : ∃ y : Int32, y = (nI k) + 1 := ⟨_, rfl⟩
    refine w_iinc (pc := 159) (i := 2) (y := x159) (ls' := [.ref b, .int (nI (rSv τ (k + 1)).1), .int x159, vU, vU]) dX3_serve_159 rfl (by rw [e159]; rfl) (by decide) rfl rfl rfl ?_
    refine w_goto (pc := 162) (tgt := 4) dX3_serve_162 (by decide) ?_
    obtain rfl : x159 = nI (k + 1) := by rw [e159]; exact nI_1 k
    exact ih (k + 1) h3 (by omega) hw3 (ho.tr ho3)
set_option maxHeartbeats 1000000 in
theorem c_serve (hw : St b τ h) (h8 : τ.2.2.2.1 1 ≤ 8) (hv : ∀ k, k < τ.2.2.2.1 1 → vp_in (τ.2.2.1 k 0) 25) : Ct (d + 1) mX3_serve 0 0 [.ref b] h (NT (fun v h1 => v = none ∧ St b (rServe τ) h1 ∧ GOut b 30 h h1)) := by
  refine Ct.of (by decide +kernel) rfl (Nat.le_of_ble_eq_true rfl) ?_
  show WP (d + 1) mX3_serve none 0 0 0 [.ref b, vU, vU, vU, vU] [] h _
  refine w_iconst (pc := 0) (v := 0) dX3_serve_0 (by decide) ?_
  refine w_topi (fun x1 e1 => ?_)
  refine w_istore_n (pc := 1) (i := 1) (ls' := [.ref b, .int x1, vU, vU, vU]) dX3_serve_1 rfl (by decide) rfl rfl rfl ?_
  refine w_iconst (pc := 2) (v := 0) dX3_serve_2 (by decide) ?_
  refine w_topi (fun x3 e3 => ?_)
  refine w_istore_n (pc := 3) (i := 2) (ls' := [.ref b, .int x1, .int x3, vU, vU]) dX3_serve_3 rfl (by decide) rfl rfl rfl ?_
  subst e1
  subst e3
  exact c_serve_loop h8 hv (τ.2.2.2.1 1) 0 h (Nat.zero_add _) hw GOut.rf
set_option maxHeartbeats 1000000 in
theorem c_pass_dry {y : Int32} (hM : Md μ t h) (hb : 32 ≤ b) (hx : vp_in (rIx τ) 7) (hy : y = μ.1 0 (rIx τ).toNatClampNeg) {P : AO → AH → Prop} (hK : ∀ h2, St b (rDr τ y 16) h2 → GOut b 30 h h2 → WP (d + 2) mX3_pass none 0 0 78 [.ref b, .ref (b + 3), .int 16, .int (nI 16), vU] [] h2 P) : ∀ (m k : Nat) (h2 : AH), k + m = 16 → St b (rDr τ y k) h2 → GOut b 30 h h2 → WP (d + 2) mX3_pass none 0 0 34 [.ref b, .ref (b + 3), .int 16, .int (nI k), vU] [] h2 P := by
  intro m
  induction m with
  | zero =>
    intro k h2 hk hw ho
    have hk : k = 16 := by omega
    subst hk
    refine w_iload_n (pc := 34) (i := 3) dX3_pass_34 rfl rfl ?_
    refine w_iload_n (pc := 35) (i := 2) dX3_pass_35 rfl rfl ?_
    refine w_icmp_ge (pc := 36) (tgt := 78) dX3_pass_36 (by decide) (fun c36 => ?_) (fun c36 => absurd (by decide) c36)
    exact w_forget 4 rfl (hK h2 hw ho)
  | succ m ih =>
    intro k h2 hk hw ho
    have hd0 : rIx (rDr τ y k) = rIx τ := by unfold rIx; rw [(rDr_O (τ := τ) (y := y) k).2]
    refine w_iload_n (pc := 34) (i := 3) dX3_pass_34 rfl rfl ?_
    refine w_iload_n (pc := 35) (i := 2) dX3_pass_35 rfl rfl ?_
    refine w_icmp_ge (pc := 36) (tgt := 78) dX3_pass_36 (by decide) (fun c36 => absurd (show nI 16 ≤ nI k from c36) (nI_ge (by omega) (by omega))) (fun c36 => ?_)
    refine w_aload_n (pc := 39) (i := 1) dX3_pass_39 rfl rfl ?_
    refine w_iload_n (pc := 40) (i := 3) dX3_pass_40 rfl rfl ?_
    refine w_aald (pc := 41) dX3_pass_41 hw.ware (vp_in_nI (by omega) (by omega)) (rowsAt_nI (by omega) (by omega)) ?_
    refine w_topa (fun x42 e42 => ?_)
    refine w_astore (pc := 42) (i := 4) (ls' := [.ref b, .ref (b + 3), .int 16, .int (nI k), .ref x42]) dX3_pass_42 (by decide) rfl rfl rfl ?_
    subst e42
    refine w_aload (pc := 44) (i := 4) dX3_pass_44 rfl ?_
    refine w_iconst (pc := 46) (v := 2) dX3_pass_46 (by decide) ?_
    refine w_iconst (pc := 47) (v := 0) dX3_pass_47 (by decide) ?_
    refine w_aload (pc := 48) (i := 4) dX3_pass_48 rfl ?_
    refine w_iconst (pc := 50) (v := 2) dX3_pass_50 (by decide) ?_
    refine w_iald (pc := 51) dX3_pass_51 (hw.wg (by omega)) (vp_in_nI (n := 2) (by omega) (by omega)) ?_
    refine w_aload_n (pc := 52) (i := 0) dX3_pass_52 rfl rfl ?_
    refine w_get (pc := 53) dX3_pass_53 FX3_3 hw.1 rfl ?_
    refine w_get (pc := 56) dX3_pass_56 FX3_112 (hM.out ho (by omega)).1 rfl ?_
    refine w_aload_n (pc := 59) (i := 0) dX3_pass_59 rfl rfl ?_
    refine w_get (pc := 60) dX3_pass_60 FX3_46 hw.1 rfl ?_
    refine w_bipush (pc := 63) (v := 7) dX3_pass_63 (by decide) ?_
    refine w_irem (pc := 65) dX3_pass_65 (by decide) ?_
    show WP (d + 2) mX3_pass none 0 0 66 _ (.int (rIx (rDr τ y k)) :: _) _ _
    rw [hd0]
    refine w_iald (pc := 66) dX3_pass_66 (hM.out ho (by omega)).2.1 hx ?_
    rw [← hy]
    refine w_isub (pc := 67) dX3_pass_67 ?_
    refine w_max (pc := 68) dX3_pass_68 LX3_102 (by omega) rfl (Nat.le_of_ble_eq_true rfl) ?_
    refine w_iast (pc := 71) dX3_pass_71 (hw.wg (by omega)) (vp_in_nI (n := 2) (by omega) (by omega)) ?_
    obtain ⟨s71, hs71⟩ : ∃ z : ST, z = tW (rDr τ y k) (k) (upd ((rDr τ y k).2.1 k) 2 (if 0 < (rDr τ y k).2.1 k 2 - y then (rDr τ y k).2.1 k 2 - y else 0)) := ⟨_, rfl⟩
    have hw71 : St b s71 (h2.set (b + 4 + (k)) (.inl (4, .inl (upd ((rDr τ y k).2.1 k) 2 (if 0 < (rDr τ y k).2.1 k 2 - y then (rDr τ y k).2.1 k 2 - y else 0))))) := by rw [hs71]; exact hw.w (by omega) _
    have ho71 : GOut b 30 h (h2.set (b + 4 + (k)) (.inl (4, .inl (upd ((rDr τ y k).2.1 k) 2 (if 0 < (rDr τ y k).2.1 k 2 - y then (rDr τ y k).2.1 k 2 - y else 0))))) := ho.set (by omega) (by omega)
    show WP _ _ _ _ _ _ _ _ (h2.set (b + 4 + (k)) (.inl (4, .inl (upd ((rDr τ y k).2.1 k) 2 (if 0 < (rDr τ y k).2.1 k 2 - y then (rDr τ y k).2.1 k 2 - y else 0))))) _
    generalize hh71 : (h2.set (b + 4 + (k)) (.inl (4, .inl (upd ((rDr τ y k).2.1 k) 2 (if 0 < (rDr τ y k).2.1 k 2 - y then (rDr τ y k).2.1 k 2 - y else 0))))) = h71 at hw71 ho71 ⊢
    clear hh71
    obtain ⟨x72, e72⟩ : ∃ y : Int32, y = (nI k) + 1 := ⟨_, rfl⟩
    refine w_iinc (pc := 72) (i := 3) (y := x72) (ls' := [.ref b, .ref (b + 3), .int 16, .int x72, .ref (b + 4 + k)]) dX3_pass_72 rfl (by rw [e72]; rfl) (by decide) rfl rfl rfl ?_
    refine w_goto (pc := 75) (tgt := 34) dX3_pass_75 (by decide) ?_
    obtain rfl : x72 = nI (k + 1) := by rw [e72]; exact nI_1 k
    subst hs71
    exact w_forget 4 rfl (ih (k + 1) h71 (by omega) hw71 ho71)
set_option maxHeartbeats 1000000 in
theorem c_pass_make (hM : Md μ t h) (hb : 32 ≤ b) (hT : TB τ) (h5 : μ.2 1 ≤ 5) (hA : ∀ k, k < μ.2 1 → (μ.1 3 k = -1 ∨ ∃ m, m < 6 ∧ μ.1 3 k = nI m ∧ ¬ rClay μ m = 0)) {P : AO → AH → Prop} (hK : ∀ h2, St b (rMakes μ τ (μ.2 1)) h2 → GOut b 30 h h2 → WP (d + 2) mX3_pass none 0 0 24 [.ref b, .int (nI (μ.2 1)), vU, vU, vU] [] h2 P) : ∀ (m k : Nat) (h2 : AH), k + m = μ.2 1 → St b (rMakes μ τ k) h2 → GOut b 30 h h2 → WP (d + 2) mX3_pass none 0 0 2 [.ref b, .int (nI k), vU, vU, vU] [] h2 P := by
  intro m
  induction m with
  | zero =>
    intro k h2 hk hw ho
    have hk : k = μ.2 1 := by omega
    refine w_iload_n (pc := 2) (i := 1) dX3_pass_2 rfl rfl ?_
    refine w_aload_n (pc := 3) (i := 0) dX3_pass_3 rfl rfl ?_
    refine w_get (pc := 4) dX3_pass_4 FX3_3 hw.1 rfl ?_
    refine w_get (pc := 7) dX3_pass_7 FX3_105 (hM.out ho (by omega)).1 rfl ?_
    refine w_icmp_ge (pc := 10) (tgt := 24) dX3_pass_10 (by decide) (fun c10 => ?_) (fun c10 => absurd (nI_le (by omega) (by omega)) c10)
    subst hk
    exact hK h2 hw ho
  | succ m ih =>
    intro k h2 hk hw ho
    refine w_iload_n (pc := 2) (i := 1) dX3_pass_2 rfl rfl ?_
    refine w_aload_n (pc := 3) (i := 0) dX3_pass_3 rfl rfl ?_
    refine w_get (pc := 4) dX3_pass_4 FX3_3 hw.1 rfl ?_
    refine w_get (pc := 7) dX3_pass_7 FX3_105 (hM.out ho (by omega)).1 rfl ?_
    refine w_icmp_ge (pc := 10) (tgt := 24) dX3_pass_10 (by decide) (fun c10 => absurd c10 (nI_ge (by omega) (by omega))) (fun c10 => ?_)
    refine w_aload_n (pc := 13) (i := 0) dX3_pass_13 rfl rfl ?_
    refine w_iload_n (pc := 14) (i := 1) dX3_pass_14 rfl rfl ?_
    refine w_vQ (pc := 15) dX3_pass_15 GX3_108 hw.1 (c_make k hw (hM.out ho (by omega)) hb (rMakes_B hT k) (by omega) (hA k (by omega))) rfl rfl rfl rfl ?_
    rintro v15 h15 ⟨rfl, hw15, hq15⟩
    have ho15 := ho.tr hq15
    obtain ⟨s15, hs15⟩ : ∃ z : ST, z = rMake μ (rMakes μ τ k) k := ⟨_, rfl⟩
    rw [← hs15] at hw15
    obtain ⟨x18, e18⟩ : ∃ y : Int32, y = (nI k) + 1 := ⟨_, rfl⟩
    refine w_iinc (pc := 18) (i := 1) (y := x18) (ls' := [.ref b, .int x18, vU, vU, vU]) dX3_pass_18 rfl (by rw [e18]; rfl) (by decide) rfl rfl rfl ?_
    refine w_goto (pc := 21) (tgt := 2) dX3_pass_21 (by decide) ?_
    obtain rfl : x18 = nI (k + 1) := by rw [e18]; exact nI_1 k
    subst hs15
    exact ih (k + 1) h15 (by omega) hw15 ho15
set_option maxHeartbeats 1000000 in
theorem c_rpass (hw : St b τ h) (hM : Md μ t h) (hb : 32 ≤ b) (hA : MakeOk μ) (hP : PassOk τ) : Ct (d + 2) mX3_pass 0 0 [.ref b] h (NT (fun v h1 => v = none ∧ St b (rPass μ τ) h1 ∧ GOut b 30 h h1)) := by
  refine Ct.of (by decide +kernel) rfl (Nat.le_of_ble_eq_true rfl) ?_
  show WP (d + 2) mX3_pass none 0 0 0 [.ref b, vU, vU, vU, vU] [] h _
  refine w_iconst (pc := 0) (v := 0) dX3_pass_0 (by decide) ?_
  refine w_topi (fun x1 e1 => ?_)
  refine w_istore_n (pc := 1) (i := 1) (ls' := [.ref b, .int x1, vU, vU, vU]) dX3_pass_1 rfl (by decide) rfl rfl rfl ?_
  subst e1
  refine c_pass_make (h := h) hM hb hP.1 hA.1 hA.2 (fun h2 hw2 ho2 => ?_) (μ.2 1) 0 h (Nat.zero_add _) hw GOut.rf
  obtain ⟨o1, o2, o3⟩ := rMakes_O (μ := μ) (τ := τ) (μ.2 1)
  have hx1 : rIx (rMakes μ τ (μ.2 1)) = rIx τ := by unfold rIx; rw [o3]
  refine w_aload_n (pc := 24) (i := 0) dX3_pass_24 rfl rfl ?_
  refine w_get (pc := 25) dX3_pass_25 FX3_34 hw2.1 rfl ?_
  refine w_topa (fun x28 e28 => ?_)
  refine w_astore_n (pc := 28) (i := 1) (ls' := [.ref b, .ref x28, vU, vU, vU]) dX3_pass_28 rfl (by decide) rfl rfl rfl ?_
  subst e28
  refine w_aload_n (pc := 29) (i := 1) dX3_pass_29 rfl rfl ?_
  refine w_alen (pc := 30) dX3_pass_30 (v := 16) hw2.ware rfl ?_
  refine w_topi (fun x31 e31 => ?_)
  refine w_istore_n (pc := 31) (i := 2) (ls' := [.ref b, .ref (b + 3), .int x31, vU, vU]) dX3_pass_31 rfl (by decide) rfl rfl rfl ?_
  refine w_iconst (pc := 32) (v := 0) dX3_pass_32 (by decide) ?_
  refine w_topi (fun x33 e33 => ?_)
  refine w_istore_n (pc := 33) (i := 3) (ls' := [.ref b, .ref (b + 3), .int x31, .int x33, vU]) dX3_pass_33 rfl (by decide) rfl rfl rfl ?_
  subst e31
  subst e33
  refine c_pass_dry (h := h2) (τ := rMakes μ τ (μ.2 1)) (y := rBy μ (rMakes μ τ (μ.2 1))) (hM.out ho2 (by omega)) hb (by rw [hx1]; exact hP.2.1) rfl (fun h3 hw3 ho3 => ?_) 16 0 h2 rfl hw2 GOut.rf
  have hw3 : St b (rPass2 μ τ) h3 := hw3
  have e3 : (rPass2 μ τ).2.2 = (rMakes μ τ (μ.2 1)).2.2 := (rDr_O 16).2
  have n3 : (rPass2 μ τ).2.2.2.1 1 = τ.2.2.2.1 1 := by rw [e3]; exact o2
  have ho33 := ho2.tr ho3
  refine w_aload_n (pc := 78) (i := 0) dX3_pass_78 rfl rfl ?_
  refine w_vQ (pc := 79) dX3_pass_79 GX3_115 hw3.1 (c_serve hw3 (by rw [n3]; exact hP.1.2) (fun k hk => by rw [e3, o1]; exact hP.2.2 k (by rw [← n3]; exact hk))) rfl rfl rfl rfl ?_
  rintro v79 h79 ⟨rfl, hw79, hq79⟩
  have ho79 := ho33.tr hq79
  obtain ⟨s79, hs79⟩ : ∃ z : ST, z = rServe (rPass2 μ τ) := ⟨_, rfl⟩
  rw [← hs79] at hw79
  refine w_aload_n (pc := 82) (i := 0) dX3_pass_82 rfl rfl ?_
  refine w_dup (pc := 83) dX3_pass_83 rfl ?_
  refine w_get (pc := 84) dX3_pass_84 FX3_46 hw79.1 rfl ?_
  refine w_iconst (pc := 87) (v := 1) dX3_pass_87 (by decide) ?_
  refine w_iadd (pc := 88) dX3_pass_88 ?_
  refine w_put (pc := 89) dX3_pass_89 UX3_46 hw79.1 (Nat.le_of_ble_eq_true rfl) nv_i (fun _ q => by cases q) ?_
  obtain ⟨s89, hs89⟩ : ∃ z : ST, z = tS s79 0 (s79.2.2.2.2 0 + 1) := ⟨_, rfl⟩
  have hw89 : St b s89 (h79.set b (.inr (3, (stF b s79).set 0 (.int (s79.2.2.2.2 0 + 1))))) := by rw [hs89]; exact hw79.s0 _
  have ho89 : GOut b 30 h (h79.set b (.inr (3, (stF b s79).set 0 (.int (s79.2.2.2.2 0 + 1))))) := ho79.set (by omega) (by omega)
  show WP _ _ _ _ _ _ _ _ (h79.set b (.inr (3, (stF b s79).set 0 (.int (s79.2.2.2.2 0 + 1))))) _
  generalize hh89 : (h79.set b (.inr (3, (stF b s79).set 0 (.int (s79.2.2.2.2 0 + 1))))) = h89 at hw89 ho89 ⊢
  clear hh89
  subst hs79 hs89
  exact w_return (pc := 92) dX3_pass_92 rfl ⟨none, rfl, rfl, hw89, ho89⟩
set_option maxHeartbeats 1000000 in
theorem c_rpassN_loop (n : Nat) (hn : n ≤ 1000) (hM : Md μ t h) (hb : 32 ≤ b) (hA : MakeOk μ) (hP : ∀ i, i < n → PassOk (rPassN μ τ i)) : ∀ (m k : Nat) (h2 : AH), k + m = n → St b (rPassN μ τ k) h2 → GOut b 30 h h2 → WP (d + 3) mX3_pass_ none 0 0 2 [.ref b, .int (nI n), .int (nI k)] [] h2 (NT (fun v h1 => v = none ∧ St b (rPassN μ τ n) h1 ∧ GOut b 30 h h1)) := by
  intro m
  induction m with
  | zero =>
    intro k h2 hk hw ho
    have hk : k = n := by omega
    subst hk
    refine w_iload_n (pc := 2) (i := 2) dX3_pass__2 rfl rfl ?_
    refine w_iload_n (pc := 3) (i := 1) dX3_pass__3 rfl rfl ?_
    refine w_icmp_ge (pc := 4) (tgt := 17) dX3_pass__4 (by decide) (fun c4 => ?_) (fun c4 => absurd (nI_le (by omega) (by omega)) c4)
    exact w_return (pc := 17) dX3_pass__17 rfl ⟨none, rfl, rfl, hw, ho⟩
  | succ m ih =>
    intro k h2 hk hw ho
    refine w_iload_n (pc := 2) (i := 2) dX3_pass__2 rfl rfl ?_
    refine w_iload_n (pc := 3) (i := 1) dX3_pass__3 rfl rfl ?_
    refine w_icmp_ge (pc := 4) (tgt := 17) dX3_pass__4 (by decide) (fun c4 => absurd c4 (nI_ge (by omega) (by omega))) (fun c4 => ?_)
    refine w_aload_n (pc := 7) (i := 0) dX3_pass__7 rfl rfl ?_
    refine w_vQ (pc := 8) dX3_pass__8 GX3_118 hw.1 (c_rpass hw (hM.out ho (by omega)) hb hA (hP k (by omega))) rfl rfl rfl rfl ?_
    rintro v8 h8 ⟨rfl, hw8, hq8⟩
    have ho8 := ho.tr hq8
    obtain ⟨s8, hs8⟩ : ∃ z : ST, z = rPass μ (rPassN μ τ k) := ⟨_, rfl⟩
    rw [← hs8] at hw8
    obtain ⟨x11, e11⟩ : ∃ y : Int32, y = (nI k) + 1 := ⟨_, rfl⟩
    refine w_iinc (pc := 11) (i := 2) (y := x11) (ls' := [.ref b, .int (nI n), .int x11]) dX3_pass__11 rfl (by rw [e11]; rfl) (by decide) rfl rfl rfl ?_
    refine w_goto (pc := 14) (tgt := 2) dX3_pass__14 (by decide) ?_
    obtain rfl : x11 = nI (k + 1) := by rw [e11]; exact nI_1 k
    subst hs8
    exact ih (k + 1) h8 (by omega) hw8 ho8
set_option maxHeartbeats 1000000 in
theorem c_rpassN (n : Nat) (hn : n ≤ 1000) (hw : St b τ h) (hM : Md μ t h) (hb : 32 ≤ b) (hA : MakeOk μ) (hP : ∀ i, i < n → PassOk (rPassN μ τ i)) : Ct (d + 3) mX3_pass_ 0 0 [.ref b, .int (nI n)] h (NT (fun v h1 => v = none ∧ St b (rPassN μ τ n) h1 ∧ GOut b 30 h h1)) := by
  refine Ct.of (by decide +kernel) rfl (Nat.le_of_ble_eq_true rfl) ?_
  show WP (d + 3) mX3_pass_ none 0 0 0 [.ref b, .int (nI n), vU] [] h _
  refine w_iconst (pc := 0) (v := 0) dX3_pass__0 (by decide) ?_
  refine w_topi (fun x1 e1 => ?_)
  refine w_istore_n (pc := 1) (i := 2) (ls' := [.ref b, .int (nI n), .int x1]) dX3_pass__1 rfl (by decide) rfl rfl rfl ?_
  subst e1
  exact c_rpassN_loop n hn hM hb hA hP n 0 h (Nat.zero_add _) hw GOut.rf
set_option maxHeartbeats 1000000 in
theorem c_takeBatch_loop {i : Nat} (hi : i < τ.2.2.2.1 0) (hT : τ.2.2.2.1 0 ≤ 10) : ∀ (m n : Nat) (h2 : AH), i + n + m = τ.2.2.2.1 0 - 1 → St b (rTk τ i n) h2 → GOut b 30 h h2 → WP (d + 1) mX3_takeBatch none 0 0 12 [.ref b, .int (nI i), .int (nI (i + n))] [] h2 (NT (fun v h1 => v = none ∧ St b (rTake τ i) h1 ∧ GOut b 30 h h1)) := by
  intro m
  induction m with
  | zero =>
    intro n h2 hn hw ho
    have hn : n = τ.2.2.2.1 0 - 1 - i := by omega
    refine w_iload_n (pc := 12) (i := 2) dX3_takeBatch_12 rfl rfl ?_
    refine w_aload_n (pc := 13) (i := 0) dX3_takeBatch_13 rfl rfl ?_
    refine w_get (pc := 14) dX3_takeBatch_14 FX3_61 hw.1 rfl ?_
    rw [rTk_C n]
    refine w_icmp_ge (pc := 17) (tgt := 76) dX3_takeBatch_17 (by decide) (fun c17 => ?_) (fun c17 => absurd (nI_le (by omega) (by omega)) c17)
    subst hn
    exact w_return (pc := 76) dX3_takeBatch_76 rfl ⟨none, rfl, rfl, hw, ho⟩
  | succ m ih =>
    intro n h2 hn hw ho
    refine w_iload_n (pc := 12) (i := 2) dX3_takeBatch_12 rfl rfl ?_
    refine w_aload_n (pc := 13) (i := 0) dX3_takeBatch_13 rfl rfl ?_
    refine w_get (pc := 14) dX3_takeBatch_14 FX3_61 hw.1 rfl ?_
    rw [rTk_C n]
    refine w_icmp_ge (pc := 17) (tgt := 76) dX3_takeBatch_17 (by decide) (fun c17 => absurd c17 (nI_ge (by omega) (by omega))) (fun c17 => ?_)
    refine w_aload_n (pc := 20) (i := 0) dX3_takeBatch_20 rfl rfl ?_
    refine w_aload_n (pc := 21) (i := 0) dX3_takeBatch_21 rfl rfl ?_
    refine w_get (pc := 22) dX3_takeBatch_22 FX3_34 hw.1 rfl ?_
    refine w_iload_n (pc := 25) (i := 2) dX3_takeBatch_25 rfl rfl ?_
    refine w_aald (pc := 26) dX3_takeBatch_26 hw.ware (vp_in_nI (by omega) (by omega)) (rowsAt_nI (by omega) (by omega)) ?_
    refine w_aload_n (pc := 27) (i := 0) dX3_takeBatch_27 rfl rfl ?_
    refine w_get (pc := 28) dX3_takeBatch_28 FX3_34 hw.1 rfl ?_
    refine w_iload_n (pc := 31) (i := 2) dX3_takeBatch_31 rfl rfl ?_
    refine w_iconst (pc := 32) (v := 1) dX3_takeBatch_32 (by decide) ?_
    refine w_iadd (pc := 33) dX3_takeBatch_33 ?_
    rw [nI_1]
    refine w_aald (pc := 34) dX3_takeBatch_34 hw.ware (vp_in_nI (by omega) (by omega)) (rowsAt_nI (by omega) (by omega)) ?_
    refine w_iconst (pc := 35) (v := 0) dX3_takeBatch_35 (by decide) ?_
    refine w_iald (pc := 36) dX3_takeBatch_36 (hw.wg (by omega)) (vp_in_nI (n := 0) (by omega) (by omega)) ?_
    refine w_aload_n (pc := 37) (i := 0) dX3_takeBatch_37 rfl rfl ?_
    refine w_get (pc := 38) dX3_takeBatch_38 FX3_34 hw.1 rfl ?_
    refine w_iload_n (pc := 41) (i := 2) dX3_takeBatch_41 rfl rfl ?_
    refine w_iconst (pc := 42) (v := 1) dX3_takeBatch_42 (by decide) ?_
    refine w_iadd (pc := 43) dX3_takeBatch_43 ?_
    rw [nI_1]
    refine w_aald (pc := 44) dX3_takeBatch_44 hw.ware (vp_in_nI (by omega) (by omega)) (rowsAt_nI (by omega) (by omega)) ?_
    refine w_iconst (pc := 45) (v := 1) dX3_takeBatch_45 (by decide) ?_
    refine w_iald (pc := 46) dX3_takeBatch_46 (hw.wg (by omega)) (vp_in_nI (n := 1) (by omega) (by omega)) ?_
    refine w_aload_n (pc := 47) (i := 0) dX3_takeBatch_47 rfl rfl ?_
    refine w_get (pc := 48) dX3_takeBatch_48 FX3_34 hw.1 rfl ?_
    refine w_iload_n (pc := 51) (i := 2) dX3_takeBatch_51 rfl rfl ?_
    refine w_iconst (pc := 52) (v := 1) dX3_takeBatch_52 (by decide) ?_
    refine w_iadd (pc := 53) dX3_takeBatch_53 ?_
    rw [nI_1]
    refine w_aald (pc := 54) dX3_takeBatch_54 hw.ware (vp_in_nI (by omega) (by omega)) (rowsAt_nI (by omega) (by omega)) ?_
    refine w_iconst (pc := 55) (v := 2) dX3_takeBatch_55 (by decide) ?_
    refine w_iald (pc := 56) dX3_takeBatch_56 (hw.wg (by omega)) (vp_in_nI (n := 2) (by omega) (by omega)) ?_
    refine w_aload_n (pc := 57) (i := 0) dX3_takeBatch_57 rfl rfl ?_
    refine w_get (pc := 58) dX3_takeBatch_58 FX3_34 hw.1 rfl ?_
    refine w_iload_n (pc := 61) (i := 2) dX3_takeBatch_61 rfl rfl ?_
    refine w_iconst (pc := 62) (v := 1) dX3_takeBatch_62 (by decide) ?_
    refine w_iadd (pc := 63) dX3_takeBatch_63 ?_
    rw [nI_1]
    refine w_aald (pc := 64) dX3_takeBatch_64 hw.ware (vp_in_nI (by omega) (by omega)) (rowsAt_nI (by omega) (by omega)) ?_
    refine w_iconst (pc := 65) (v := 3) dX3_takeBatch_65 (by decide) ?_
    refine w_iald (pc := 66) dX3_takeBatch_66 (hw.wg (by omega)) (vp_in_nI (n := 3) (by omega) (by omega)) ?_
    refine w_vV (pc := 67) dX3_takeBatch_67 GX3_98 hw.1 (c_put3 _ _ _ _ (hw.wg (by omega))) rfl rfl rfl rfl ?_
    obtain ⟨s67, hs67⟩ : ∃ z : ST, z = tW (rTk τ i n) (i + n) (pF ((rTk τ i n).2.1 (i + n)) ((rTk τ i n).2.1 (i + n + 1) 0) ((rTk τ i n).2.1 (i + n + 1) 1) ((rTk τ i n).2.1 (i + n + 1) 2) ((rTk τ i n).2.1 (i + n + 1) 3)) := ⟨_, rfl⟩
    have hw67 : St b s67 (h2.set (b + 4 + (i + n)) (.inl (4, .inl (pF ((rTk τ i n).2.1 (i + n)) ((rTk τ i n).2.1 (i + n + 1) 0) ((rTk τ i n).2.1 (i + n + 1) 1) ((rTk τ i n).2.1 (i + n + 1) 2) ((rTk τ i n).2.1 (i + n + 1) 3))))) := by rw [hs67]; exact hw.w (by omega) _
    have ho67 : GOut b 30 h (h2.set (b + 4 + (i + n)) (.inl (4, .inl (pF ((rTk τ i n).2.1 (i + n)) ((rTk τ i n).2.1 (i + n + 1) 0) ((rTk τ i n).2.1 (i + n + 1) 1) ((rTk τ i n).2.1 (i + n + 1) 2) ((rTk τ i n).2.1 (i + n + 1) 3))))) := ho.set (by omega) (by omega)
    show WP _ _ _ _ _ _ _ _ (h2.set (b + 4 + (i + n)) (.inl (4, .inl (pF ((rTk τ i n).2.1 (i + n)) ((rTk τ i n).2.1 (i + n + 1) 0) ((rTk τ i n).2.1 (i + n + 1) 1) ((rTk τ i n).2.1 (i + n + 1) 2) ((rTk τ i n).2.1 (i + n + 1) 3))))) _
    generalize hh67 : (h2.set (b + 4 + (i + n)) (.inl (4, .inl (pF ((rTk τ i n).2.1 (i + n)) ((rTk τ i n).2.1 (i + n + 1) 0) ((rTk τ i n).2.1 (i + n + 1) 1) ((rTk τ i n).2.1 (i + n + 1) 2) ((rTk τ i n).2.1 (i + n + 1) 3))))) = h67 at hw67 ho67 ⊢
    clear hh67
    obtain ⟨x70, e70⟩ : ∃ y : Int32, y = (nI (i + n)) + 1 := ⟨_, rfl⟩
    refine w_iinc (pc := 70) (i := 2) (y := x70) (ls' := [.ref b, .int (nI i), .int x70]) dX3_takeBatch_70 rfl (by rw [e70]; rfl) (by decide) rfl rfl rfl ?_
    refine w_goto (pc := 73) (tgt := 12) dX3_takeBatch_73 (by decide) ?_
    obtain rfl : x70 = nI (i + (n + 1)) := by rw [e70]; exact nI_1 _
    subst hs67
    exact ih (n + 1) h67 (by omega) hw67 ho67
set_option maxHeartbeats 1000000 in
theorem c_takeBatch (i : Nat) (hw : St b τ h) (hi : i < τ.2.2.2.1 0) (hT : τ.2.2.2.1 0 ≤ 10) : Ct (d + 1) mX3_takeBatch 0 0 [.ref b, .int (nI i)] h (NT (fun v h1 => v = none ∧ St b (rTake τ i) h1 ∧ GOut b 30 h h1)) := by
  refine Ct.of (by decide +kernel) rfl (Nat.le_of_ble_eq_true rfl) ?_
  show WP (d + 1) mX3_takeBatch none 0 0 0 [.ref b, .int (nI i), vU] [] h _
  have ho : GOut b 30 h h := GOut.rf
  refine w_aload_n (pc := 0) (i := 0) dX3_takeBatch_0 rfl rfl ?_
  refine w_dup (pc := 1) dX3_takeBatch_1 rfl ?_
  refine w_get (pc := 2) dX3_takeBatch_2 FX3_61 hw.1 rfl ?_
  refine w_iconst (pc := 5) (v := 1) dX3_takeBatch_5 (by decide) ?_
  refine w_isub (pc := 6) dX3_takeBatch_6 ?_
  rw [show nI (τ.2.2.2.1 0) - 1 = nI (τ.2.2.2.1 0 - 1) from pk_sub (a := τ.2.2.2.1 0) (b := 1) (by omega)]
  refine w_put (pc := 7) dX3_takeBatch_7 UX3_61 hw.1 (Nat.le_of_ble_eq_true rfl) nv_i (fun _ q => by cases q) ?_
  obtain ⟨s7, hs7⟩ : ∃ z : ST, z = tC τ 0 (τ.2.2.2.1 0 - 1) := ⟨_, rfl⟩
  have hw7 : St b s7 (h.set b (.inr (3, (stF b τ).set 10 (.int (nI (τ.2.2.2.1 0 - 1)))))) := by rw [hs7]; exact hw.c0 _
  have ho7 : GOut b 30 h (h.set b (.inr (3, (stF b τ).set 10 (.int (nI (τ.2.2.2.1 0 - 1)))))) := ho.set (by omega) (by omega)
  show WP _ _ _ _ _ _ _ _ (h.set b (.inr (3, (stF b τ).set 10 (.int (nI (τ.2.2.2.1 0 - 1)))))) _
  generalize hh7 : (h.set b (.inr (3, (stF b τ).set 10 (.int (nI (τ.2.2.2.1 0 - 1)))))) = h7 at hw7 ho7 ⊢
  clear hh7
  refine w_iload_n (pc := 10) (i := 1) dX3_takeBatch_10 rfl rfl ?_
  refine w_topi (fun x11 e11 => ?_)
  refine w_istore_n (pc := 11) (i := 2) (ls' := [.ref b, .int (nI i), .int x11]) dX3_takeBatch_11 rfl (by decide) rfl rfl rfl ?_
  subst e11
  subst hs7
  exact c_takeBatch_loop hi hT (τ.2.2.2.1 0 - 1 - i) 0 h7 (by omega) hw7 ho7
end RSERVE
