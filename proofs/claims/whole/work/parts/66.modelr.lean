/-! the reference: the model's calls, the others -/
theorem rFr_row {τ : ST} {y : Int32} : ∀ k j, k ≤ j → (rFr τ y k).2.2.1 (10 + j) = τ.2.1 (10 + j)
  | 0, _, _ => rfl
  | k + 1, j, hj => (if_neg (by omega)).trans (rFr_row k j (by omega))
section MODEL3
variable {d : Nat} {μ : MS} {τ : ST} {t : Int32} {h : AH}
set_option maxHeartbeats 1000000 in
theorem c_X4_fire_loop {x : Int32} (hv : ∀ k, k < 6 → vp_in (τ.2.1 (10 + k) 0) 25) : ∀ (m k : Nat) (h2 : AH), k + m = 6 → Rm (μ, (rFr τ x k).2) 0 h2 → GOut 27 65 h h2 → WP (d + 5) mX4_fire none 0 0 65 [.ref 27, .int x, .int (rFr τ x k).1, .int (nI k), vU, vU] [] h2 (NT (fun v h1 => v = some (.int (rFr τ x 6).1) ∧ Rm (μ, (rFr τ x 6).2) 0 h1 ∧ GOut 27 65 h h1)) := by
  intro m
  induction m with
  | zero =>
    intro k h2 hk hp ho
    have hk : k = 6 := by omega
    subst hk
    refine w_iload_n (pc := 65) (i := 3) dX4_fire_65 rfl rfl ?_
    refine w_bipush (pc := 66) (v := 6) dX4_fire_66 (by decide) ?_
    refine w_icmp_ge (pc := 68) (tgt := 157) dX4_fire_68 (by decide) (fun c68 => ?_) (fun c68 => absurd (by decide) c68)
    refine w_iload_n (pc := 157) (i := 2) dX4_fire_157 rfl rfl ?_
    exact w_ireturn (pc := 158) dX4_fire_158 ⟨_, rfl, rfl⟩ ⟨_, rfl, rfl, hp, ho⟩
  | succ m ih =>
    intro k h2 hk hp ho
    have hrow := rFr_row (τ := τ) (y := x) k k (Nat.le_refl _)
    refine w_iload_n (pc := 65) (i := 3) dX4_fire_65 rfl rfl ?_
    refine w_bipush (pc := 66) (v := 6) dX4_fire_66 (by decide) ?_
    refine w_icmp_ge (pc := 68) (tgt := 157) dX4_fire_68 (by decide) (fun c68 => absurd (show nI 6 ≤ nI k from c68) (nI_ge (by omega) (by omega))) (fun c68 => ?_)
    refine w_aload_n (pc := 71) (i := 0) dX4_fire_71 rfl rfl ?_
    refine w_get (pc := 72) dX4_fire_72 FX4_27 hp.1.1 rfl ?_
    refine w_iload_n (pc := 75) (i := 3) dX4_fire_75 rfl rfl ?_
    refine w_vO (pc := 76) dX4_fire_76 GX4_90 hp.2.1.1 (c_saggar k hp.2.1 (by omega)) rfl rfl rfl rfl ?_
    refine w_topa (fun x79 e79 => ?_)
    refine w_astore (pc := 79) (i := 4) (ls' := [.ref 27, .int x, .int (rFr τ x k).1, .int (nI k), .ref x79, vU]) dX4_fire_79 (by decide) rfl rfl rfl ?_
    subst e79
    refine w_aload_n (pc := 81) (i := 0) dX4_fire_81 rfl rfl ?_
    refine w_get (pc := 82) dX4_fire_82 FX4_27 hp.1.1 rfl ?_
    refine w_iload_n (pc := 85) (i := 3) dX4_fire_85 rfl rfl ?_
    refine w_iload_n (pc := 86) (i := 1) dX4_fire_86 rfl rfl ?_
    refine w_vI (pc := 87) dX4_fire_87 GX4_106 hp.2.1.1 (c_breaks k x hp.2.1 (by omega)) rfl rfl rfl rfl ?_
    refine w_topi (fun x90 e90 => ?_)
    refine w_istore (pc := 90) (i := 5) (ls' := [.ref 27, .int x, .int (rFr τ x k).1, .int (nI k), .ref (32 + 4 + (10 + k)), .int x90]) dX4_fire_90 (by decide) rfl rfl rfl ?_
    subst e90
    refine w_aload_n (pc := 92) (i := 0) dX4_fire_92 rfl rfl ?_
    refine w_get (pc := 93) dX4_fire_93 FX4_27 hp.1.1 rfl ?_
    refine w_dup (pc := 96) dX4_fire_96 rfl ?_
    refine w_get (pc := 97) dX4_fire_97 FX4_110 hp.2.1.1 rfl ?_
    refine w_iload (pc := 100) (i := 5) dX4_fire_100 rfl ?_
    refine w_iadd (pc := 102) dX4_fire_102 ?_
    refine w_put (pc := 103) dX4_fire_103 UX4_110 hp.2.1.1 (Nat.le_of_ble_eq_true rfl) nv_i (fun _ q => by cases q) ?_
    obtain ⟨s103, es103⟩ : ∃ z : ST, z = tS (rFr τ x k).2 5 ((rFr τ x k).2.2.2.2.2 5 + rBreaks (rFr τ x k).2 k x) := ⟨_, rfl⟩
    have hp103 : Rm (μ, s103) 0 (h2.set 32 (.inr (3, (stF 32 (rFr τ x k).2).set 5 (.int ((rFr τ x k).2.2.2.2.2 5 + rBreaks (rFr τ x k).2 k x))))) := by rw [es103]; exact hp.st (hp.2.1.s5 _) (GOut.rf.set (by omega) (by omega))
    have ho103 : GOut 27 65 h (h2.set 32 (.inr (3, (stF 32 (rFr τ x k).2).set 5 (.int ((rFr τ x k).2.2.2.2.2 5 + rBreaks (rFr τ x k).2 k x))))) := ho.set (by omega) (by omega)
    show WP _ _ _ _ _ _ _ _ (h2.set 32 (.inr (3, (stF 32 (rFr τ x k).2).set 5 (.int ((rFr τ x k).2.2.2.2.2 5 + rBreaks (rFr τ x k).2 k x))))) _
    generalize hh103 : (h2.set 32 (.inr (3, (stF 32 (rFr τ x k).2).set 5 (.int ((rFr τ x k).2.2.2.2.2 5 + rBreaks (rFr τ x k).2 k x))))) = h103 at hp103 ho103 ⊢
    clear hh103
    have hr103 : s103.2.1 (10 + k) = (rFr τ x k).2.2.1 (10 + k) := by rw [es103]; rfl
    have ha103 : s103.1 2 = (rFr τ x k).2.1 2 := by rw [es103]; rfl
    refine w_iload_n (pc := 106) (i := 2) dX4_fire_106 rfl rfl ?_
    refine w_aload (pc := 107) (i := 4) dX4_fire_107 rfl ?_
    refine w_iconst (pc := 109) (v := 1) dX4_fire_109 (by decide) ?_
    refine w_iald (pc := 110) dX4_fire_110 (hp103.2.1.wg (by omega)) (vp_in_nI (n := 1) (by omega) (by omega)) ?_
    rw [show Int32.toNatClampNeg 1 = 1 from rfl]
    rw [hr103]
    refine w_iload (pc := 111) (i := 5) dX4_fire_111 rfl ?_
    refine w_isub (pc := 113) dX4_fire_113 ?_
    refine w_iadd (pc := 114) dX4_fire_114 ?_
    refine w_topi (fun x115 e115 => ?_)
    refine w_istore_n (pc := 115) (i := 2) (ls' := [.ref 27, .int x, .int x115, .int (nI k), .ref (32 + 4 + (10 + k)), .int (rBreaks (rFr τ x k).2 k x)]) dX4_fire_115 rfl (by decide) rfl rfl rfl ?_
    refine w_aload_n (pc := 116) (i := 0) dX4_fire_116 rfl rfl ?_
    refine w_get (pc := 117) dX4_fire_117 FX4_27 hp103.1.1 rfl ?_
    refine w_get (pc := 120) dX4_fire_120 FX4_113 hp103.2.1.1 rfl ?_
    refine w_aload (pc := 123) (i := 4) dX4_fire_123 rfl ?_
    refine w_iconst (pc := 125) (v := 0) dX4_fire_125 (by decide) ?_
    refine w_iald (pc := 126) dX4_fire_126 (hp103.2.1.wg (by omega)) (vp_in_nI (n := 0) (by omega) (by omega)) ?_
    rw [show Int32.toNatClampNeg 0 = 0 from rfl]
    rw [hr103]
    refine w_dup2 (pc := 127) dX4_fire_127 rfl rfl ?_
    refine w_iald (pc := 128) dX4_fire_128 hp103.2.1.store (by rw [hrow]; exact hv k (by omega)) ?_
    rw [ha103]
    refine w_aload (pc := 129) (i := 4) dX4_fire_129 rfl ?_
    refine w_iconst (pc := 131) (v := 1) dX4_fire_131 (by decide) ?_
    refine w_iald (pc := 132) dX4_fire_132 (hp103.2.1.wg (by omega)) (vp_in_nI (n := 1) (by omega) (by omega)) ?_
    rw [show Int32.toNatClampNeg 1 = 1 from rfl]
    rw [hr103]
    refine w_iload (pc := 133) (i := 5) dX4_fire_133 rfl ?_
    refine w_isub (pc := 135) dX4_fire_135 ?_
    refine w_iadd (pc := 136) dX4_fire_136 ?_
    refine w_iast (pc := 137) dX4_fire_137 hp103.2.1.store (by rw [hrow]; exact hv k (by omega)) ?_
    rw [ha103]
    obtain ⟨s137, es137⟩ : ∃ z : ST, z = tA s103 2 (upd ((rFr τ x k).2.1 2) ((rFr τ x k).2.2.1 (10 + k) 0).toNatClampNeg ((rFr τ x k).2.1 2 ((rFr τ x k).2.2.1 (10 + k) 0).toNatClampNeg + ((rFr τ x k).2.2.1 (10 + k) 1 - rBreaks (rFr τ x k).2 k x))) := ⟨_, rfl⟩
    have hp137 : Rm (μ, s137) 0 (h103.set (32 + 20) (.inl (25, .inl (upd ((rFr τ x k).2.1 2) ((rFr τ x k).2.2.1 (10 + k) 0).toNatClampNeg ((rFr τ x k).2.1 2 ((rFr τ x k).2.2.1 (10 + k) 0).toNatClampNeg + ((rFr τ x k).2.2.1 (10 + k) 1 - rBreaks (rFr τ x k).2 k x)))))) := by rw [es137]; exact hp103.st (hp103.2.1.a2 _) (GOut.rf.set (by omega) (by omega))
    have ho137 : GOut 27 65 h (h103.set (32 + 20) (.inl (25, .inl (upd ((rFr τ x k).2.1 2) ((rFr τ x k).2.2.1 (10 + k) 0).toNatClampNeg ((rFr τ x k).2.1 2 ((rFr τ x k).2.2.1 (10 + k) 0).toNatClampNeg + ((rFr τ x k).2.2.1 (10 + k) 1 - rBreaks (rFr τ x k).2 k x)))))) := ho103.set (by omega) (by omega)
    show WP _ _ _ _ _ _ _ _ (h103.set (32 + 20) (.inl (25, .inl (upd ((rFr τ x k).2.1 2) ((rFr τ x k).2.2.1 (10 + k) 0).toNatClampNeg ((rFr τ x k).2.1 2 ((rFr τ x k).2.2.1 (10 + k) 0).toNatClampNeg + ((rFr τ x k).2.2.1 (10 + k) 1 - rBreaks (rFr τ x k).2 k x)))))) _
    generalize hh137 : (h103.set (32 + 20) (.inl (25, .inl (upd ((rFr τ x k).2.1 2) ((rFr τ x k).2.2.1 (10 + k) 0).toNatClampNeg ((rFr τ x k).2.1 2 ((rFr τ x k).2.2.1 (10 + k) 0).toNatClampNeg + ((rFr τ x k).2.2.1 (10 + k) 1 - rBreaks (rFr τ x k).2 k x)))))) = h137 at hp137 ho137 ⊢
    clear hh137
    have hr137 : s137.2.1 (10 + k) = (rFr τ x k).2.2.1 (10 + k) := by rw [es137]; exact hr103
    refine w_aload_n (pc := 138) (i := 0) dX4_fire_138 rfl rfl ?_
    refine w_get (pc := 139) dX4_fire_139 FX4_27 hp137.1.1 rfl ?_
    refine w_aload (pc := 142) (i := 4) dX4_fire_142 rfl ?_
    refine w_iconst (pc := 144) (v := 0) dX4_fire_144 (by decide) ?_
    refine w_iconst (pc := 145) (v := 0) dX4_fire_145 (by decide) ?_
    refine w_iconst (pc := 146) (v := 0) dX4_fire_146 (by decide) ?_
    refine w_iconst (pc := 147) (v := 0) dX4_fire_147 (by decide) ?_
    refine w_nV (pc := 148) dX4_fire_148 GX4_94 hp137.2.1.1 (c_put3 0 0 0 0 (hp137.2.1.wg (by omega))) rfl rfl rfl rfl ?_
    rw [hr137]
    obtain ⟨s148, es148⟩ : ∃ z : ST, z = tW s137 (10 + k) (pF ((rFr τ x k).2.2.1 (10 + k)) 0 0 0 0) := ⟨_, rfl⟩
    have hp148 : Rm (μ, s148) 0 (h137.set (32 + 4 + (10 + k)) (.inl (4, .inl (pF ((rFr τ x k).2.2.1 (10 + k)) 0 0 0 0)))) := by rw [es148]; exact hp137.st (hp137.2.1.w (by omega) _) (GOut.rf.set (by omega) (by omega))
    have ho148 : GOut 27 65 h (h137.set (32 + 4 + (10 + k)) (.inl (4, .inl (pF ((rFr τ x k).2.2.1 (10 + k)) 0 0 0 0)))) := ho137.set (by omega) (by omega)
    show WP _ _ _ _ _ _ _ _ (h137.set (32 + 4 + (10 + k)) (.inl (4, .inl (pF ((rFr τ x k).2.2.1 (10 + k)) 0 0 0 0)))) _
    generalize hh148 : (h137.set (32 + 4 + (10 + k)) (.inl (4, .inl (pF ((rFr τ x k).2.2.1 (10 + k)) 0 0 0 0)))) = h148 at hp148 ho148 ⊢
    clear hh148
    obtain ⟨x151, e151⟩ : ∃ y : Int32, y = (nI k) + 1 := ⟨_, rfl⟩
    refine w_iinc (pc := 151) (i := 3) (y := x151) (ls' := [.ref 27, .int x, .int x115, .int x151, .ref (32 + 4 + (10 + k)), .int (rBreaks (rFr τ x k).2 k x)]) dX4_fire_151 rfl (by rw [e151]; rfl) (by decide) rfl rfl rfl ?_
    refine w_goto (pc := 154) (tgt := 65) dX4_fire_154 (by decide) ?_
    obtain rfl : x151 = nI (k + 1) := by rw [e151]; exact nI_1 k
    subst e115
    subst es148 es137 es103
    exact w_forget 5 rfl (w_forget 4 rfl (ih (k + 1) h148 (by omega) hp148 ho148))
set_option maxHeartbeats 1000000 in
theorem c_X4_fire (x : Int32) (hp : Rm (μ, τ) t h) (h0 : μ.2 0 ≤ 6) (h1 : μ.2 1 ≤ 5) (hT : TB τ) (hv : ∀ k, k < 6 → vp_in (τ.2.1 (10 + k) 0) 25) : Ct (d + 5) mX4_fire 0 0 [.ref 27, .int x] h (RRet (bFire (μ, τ) x) h) := by
  refine Ct.of (by decide +kernel) rfl (Nat.le_of_ble_eq_true rfl) ?_
  show WP (d + 5) mX4_fire none 0 0 0 [.ref 27, .int x, vU, vU, vU, vU] [] h _
  have ho : GOut 27 65 h h := GOut.rf
  have hT0 := hT.1
  have hT1 := hT.2
  refine w_aload_n (pc := 0) (i := 0) dX4_fire_0 rfl rfl ?_
  refine w_iconst (pc := 1) (v := 0) dX4_fire_1 (by decide) ?_
  refine w_put (pc := 2) dX4_fire_2 UX4_34 hp.1.1 (Nat.le_of_ble_eq_true rfl) nv_i (fun _ q => by cases q) ?_
  have hp2 : Rm (μ, τ) 0 (h.set 27 (.inr (4, (mdF μ t).set 0 (.int 0)))) := by exact hp.md (hp.1.s0 _) (GOut.rf.set (by omega) (by omega))
  have ho2 : GOut 27 65 h (h.set 27 (.inr (4, (mdF μ t).set 0 (.int 0)))) := ho.set (by omega) (by omega)
  show WP _ _ _ _ _ _ _ _ (h.set 27 (.inr (4, (mdF μ t).set 0 (.int 0)))) _
  generalize hh2 : (h.set 27 (.inr (4, (mdF μ t).set 0 (.int 0)))) = h2 at hp2 ho2 ⊢
  clear hh2
  refine w_iload_n (pc := 5) (i := 1) dX4_fire_5 rfl rfl ?_
  refine w_iconst (pc := 6) (v := 1) dX4_fire_6 (by decide) ?_
  refine w_bipush (pc := 7) (v := 30) dX4_fire_7 (by decide) ?_
  refine w_sI (pc := 9) dX4_fire_9 GX4_38 (c_isIn x 1 30 h2) rfl rfl rfl rfl ?_
  refine w_if_ne (pc := 12) (tgt := 21) dX4_fire_12 (by decide) (fun c12 => ?_) (fun c12 => ?_)
  · refine w_aload_n (pc := 21) (i := 0) dX4_fire_21 rfl rfl ?_
    refine w_get (pc := 22) dX4_fire_22 FX4_27 hp2.1.1 rfl ?_
    refine w_get (pc := 25) dX4_fire_25 FX4_77 hp2.2.1.1 rfl ?_
    refine w_iload_n (pc := 28) (i := 1) dX4_fire_28 rfl rfl ?_
    refine w_icmp_lt (pc := 29) (tgt := 42) dX4_fire_29 (by decide) (fun c29 => ?_) (fun c29 => ?_)
    · refine w_aload_n (pc := 42) (i := 0) dX4_fire_42 rfl rfl ?_
      refine w_iconst (pc := 43) (v := 2) dX4_fire_43 (by decide) ?_
      refine w_vQ (pc := 44) dX4_fire_44 GX4_55 hp2.1.1 (c_no 2 hp2) rfl rfl rfl rfl ?_
      rintro vn hn ⟨rfl, hpn, hon⟩
      exact w_ireturn (pc := 47) dX4_fire_47 ⟨_, rfl, rfl⟩ (RRet.of (by unfold bFire; dsimp only; rw [if_neg c12, if_pos c29] <;> rfl) hpn (ho2.tr hon))
    · refine w_aload_n (pc := 32) (i := 0) dX4_fire_32 rfl rfl ?_
      refine w_get (pc := 33) dX4_fire_33 FX4_27 hp2.1.1 rfl ?_
      refine w_vI (pc := 36) dX4_fire_36 GX4_102 hp2.2.1.1 (c_inSaggars hp2.2.1) rfl rfl rfl rfl ?_
      refine w_if_ne (pc := 39) (tgt := 48) dX4_fire_39 (by decide) (fun c39 => ?_) (fun c39 => ?_)
      · refine w_aload_n (pc := 48) (i := 0) dX4_fire_48 rfl rfl ?_
        refine w_get (pc := 49) dX4_fire_49 FX4_27 hp2.1.1 rfl ?_
        refine w_dup (pc := 52) dX4_fire_52 rfl ?_
        refine w_get (pc := 53) dX4_fire_53 FX4_77 hp2.2.1.1 rfl ?_
        refine w_iload_n (pc := 56) (i := 1) dX4_fire_56 rfl rfl ?_
        refine w_isub (pc := 57) dX4_fire_57 ?_
        refine w_put (pc := 58) dX4_fire_58 UX4_77 hp2.2.1.1 (Nat.le_of_ble_eq_true rfl) nv_i (fun _ q => by cases q) ?_
        obtain ⟨s58, es58⟩ : ∃ z : ST, z = tS τ 2 (τ.2.2.2.2 2 - x) := ⟨_, rfl⟩
        have hp58 : Rm (μ, s58) 0 (h2.set 32 (.inr (3, (stF 32 τ).set 2 (.int (τ.2.2.2.2 2 - x))))) := by rw [es58]; exact hp2.st (hp2.2.1.s2 _) (GOut.rf.set (by omega) (by omega))
        have ho58 : GOut 27 65 h (h2.set 32 (.inr (3, (stF 32 τ).set 2 (.int (τ.2.2.2.2 2 - x))))) := ho2.set (by omega) (by omega)
        show WP _ _ _ _ _ _ _ _ (h2.set 32 (.inr (3, (stF 32 τ).set 2 (.int (τ.2.2.2.2 2 - x))))) _
        generalize hh58 : (h2.set 32 (.inr (3, (stF 32 τ).set 2 (.int (τ.2.2.2.2 2 - x))))) = h58 at hp58 ho58 ⊢
        clear hh58
        refine w_iconst (pc := 61) (v := 0) dX4_fire_61 (by decide) ?_
        refine w_topi (fun x62 e62 => ?_)
        refine w_istore_n (pc := 62) (i := 2) (ls' := [.ref 27, .int x, .int x62, vU, vU, vU]) dX4_fire_62 rfl (by decide) rfl rfl rfl ?_
        refine w_iconst (pc := 63) (v := 0) dX4_fire_63 (by decide) ?_
        refine w_topi (fun x64 e64 => ?_)
        refine w_istore_n (pc := 64) (i := 3) (ls' := [.ref 27, .int x, .int x62, .int x64, vU, vU]) dX4_fire_64 rfl (by decide) rfl rfl rfl ?_
        subst e62
        subst e64
        have hL := c_X4_fire_loop (d := d) (h := h) (μ := μ) (x := x) (τ := s58) (by rw [es58]; exact hv) 6 0 h58 rfl hp58 ho58
        rw [show bFire (μ, τ) x = (0, (rFr s58 x 6).1, (μ, (rFr s58 x 6).2)) from (by rw [es58]; unfold bFire; dsimp only; rw [if_neg c12, if_neg (Int32.not_lt.mpr (Int32.not_lt.mp c29)), if_neg c39])]
        exact hL
      · refine w_aload_n (pc := 42) (i := 0) dX4_fire_42 rfl rfl ?_
        refine w_iconst (pc := 43) (v := 2) dX4_fire_43 (by decide) ?_
        refine w_vQ (pc := 44) dX4_fire_44 GX4_55 hp2.1.1 (c_no 2 hp2) rfl rfl rfl rfl ?_
        rintro vn hn ⟨rfl, hpn, hon⟩
        exact w_ireturn (pc := 47) dX4_fire_47 ⟨_, rfl, rfl⟩ (RRet.of (by unfold bFire; dsimp only; rw [if_neg c12, if_neg (Int32.not_lt.mpr (Int32.not_lt.mp c29)), if_pos c39] <;> rfl) hpn (ho2.tr hon))
  · refine w_aload_n (pc := 15) (i := 0) dX4_fire_15 rfl rfl ?_
    refine w_iconst (pc := 16) (v := 1) dX4_fire_16 (by decide) ?_
    refine w_vQ (pc := 17) dX4_fire_17 GX4_55 hp2.1.1 (c_no 1 hp2) rfl rfl rfl rfl ?_
    rintro vn hn ⟨rfl, hpn, hon⟩
    exact w_ireturn (pc := 20) dX4_fire_20 ⟨_, rfl, rfl⟩ (RRet.of (by unfold bFire; dsimp only; rw [if_pos c12] <;> rfl) hpn (ho2.tr hon))
set_option maxHeartbeats 1000000 in
theorem c_X4_order (x y u o : Int32) (hp : Rm (μ, τ) t h) (h0 : μ.2 0 ≤ 6) (h1 : μ.2 1 ≤ 5) (hT : TB τ)  : Ct (d + 5) mX4_order 1 5 [.ref 27, .int x, .int y, .int u, .int o] h (RRet (bOrder (μ, τ) x y u o) h) := by
  refine Ct.of (by decide +kernel) rfl (Nat.le_of_ble_eq_true rfl) ?_
  show WP (d + 5) mX4_order none 1 5 0 [.ref 27, .int x, .int y, .int u, .int o, vU] [] h _
  have ho : GOut 27 65 h h := GOut.rf
  have hT0 := hT.1
  have hT1 := hT.2
  refine w_aload_n (pc := 0) (i := 0) dX4_order_0 rfl rfl ?_
  refine w_iconst (pc := 1) (v := 0) dX4_order_1 (by decide) ?_
  refine w_put (pc := 2) dX4_order_2 UX4_34 hp.1.1 (Nat.le_of_ble_eq_true rfl) nv_i (fun _ q => by cases q) ?_
  have hp2 : Rm (μ, τ) 0 (h.set 27 (.inr (4, (mdF μ t).set 0 (.int 0)))) := by exact hp.md (hp.1.s0 _) (GOut.rf.set (by omega) (by omega))
  have ho2 : GOut 27 65 h (h.set 27 (.inr (4, (mdF μ t).set 0 (.int 0)))) := ho.set (by omega) (by omega)
  show WP _ _ _ _ _ _ _ _ (h.set 27 (.inr (4, (mdF μ t).set 0 (.int 0)))) _
  generalize hh2 : (h.set 27 (.inr (4, (mdF μ t).set 0 (.int 0)))) = h2 at hp2 ho2 ⊢
  clear hh2
  refine w_iload_n (pc := 5) (i := 1) dX4_order_5 rfl rfl ?_
  refine w_sI (pc := 6) dX4_order_6 GX4_51 (c_risLength x h2) rfl rfl rfl rfl ?_
  refine w_if_eq (pc := 9) (tgt := 43) dX4_order_9 (by decide) (fun c9 => ?_) (fun c9 => ?_)
  · refine w_aload_n (pc := 43) (i := 0) dX4_order_43 rfl rfl ?_
    refine w_iconst (pc := 44) (v := 1) dX4_order_44 (by decide) ?_
    refine w_vQ (pc := 45) dX4_order_45 GX4_55 hp2.1.1 (c_no 1 hp2) rfl rfl rfl rfl ?_
    rintro vn hn ⟨rfl, hpn, hon⟩
    exact w_ireturn (pc := 48) dX4_order_48 ⟨_, rfl, rfl⟩ (RRet.of (by unfold bOrder; dsimp only; rw [if_pos c9] <;> rfl) hpn (ho2.tr hon))
  · refine w_iload_n (pc := 12) (i := 2) dX4_order_12 rfl rfl ?_
    refine w_iconst (pc := 13) (v := 1) dX4_order_13 (by decide) ?_
    refine w_bipush (pc := 14) (v := 99) dX4_order_14 (by decide) ?_
    refine w_sI (pc := 16) dX4_order_16 GX4_38 (c_isIn y 1 99 h2) rfl rfl rfl rfl ?_
    refine w_if_eq (pc := 19) (tgt := 43) dX4_order_19 (by decide) (fun c19 => ?_) (fun c19 => ?_)
    · refine w_aload_n (pc := 43) (i := 0) dX4_order_43 rfl rfl ?_
      refine w_iconst (pc := 44) (v := 1) dX4_order_44 (by decide) ?_
      refine w_vQ (pc := 45) dX4_order_45 GX4_55 hp2.1.1 (c_no 1 hp2) rfl rfl rfl rfl ?_
      rintro vn hn ⟨rfl, hpn, hon⟩
      exact w_ireturn (pc := 48) dX4_order_48 ⟨_, rfl, rfl⟩ (RRet.of (by unfold bOrder; dsimp only; rw [if_neg c9, if_pos c19] <;> rfl) hpn (ho2.tr hon))
    · refine w_iload_n (pc := 22) (i := 3) dX4_order_22 rfl rfl ?_
      refine w_iconst (pc := 23) (v := 0) dX4_order_23 (by decide) ?_
      refine w_bipush (pc := 24) (v := 30) dX4_order_24 (by decide) ?_
      refine w_sI (pc := 26) dX4_order_26 GX4_38 (c_isIn u 0 30 h2) rfl rfl rfl rfl ?_
      refine w_if_eq (pc := 29) (tgt := 43) dX4_order_29 (by decide) (fun c29 => ?_) (fun c29 => ?_)
      · refine w_aload_n (pc := 43) (i := 0) dX4_order_43 rfl rfl ?_
        refine w_iconst (pc := 44) (v := 1) dX4_order_44 (by decide) ?_
        refine w_vQ (pc := 45) dX4_order_45 GX4_55 hp2.1.1 (c_no 1 hp2) rfl rfl rfl rfl ?_
        rintro vn hn ⟨rfl, hpn, hon⟩
        exact w_ireturn (pc := 48) dX4_order_48 ⟨_, rfl, rfl⟩ (RRet.of (by unfold bOrder; dsimp only; rw [if_neg c9, if_neg c19, if_pos c29] <;> rfl) hpn (ho2.tr hon))
      · refine w_iload (pc := 32) (i := 4) dX4_order_32 rfl ?_
        refine w_iconst (pc := 34) (v := 1) dX4_order_34 (by decide) ?_
        refine w_bipush (pc := 35) (v := 99) dX4_order_35 (by decide) ?_
        refine w_sI (pc := 37) dX4_order_37 GX4_38 (c_isIn o 1 99 h2) rfl rfl rfl rfl ?_
        refine w_if_ne (pc := 40) (tgt := 49) dX4_order_40 (by decide) (fun c40 => ?_) (fun c40 => ?_)
        · refine w_aload_n (pc := 49) (i := 0) dX4_order_49 rfl rfl ?_
          refine w_get (pc := 50) dX4_order_50 FX4_27 hp2.1.1 rfl ?_
          refine w_get (pc := 53) dX4_order_53 FX4_116 hp2.2.1.1 rfl ?_
          refine w_bipush (pc := 56) (v := 8) dX4_order_56 (by decide) ?_
          refine w_icmp_ne (pc := 58) (tgt := 67) dX4_order_58 (by decide) (fun c58 => ?_) (fun c58 => ?_)
          · have hlt : τ.2.2.2.1 1 < 8 := by have := nI_ne (n := τ.2.2.2.1 1) (m := 8) c58; omega
            refine w_iconst (pc := 67) (v := 5) dX4_order_67 (by decide) ?_
            refine w_newi (pc := 68) (N := 5) (k := 0) (n := 0) dX4_order_68 rfl (by omega) ?_
            obtain ⟨L, hL⟩ : ∃ z : Nat, z = h2.length := ⟨_, rfl⟩
            have hTm : Tmp L 5 (fun _ => 0) h2 (h2 ++ [.inl (5, .inl (fun _ => 0))]) := by rw [hL]; exact Tmp.new
            rw [← hL]
            generalize (h2 ++ [.inl (5, .inl (fun _ => 0))]) = hh at hTm ⊢
            refine w_dup (pc := 70) dX4_order_70 rfl ?_
            refine w_iconst (pc := 71) (v := 0) dX4_order_71 (by decide) ?_
            refine w_iload_n (pc := 72) (i := 1) dX4_order_72 rfl rfl ?_
            refine w_tmp (pc := 73) (j := 0) dX4_order_73 hTm (by omega) (by omega) (fun hh hTm => ?_)
            refine w_dup (pc := 74) dX4_order_74 rfl ?_
            refine w_iconst (pc := 75) (v := 1) dX4_order_75 (by decide) ?_
            refine w_iload_n (pc := 76) (i := 2) dX4_order_76 rfl rfl ?_
            refine w_tmp (pc := 77) (j := 1) dX4_order_77 hTm (by omega) (by omega) (fun hh hTm => ?_)
            refine w_dup (pc := 78) dX4_order_78 rfl ?_
            refine w_iconst (pc := 79) (v := 2) dX4_order_79 (by decide) ?_
            refine w_iload_n (pc := 80) (i := 3) dX4_order_80 rfl rfl ?_
            refine w_tmp (pc := 81) (j := 2) dX4_order_81 hTm (by omega) (by omega) (fun hh hTm => ?_)
            refine w_dup (pc := 82) dX4_order_82 rfl ?_
            refine w_iconst (pc := 83) (v := 3) dX4_order_83 (by decide) ?_
            refine w_iload (pc := 84) (i := 4) dX4_order_84 rfl ?_
            refine w_tmp (pc := 86) (j := 3) dX4_order_86 hTm (by omega) (by omega) (fun hh hTm => ?_)
            refine w_dup (pc := 87) dX4_order_87 rfl ?_
            refine w_iconst (pc := 88) (v := 4) dX4_order_88 (by decide) ?_
            refine w_iconst (pc := 89) (v := 0) dX4_order_89 (by decide) ?_
            refine w_tmp (pc := 90) (j := 4) dX4_order_90 hTm (by omega) (by omega) (fun hh hTm => ?_)
            have hs := hp2.nil hTm.1
            have hos := ho2.tr hTm.1.nil
            have hTm : Tmp L 5 (rOwn x y u o) h2 hh := hTm
            have hlen := hp2.2.1.len
            have hLL := hTm.2.2
            refine w_topa (fun x91 e91 => ?_)
            refine w_astore (pc := 91) (i := 5) (ls' := [.ref 27, .int x, .int y, .int u, .int o, .ref x91]) dX4_order_91 (by decide) rfl rfl rfl ?_
            subst e91
            refine w_aload (pc := 93) (i := 5) dX4_order_93 rfl ?_
            refine w_iconst (pc := 95) (v := 0) dX4_order_95 (by decide) ?_
            refine w_aload_n (pc := 96) (i := 0) dX4_order_96 rfl rfl ?_
            refine w_get (pc := 97) dX4_order_97 FX4_27 hs.1.1 rfl ?_
            refine w_get (pc := 100) dX4_order_100 FX4_119 hs.2.1.1 rfl ?_
            refine w_aload_n (pc := 103) (i := 0) dX4_order_103 rfl rfl ?_
            refine w_get (pc := 104) dX4_order_104 FX4_27 hs.1.1 rfl ?_
            refine w_get (pc := 107) dX4_order_107 FX4_116 hs.2.1.1 rfl ?_
            refine w_aald (pc := 110) dX4_order_110 hs.2.1.order (vp_in_nI hlt (by omega)) (rowsAt_nI hlt (by omega)) ?_
            refine w_iconst (pc := 111) (v := 0) dX4_order_111 (by decide) ?_
            refine w_iconst (pc := 112) (v := 5) dX4_order_112 (by decide) ?_
            refine w_copy (pc := 113) (sp := 0) (dp := 0) (cn := 5) dX4_order_113 LX4_122 (by omega) rfl (Nat.le_of_ble_eq_true rfl) hTm.2.1 (hs.2.1.og hlt) (by omega) (by omega) (by omega) (by omega) ?_
            obtain ⟨s113, es113⟩ : ∃ z : ST, z = tO τ (τ.2.2.2.1 1) (va_cpy (rOwn x y u o) (τ.2.2.1 (τ.2.2.2.1 1)) 0 0 5) := ⟨_, rfl⟩
            have hp113 : Rm (μ, s113) 0 (hh.set (32 + 22 + (τ.2.2.2.1 1)) (.inl (5, .inl (va_cpy (rOwn x y u o) (τ.2.2.1 (τ.2.2.2.1 1)) 0 0 5)))) := by rw [es113]; exact hs.st (hs.2.1.o hlt _) (GOut.rf.set (by omega) (by omega))
            have ho113 : GOut 27 65 h (hh.set (32 + 22 + (τ.2.2.2.1 1)) (.inl (5, .inl (va_cpy (rOwn x y u o) (τ.2.2.1 (τ.2.2.2.1 1)) 0 0 5)))) := hos.set (by omega) (by omega)
            show WP _ _ _ _ _ _ _ _ (hh.set (32 + 22 + (τ.2.2.2.1 1)) (.inl (5, .inl (va_cpy (rOwn x y u o) (τ.2.2.1 (τ.2.2.2.1 1)) 0 0 5)))) _
            generalize hh113 : (hh.set (32 + 22 + (τ.2.2.2.1 1)) (.inl (5, .inl (va_cpy (rOwn x y u o) (τ.2.2.1 (τ.2.2.2.1 1)) 0 0 5)))) = h113 at hp113 ho113 ⊢
            clear hh113
            refine w_aload_n (pc := 116) (i := 0) dX4_order_116 rfl rfl ?_
            refine w_get (pc := 117) dX4_order_117 FX4_27 hp113.1.1 rfl ?_
            refine w_dup (pc := 120) dX4_order_120 rfl ?_
            refine w_get (pc := 121) dX4_order_121 FX4_116 hp113.2.1.1 rfl ?_
            refine w_iconst (pc := 124) (v := 1) dX4_order_124 (by decide) ?_
            refine w_iadd (pc := 125) dX4_order_125 ?_
            rw [nI_1, show s113.2.2.2.1 1 = τ.2.2.2.1 1 from by rw [es113]; rfl]
            refine w_put (pc := 126) dX4_order_126 UX4_116 hp113.2.1.1 (Nat.le_of_ble_eq_true rfl) nv_i (fun _ q => by cases q) ?_
            obtain ⟨s126, es126⟩ : ∃ z : ST, z = tC s113 1 (τ.2.2.2.1 1 + 1) := ⟨_, rfl⟩
            have hp126 : Rm (μ, s126) 0 (h113.set 32 (.inr (3, (stF 32 s113).set 13 (.int (nI (τ.2.2.2.1 1 + 1)))))) := by rw [es126]; exact hp113.st (hp113.2.1.c1 _) (GOut.rf.set (by omega) (by omega))
            have ho126 : GOut 27 65 h (h113.set 32 (.inr (3, (stF 32 s113).set 13 (.int (nI (τ.2.2.2.1 1 + 1)))))) := ho113.set (by omega) (by omega)
            show WP _ _ _ _ _ _ _ _ (h113.set 32 (.inr (3, (stF 32 s113).set 13 (.int (nI (τ.2.2.2.1 1 + 1)))))) _
            generalize hh126 : (h113.set 32 (.inr (3, (stF 32 s113).set 13 (.int (nI (τ.2.2.2.1 1 + 1)))))) = h126 at hp126 ho126 ⊢
            clear hh126
            refine w_aload_n (pc := 129) (i := 0) dX4_order_129 rfl rfl ?_
            refine w_get (pc := 130) dX4_order_130 FX4_27 hp126.1.1 rfl ?_
            refine w_get (pc := 133) dX4_order_133 FX4_116 hp126.2.1.1 rfl ?_
            rw [show s126.2.2.2.1 1 = τ.2.2.2.1 1 + 1 from by rw [es126]; rfl]
            exact w_ireturn (pc := 136) dX4_order_136 ⟨_, rfl, rfl⟩ (RRet.of (by rw [es126, es113]; unfold bOrder; dsimp only; rw [if_neg c9, if_neg c19, if_neg c29, if_neg c40, if_neg c58] <;> rfl) hp126 ho126)
          · refine w_aload_n (pc := 61) (i := 0) dX4_order_61 rfl rfl ?_
            refine w_iconst (pc := 62) (v := 2) dX4_order_62 (by decide) ?_
            refine w_vQ (pc := 63) dX4_order_63 GX4_55 hp2.1.1 (c_no 2 hp2) rfl rfl rfl rfl ?_
            rintro vn hn ⟨rfl, hpn, hon⟩
            exact w_ireturn (pc := 66) dX4_order_66 ⟨_, rfl, rfl⟩ (RRet.of (by unfold bOrder; dsimp only; rw [if_neg c9, if_neg c19, if_neg c29, if_neg c40, if_pos c58] <;> rfl) hpn (ho2.tr hon))
        · refine w_aload_n (pc := 43) (i := 0) dX4_order_43 rfl rfl ?_
          refine w_iconst (pc := 44) (v := 1) dX4_order_44 (by decide) ?_
          refine w_vQ (pc := 45) dX4_order_45 GX4_55 hp2.1.1 (c_no 1 hp2) rfl rfl rfl rfl ?_
          rintro vn hn ⟨rfl, hpn, hon⟩
          exact w_ireturn (pc := 48) dX4_order_48 ⟨_, rfl, rfl⟩ (RRet.of (by unfold bOrder; dsimp only; rw [if_neg c9, if_neg c19, if_neg c29, if_pos c40] <;> rfl) hpn (ho2.tr hon))
set_option maxHeartbeats 1000000 in
theorem c_X4_about (x y : Int32) (hp : Rm (μ, τ) t h) (h0 : μ.2 0 ≤ 6) (h1 : μ.2 1 ≤ 5) (hT : TB τ)  : Ct (d + 5) mX4_about 1 6 [.ref 27, .int x, .int y] h (RRet (bAbout (μ, τ) x y) h) := by
  refine Ct.of (by decide +kernel) rfl (Nat.le_of_ble_eq_true rfl) ?_
  show WP (d + 5) mX4_about none 1 6 0 [.ref 27, .int x, .int y] [] h _
  have ho : GOut 27 65 h h := GOut.rf
  have hT0 := hT.1
  have hT1 := hT.2
  refine w_aload_n (pc := 0) (i := 0) dX4_about_0 rfl rfl ?_
  refine w_iconst (pc := 1) (v := 0) dX4_about_1 (by decide) ?_
  refine w_put (pc := 2) dX4_about_2 UX4_34 hp.1.1 (Nat.le_of_ble_eq_true rfl) nv_i (fun _ q => by cases q) ?_
  have hp2 : Rm (μ, τ) 0 (h.set 27 (.inr (4, (mdF μ t).set 0 (.int 0)))) := by exact hp.md (hp.1.s0 _) (GOut.rf.set (by omega) (by omega))
  have ho2 : GOut 27 65 h (h.set 27 (.inr (4, (mdF μ t).set 0 (.int 0)))) := ho.set (by omega) (by omega)
  show WP _ _ _ _ _ _ _ _ (h.set 27 (.inr (4, (mdF μ t).set 0 (.int 0)))) _
  generalize hh2 : (h.set 27 (.inr (4, (mdF μ t).set 0 (.int 0)))) = h2 at hp2 ho2 ⊢
  clear hh2
  refine w_aload_n (pc := 5) (i := 0) dX4_about_5 rfl rfl ?_
  refine w_iload_n (pc := 6) (i := 1) dX4_about_6 rfl rfl ?_
  refine w_vI (pc := 7) dX4_about_7 GX4_62 hp2.1.1 (c_isMould x hp2) rfl rfl rfl rfl ?_
  refine w_if_eq (pc := 10) (tgt := 31) dX4_about_10 (by decide) (fun c10 => ?_) (fun c10 => ?_)
  · refine w_aload_n (pc := 31) (i := 0) dX4_about_31 rfl rfl ?_
    refine w_iconst (pc := 32) (v := 1) dX4_about_32 (by decide) ?_
    refine w_vQ (pc := 33) dX4_about_33 GX4_55 hp2.1.1 (c_no 1 hp2) rfl rfl rfl rfl ?_
    rintro vn hn ⟨rfl, hpn, hon⟩
    exact w_ireturn (pc := 36) dX4_about_36 ⟨_, rfl, rfl⟩ (RRet.of (by unfold bAbout; dsimp only; rw [if_pos c10] <;> rfl) hpn (ho2.tr hon))
  · refine w_iload_n (pc := 13) (i := 2) dX4_about_13 rfl rfl ?_
    refine w_iconst (pc := 14) (v := 0) dX4_about_14 (by decide) ?_
    refine w_iconst (pc := 15) (v := 5) dX4_about_15 (by decide) ?_
    refine w_sI (pc := 16) dX4_about_16 GX4_38 (c_isIn y 0 5 h2) rfl rfl rfl rfl ?_
    refine w_if_eq (pc := 19) (tgt := 31) dX4_about_19 (by decide) (fun c19 => ?_) (fun c19 => ?_)
    · refine w_aload_n (pc := 31) (i := 0) dX4_about_31 rfl rfl ?_
      refine w_iconst (pc := 32) (v := 1) dX4_about_32 (by decide) ?_
      refine w_vQ (pc := 33) dX4_about_33 GX4_55 hp2.1.1 (c_no 1 hp2) rfl rfl rfl rfl ?_
      rintro vn hn ⟨rfl, hpn, hon⟩
      exact w_ireturn (pc := 36) dX4_about_36 ⟨_, rfl, rfl⟩ (RRet.of (by unfold bAbout; dsimp only; rw [if_neg c10, if_pos c19] <;> rfl) hpn (ho2.tr hon))
    · obtain ⟨x0, hx0, ex0⟩ := hR_of c10 (by omega)
      subst ex0
      have hxn : (nI x0).toNatClampNeg = x0 := nI_clamp (by omega)
      obtain ⟨y0, hy0, ey0⟩ := inB_nat (n := 5) c19 (by omega)
      subst ey0
      have hyn : (nI y0).toNatClampNeg = y0 := nI_clamp (by omega)
      refine w_aload_n (pc := 22) (i := 0) dX4_about_22 rfl rfl ?_
      refine w_iload_n (pc := 23) (i := 1) dX4_about_23 rfl rfl ?_
      refine w_iload_n (pc := 24) (i := 2) dX4_about_24 rfl rfl ?_
      refine w_vQ2 (k1 := 1) (n1 := 6) (k2 := 0) (n2 := 0) (pc := 25) dX4_about_25 GX4_137 hp2.1.1 (c_mouldTold x0 y0 hp2 h1 (by omega) (by omega)) rfl rfl rfl rfl rfl rfl ?_
      rintro v3 h3 ⟨rfl, ho3⟩
      refine w_goto (pc := 28) (tgt := 36) dX4_about_28 (by decide) ?_
      exact w_ireturn (pc := 36) dX4_about_36 ⟨_, rfl, rfl⟩ (RRet.of (by unfold bAbout; dsimp only; rw [if_neg c10, if_neg c19, hxn, hyn] <;> rfl) (hp2.nil ho3) (ho2.tr ho3.nil))
set_option maxHeartbeats 1000000 in
theorem c_X4_told (x y : Int32) (hp : Rm (μ, τ) t h) (h0 : μ.2 0 ≤ 6) (h1 : μ.2 1 ≤ 5) (hT : TB τ)  : Ct (d + 5) mX4_told 0 0 [.ref 27, .int x, .int y] h (RRet (bTold (μ, τ) x y) h) := by
  refine Ct.of (by decide +kernel) rfl (Nat.le_of_ble_eq_true rfl) ?_
  show WP (d + 5) mX4_told none 0 0 0 [.ref 27, .int x, .int y] [] h _
  have ho : GOut 27 65 h h := GOut.rf
  have hT0 := hT.1
  have hT1 := hT.2
  refine w_aload_n (pc := 0) (i := 0) dX4_told_0 rfl rfl ?_
  refine w_iconst (pc := 1) (v := 0) dX4_told_1 (by decide) ?_
  refine w_put (pc := 2) dX4_told_2 UX4_34 hp.1.1 (Nat.le_of_ble_eq_true rfl) nv_i (fun _ q => by cases q) ?_
  have hp2 : Rm (μ, τ) 0 (h.set 27 (.inr (4, (mdF μ t).set 0 (.int 0)))) := by exact hp.md (hp.1.s0 _) (GOut.rf.set (by omega) (by omega))
  have ho2 : GOut 27 65 h (h.set 27 (.inr (4, (mdF μ t).set 0 (.int 0)))) := ho.set (by omega) (by omega)
  show WP _ _ _ _ _ _ _ _ (h.set 27 (.inr (4, (mdF μ t).set 0 (.int 0)))) _
  generalize hh2 : (h.set 27 (.inr (4, (mdF μ t).set 0 (.int 0)))) = h2 at hp2 ho2 ⊢
  clear hh2
  refine w_aload_n (pc := 5) (i := 0) dX4_told_5 rfl rfl ?_
  refine w_iload_n (pc := 6) (i := 1) dX4_told_6 rfl rfl ?_
  refine w_vI (pc := 7) dX4_told_7 GX4_68 hp2.1.1 (c_isMaker x hp2) rfl rfl rfl rfl ?_
  refine w_if_eq (pc := 10) (tgt := 31) dX4_told_10 (by decide) (fun c10 => ?_) (fun c10 => ?_)
  · refine w_aload_n (pc := 31) (i := 0) dX4_told_31 rfl rfl ?_
    refine w_iconst (pc := 32) (v := 1) dX4_told_32 (by decide) ?_
    refine w_vQ (pc := 33) dX4_told_33 GX4_55 hp2.1.1 (c_no 1 hp2) rfl rfl rfl rfl ?_
    rintro vn hn ⟨rfl, hpn, hon⟩
    exact w_ireturn (pc := 36) dX4_told_36 ⟨_, rfl, rfl⟩ (RRet.of (by unfold bTold; dsimp only; rw [if_pos c10] <;> rfl) hpn (ho2.tr hon))
  · refine w_iload_n (pc := 13) (i := 2) dX4_told_13 rfl rfl ?_
    refine w_iconst (pc := 14) (v := 0) dX4_told_14 (by decide) ?_
    refine w_iconst (pc := 15) (v := 1) dX4_told_15 (by decide) ?_
    refine w_sI (pc := 16) dX4_told_16 GX4_38 (c_isIn y 0 1 h2) rfl rfl rfl rfl ?_
    refine w_if_eq (pc := 19) (tgt := 31) dX4_told_19 (by decide) (fun c19 => ?_) (fun c19 => ?_)
    · refine w_aload_n (pc := 31) (i := 0) dX4_told_31 rfl rfl ?_
      refine w_iconst (pc := 32) (v := 1) dX4_told_32 (by decide) ?_
      refine w_vQ (pc := 33) dX4_told_33 GX4_55 hp2.1.1 (c_no 1 hp2) rfl rfl rfl rfl ?_
      rintro vn hn ⟨rfl, hpn, hon⟩
      exact w_ireturn (pc := 36) dX4_told_36 ⟨_, rfl, rfl⟩ (RRet.of (by unfold bTold; dsimp only; rw [if_neg c10, if_pos c19] <;> rfl) hpn (ho2.tr hon))
    · obtain ⟨x0, hx0, ex0⟩ := hR_of c10 (by omega)
      subst ex0
      have hxn : (nI x0).toNatClampNeg = x0 := nI_clamp (by omega)
      refine w_aload_n (pc := 22) (i := 0) dX4_told_22 rfl rfl ?_
      refine w_iload_n (pc := 23) (i := 1) dX4_told_23 rfl rfl ?_
      refine w_iload_n (pc := 24) (i := 2) dX4_told_24 rfl rfl ?_
      refine w_vI (pc := 25) dX4_told_25 GX4_140 hp2.1.1 (c_makerTold x0 y hp2 (by omega)) rfl rfl rfl rfl ?_
      refine w_goto (pc := 28) (tgt := 36) dX4_told_28 (by decide) ?_
      exact w_ireturn (pc := 36) dX4_told_36 ⟨_, rfl, rfl⟩ (RRet.of (by unfold bTold; dsimp only; rw [if_neg c10, if_neg c19, hxn] <;> rfl) hp2 ho2)
set_option maxHeartbeats 1000000 in
theorem c_X4_batch (x y : Int32) (hp : Rm (μ, τ) t h) (h0 : μ.2 0 ≤ 6) (h1 : μ.2 1 ≤ 5) (hT : TB τ)  : Ct (d + 5) mX4_batch 0 0 [.ref 27, .int x, .int y] h (RRet (bBatch (μ, τ) x y) h) := by
  refine Ct.of (by decide +kernel) rfl (Nat.le_of_ble_eq_true rfl) ?_
  show WP (d + 5) mX4_batch none 0 0 0 [.ref 27, .int x, .int y] [] h _
  have ho : GOut 27 65 h h := GOut.rf
  have hT0 := hT.1
  have hT1 := hT.2
  refine w_aload_n (pc := 0) (i := 0) dX4_batch_0 rfl rfl ?_
  refine w_iconst (pc := 1) (v := 0) dX4_batch_1 (by decide) ?_
  refine w_put (pc := 2) dX4_batch_2 UX4_34 hp.1.1 (Nat.le_of_ble_eq_true rfl) nv_i (fun _ q => by cases q) ?_
  have hp2 : Rm (μ, τ) 0 (h.set 27 (.inr (4, (mdF μ t).set 0 (.int 0)))) := by exact hp.md (hp.1.s0 _) (GOut.rf.set (by omega) (by omega))
  have ho2 : GOut 27 65 h (h.set 27 (.inr (4, (mdF μ t).set 0 (.int 0)))) := ho.set (by omega) (by omega)
  show WP _ _ _ _ _ _ _ _ (h.set 27 (.inr (4, (mdF μ t).set 0 (.int 0)))) _
  generalize hh2 : (h.set 27 (.inr (4, (mdF μ t).set 0 (.int 0)))) = h2 at hp2 ho2 ⊢
  clear hh2
  refine w_aload_n (pc := 5) (i := 0) dX4_batch_5 rfl rfl ?_
  refine w_iload_n (pc := 6) (i := 1) dX4_batch_6 rfl rfl ?_
  refine w_vI (pc := 7) dX4_batch_7 GX4_80 hp2.1.1 (c_isBatch x hp2) rfl rfl rfl rfl ?_
  refine w_if_eq (pc := 10) (tgt := 36) dX4_batch_10 (by decide) (fun c10 => ?_) (fun c10 => ?_)
  · refine w_aload_n (pc := 36) (i := 0) dX4_batch_36 rfl rfl ?_
    refine w_iconst (pc := 37) (v := 1) dX4_batch_37 (by decide) ?_
    refine w_vQ (pc := 38) dX4_batch_38 GX4_55 hp2.1.1 (c_no 1 hp2) rfl rfl rfl rfl ?_
    rintro vn hn ⟨rfl, hpn, hon⟩
    exact w_ireturn (pc := 41) dX4_batch_41 ⟨_, rfl, rfl⟩ (RRet.of (by unfold bBatch; dsimp only; rw [if_pos c10] <;> rfl) hpn (ho2.tr hon))
  · refine w_iload_n (pc := 13) (i := 2) dX4_batch_13 rfl rfl ?_
    refine w_iconst (pc := 14) (v := 0) dX4_batch_14 (by decide) ?_
    refine w_iconst (pc := 15) (v := 3) dX4_batch_15 (by decide) ?_
    refine w_sI (pc := 16) dX4_batch_16 GX4_38 (c_isIn y 0 3 h2) rfl rfl rfl rfl ?_
    refine w_if_eq (pc := 19) (tgt := 36) dX4_batch_19 (by decide) (fun c19 => ?_) (fun c19 => ?_)
    · refine w_aload_n (pc := 36) (i := 0) dX4_batch_36 rfl rfl ?_
      refine w_iconst (pc := 37) (v := 1) dX4_batch_37 (by decide) ?_
      refine w_vQ (pc := 38) dX4_batch_38 GX4_55 hp2.1.1 (c_no 1 hp2) rfl rfl rfl rfl ?_
      rintro vn hn ⟨rfl, hpn, hon⟩
      exact w_ireturn (pc := 41) dX4_batch_41 ⟨_, rfl, rfl⟩ (RRet.of (by unfold bBatch; dsimp only; rw [if_neg c10, if_pos c19] <;> rfl) hpn (ho2.tr hon))
    · obtain ⟨x0, hx0, ex0⟩ := hR_of c10 (by omega)
      subst ex0
      have hxn : (nI x0).toNatClampNeg = x0 := nI_clamp (by omega)
      obtain ⟨y0, hy0, ey0⟩ := inB_nat (n := 3) c19 (by omega)
      subst ey0
      have hyn : (nI y0).toNatClampNeg = y0 := nI_clamp (by omega)
      refine w_aload_n (pc := 22) (i := 0) dX4_batch_22 rfl rfl ?_
      refine w_get (pc := 23) dX4_batch_23 FX4_27 hp2.1.1 rfl ?_
      refine w_get (pc := 26) dX4_batch_26 FX4_86 hp2.2.1.1 rfl ?_
      refine w_iload_n (pc := 29) (i := 1) dX4_batch_29 rfl rfl ?_
      refine w_aald (pc := 30) dX4_batch_30 hp2.2.1.ware (vp_in_nI (by omega) (by omega)) (rowsAt_nI (by omega) (by omega)) ?_
      refine w_iload_n (pc := 31) (i := 2) dX4_batch_31 rfl rfl ?_
      refine w_iald (pc := 32) dX4_batch_32 (hp2.2.1.wg (by omega)) (vp_in_nI (by omega) (by omega)) ?_
      rw [hyn]
      refine w_goto (pc := 33) (tgt := 41) dX4_batch_33 (by decide) ?_
      exact w_ireturn (pc := 41) dX4_batch_41 ⟨_, rfl, rfl⟩ (RRet.of (by unfold bBatch; dsimp only; rw [if_neg c10, if_neg c19, hxn, hyn] <;> rfl) hp2 ho2)
set_option maxHeartbeats 1000000 in
theorem c_X4_saggar (x y : Int32) (hp : Rm (μ, τ) t h) (h0 : μ.2 0 ≤ 6) (h1 : μ.2 1 ≤ 5) (hT : TB τ)  : Ct (d + 5) mX4_saggar 0 0 [.ref 27, .int x, .int y] h (RRet (bSaggar (μ, τ) x y) h) := by
  refine Ct.of (by decide +kernel) rfl (Nat.le_of_ble_eq_true rfl) ?_
  show WP (d + 5) mX4_saggar none 0 0 0 [.ref 27, .int x, .int y] [] h _
  have ho : GOut 27 65 h h := GOut.rf
  have hT0 := hT.1
  have hT1 := hT.2
  refine w_aload_n (pc := 0) (i := 0) dX4_saggar_0 rfl rfl ?_
  refine w_iconst (pc := 1) (v := 0) dX4_saggar_1 (by decide) ?_
  refine w_put (pc := 2) dX4_saggar_2 UX4_34 hp.1.1 (Nat.le_of_ble_eq_true rfl) nv_i (fun _ q => by cases q) ?_
  have hp2 : Rm (μ, τ) 0 (h.set 27 (.inr (4, (mdF μ t).set 0 (.int 0)))) := by exact hp.md (hp.1.s0 _) (GOut.rf.set (by omega) (by omega))
  have ho2 : GOut 27 65 h (h.set 27 (.inr (4, (mdF μ t).set 0 (.int 0)))) := ho.set (by omega) (by omega)
  show WP _ _ _ _ _ _ _ _ (h.set 27 (.inr (4, (mdF μ t).set 0 (.int 0)))) _
  generalize hh2 : (h.set 27 (.inr (4, (mdF μ t).set 0 (.int 0)))) = h2 at hp2 ho2 ⊢
  clear hh2
  refine w_iload_n (pc := 5) (i := 1) dX4_saggar_5 rfl rfl ?_
  refine w_sI (pc := 6) dX4_saggar_6 GX4_83 (c_isSaggar x h2) rfl rfl rfl rfl ?_
  refine w_if_eq (pc := 9) (tgt := 34) dX4_saggar_9 (by decide) (fun c9 => ?_) (fun c9 => ?_)
  · refine w_aload_n (pc := 34) (i := 0) dX4_saggar_34 rfl rfl ?_
    refine w_iconst (pc := 35) (v := 1) dX4_saggar_35 (by decide) ?_
    refine w_vQ (pc := 36) dX4_saggar_36 GX4_55 hp2.1.1 (c_no 1 hp2) rfl rfl rfl rfl ?_
    rintro vn hn ⟨rfl, hpn, hon⟩
    exact w_ireturn (pc := 39) dX4_saggar_39 ⟨_, rfl, rfl⟩ (RRet.of (by unfold bSaggar; dsimp only; rw [if_pos c9] <;> rfl) hpn (ho2.tr hon))
  · refine w_iload_n (pc := 12) (i := 2) dX4_saggar_12 rfl rfl ?_
    refine w_iconst (pc := 13) (v := 0) dX4_saggar_13 (by decide) ?_
    refine w_iconst (pc := 14) (v := 3) dX4_saggar_14 (by decide) ?_
    refine w_sI (pc := 15) dX4_saggar_15 GX4_38 (c_isIn y 0 3 h2) rfl rfl rfl rfl ?_
    refine w_if_eq (pc := 18) (tgt := 34) dX4_saggar_18 (by decide) (fun c18 => ?_) (fun c18 => ?_)
    · refine w_aload_n (pc := 34) (i := 0) dX4_saggar_34 rfl rfl ?_
      refine w_iconst (pc := 35) (v := 1) dX4_saggar_35 (by decide) ?_
      refine w_vQ (pc := 36) dX4_saggar_36 GX4_55 hp2.1.1 (c_no 1 hp2) rfl rfl rfl rfl ?_
      rintro vn hn ⟨rfl, hpn, hon⟩
      exact w_ireturn (pc := 39) dX4_saggar_39 ⟨_, rfl, rfl⟩ (RRet.of (by unfold bSaggar; dsimp only; rw [if_neg c9, if_pos c18] <;> rfl) hpn (ho2.tr hon))
    · obtain ⟨x0, hx0, ex0⟩ := inB_nat (n := 5) c9 (by omega)
      subst ex0
      have hxn : (nI x0).toNatClampNeg = x0 := nI_clamp (by omega)
      obtain ⟨y0, hy0, ey0⟩ := inB_nat (n := 3) c18 (by omega)
      subst ey0
      have hyn : (nI y0).toNatClampNeg = y0 := nI_clamp (by omega)
      refine w_aload_n (pc := 21) (i := 0) dX4_saggar_21 rfl rfl ?_
      refine w_get (pc := 22) dX4_saggar_22 FX4_27 hp2.1.1 rfl ?_
      refine w_iload_n (pc := 25) (i := 1) dX4_saggar_25 rfl rfl ?_
      refine w_vO (pc := 26) dX4_saggar_26 GX4_90 hp2.2.1.1 (c_saggar x0 hp2.2.1 (by omega)) rfl rfl rfl rfl ?_
      refine w_iload_n (pc := 29) (i := 2) dX4_saggar_29 rfl rfl ?_
      refine w_iald (pc := 30) dX4_saggar_30 (hp2.2.1.wg (by omega)) (vp_in_nI (by omega) (by omega)) ?_
      rw [hyn]
      refine w_goto (pc := 31) (tgt := 39) dX4_saggar_31 (by decide) ?_
      exact w_ireturn (pc := 39) dX4_saggar_39 ⟨_, rfl, rfl⟩ (RRet.of (by unfold bSaggar; dsimp only; rw [if_neg c9, if_neg c18, hxn, hyn] <;> rfl) hp2 ho2)
set_option maxHeartbeats 1000000 in
theorem c_X4_waits (x y : Int32) (hp : Rm (μ, τ) t h) (h0 : μ.2 0 ≤ 6) (h1 : μ.2 1 ≤ 5) (hT : TB τ)  : Ct (d + 5) mX4_waits 0 0 [.ref 27, .int x, .int y] h (RRet (bWaits (μ, τ) x y) h) := by
  refine Ct.of (by decide +kernel) rfl (Nat.le_of_ble_eq_true rfl) ?_
  show WP (d + 5) mX4_waits none 0 0 0 [.ref 27, .int x, .int y] [] h _
  have ho : GOut 27 65 h h := GOut.rf
  have hT0 := hT.1
  have hT1 := hT.2
  refine w_aload_n (pc := 0) (i := 0) dX4_waits_0 rfl rfl ?_
  refine w_iconst (pc := 1) (v := 0) dX4_waits_1 (by decide) ?_
  refine w_put (pc := 2) dX4_waits_2 UX4_34 hp.1.1 (Nat.le_of_ble_eq_true rfl) nv_i (fun _ q => by cases q) ?_
  have hp2 : Rm (μ, τ) 0 (h.set 27 (.inr (4, (mdF μ t).set 0 (.int 0)))) := by exact hp.md (hp.1.s0 _) (GOut.rf.set (by omega) (by omega))
  have ho2 : GOut 27 65 h (h.set 27 (.inr (4, (mdF μ t).set 0 (.int 0)))) := ho.set (by omega) (by omega)
  show WP _ _ _ _ _ _ _ _ (h.set 27 (.inr (4, (mdF μ t).set 0 (.int 0)))) _
  generalize hh2 : (h.set 27 (.inr (4, (mdF μ t).set 0 (.int 0)))) = h2 at hp2 ho2 ⊢
  clear hh2
  refine w_aload_n (pc := 5) (i := 0) dX4_waits_5 rfl rfl ?_
  refine w_iload_n (pc := 6) (i := 1) dX4_waits_6 rfl rfl ?_
  refine w_vI (pc := 7) dX4_waits_7 GX4_143 hp2.1.1 (c_isWaiting x hp2) rfl rfl rfl rfl ?_
  refine w_if_eq (pc := 10) (tgt := 36) dX4_waits_10 (by decide) (fun c10 => ?_) (fun c10 => ?_)
  · refine w_aload_n (pc := 36) (i := 0) dX4_waits_36 rfl rfl ?_
    refine w_iconst (pc := 37) (v := 1) dX4_waits_37 (by decide) ?_
    refine w_vQ (pc := 38) dX4_waits_38 GX4_55 hp2.1.1 (c_no 1 hp2) rfl rfl rfl rfl ?_
    rintro vn hn ⟨rfl, hpn, hon⟩
    exact w_ireturn (pc := 41) dX4_waits_41 ⟨_, rfl, rfl⟩ (RRet.of (by unfold bWaits; dsimp only; rw [if_pos c10] <;> rfl) hpn (ho2.tr hon))
  · refine w_iload_n (pc := 13) (i := 2) dX4_waits_13 rfl rfl ?_
    refine w_iconst (pc := 14) (v := 0) dX4_waits_14 (by decide) ?_
    refine w_iconst (pc := 15) (v := 3) dX4_waits_15 (by decide) ?_
    refine w_sI (pc := 16) dX4_waits_16 GX4_38 (c_isIn y 0 3 h2) rfl rfl rfl rfl ?_
    refine w_if_eq (pc := 19) (tgt := 36) dX4_waits_19 (by decide) (fun c19 => ?_) (fun c19 => ?_)
    · refine w_aload_n (pc := 36) (i := 0) dX4_waits_36 rfl rfl ?_
      refine w_iconst (pc := 37) (v := 1) dX4_waits_37 (by decide) ?_
      refine w_vQ (pc := 38) dX4_waits_38 GX4_55 hp2.1.1 (c_no 1 hp2) rfl rfl rfl rfl ?_
      rintro vn hn ⟨rfl, hpn, hon⟩
      exact w_ireturn (pc := 41) dX4_waits_41 ⟨_, rfl, rfl⟩ (RRet.of (by unfold bWaits; dsimp only; rw [if_neg c10, if_pos c19] <;> rfl) hpn (ho2.tr hon))
    · obtain ⟨x0, hx0, ex0⟩ := hR_of c10 (by omega)
      subst ex0
      have hxn : (nI x0).toNatClampNeg = x0 := nI_clamp (by omega)
      obtain ⟨y0, hy0, ey0⟩ := inB_nat (n := 3) c19 (by omega)
      subst ey0
      have hyn : (nI y0).toNatClampNeg = y0 := nI_clamp (by omega)
      refine w_aload_n (pc := 22) (i := 0) dX4_waits_22 rfl rfl ?_
      refine w_get (pc := 23) dX4_waits_23 FX4_27 hp2.1.1 rfl ?_
      refine w_get (pc := 26) dX4_waits_26 FX4_119 hp2.2.1.1 rfl ?_
      refine w_iload_n (pc := 29) (i := 1) dX4_waits_29 rfl rfl ?_
      refine w_aald (pc := 30) dX4_waits_30 hp2.2.1.order (vp_in_nI (by omega) (by omega)) (rowsAt_nI (by omega) (by omega)) ?_
      refine w_iload_n (pc := 31) (i := 2) dX4_waits_31 rfl rfl ?_
      refine w_iald (pc := 32) dX4_waits_32 (hp2.2.1.og (by omega)) (vp_in_nI (by omega) (by omega)) ?_
      rw [hyn]
      refine w_goto (pc := 33) (tgt := 41) dX4_waits_33 (by decide) ?_
      exact w_ireturn (pc := 41) dX4_waits_41 ⟨_, rfl, rfl⟩ (RRet.of (by unfold bWaits; dsimp only; rw [if_neg c10, if_neg c19, hxn, hyn] <;> rfl) hp2 ho2)
set_option maxHeartbeats 1000000 in
theorem c_X4_store (x : Int32) (hp : Rm (μ, τ) t h) (h0 : μ.2 0 ≤ 6) (h1 : μ.2 1 ≤ 5) (hT : TB τ)  : Ct (d + 5) mX4_store 0 0 [.ref 27, .int x] h (RRet (bStore (μ, τ) x) h) := by
  refine Ct.of (by decide +kernel) rfl (Nat.le_of_ble_eq_true rfl) ?_
  show WP (d + 5) mX4_store none 0 0 0 [.ref 27, .int x] [] h _
  have ho : GOut 27 65 h h := GOut.rf
  have hT0 := hT.1
  have hT1 := hT.2
  refine w_aload_n (pc := 0) (i := 0) dX4_store_0 rfl rfl ?_
  refine w_iconst (pc := 1) (v := 0) dX4_store_1 (by decide) ?_
  refine w_put (pc := 2) dX4_store_2 UX4_34 hp.1.1 (Nat.le_of_ble_eq_true rfl) nv_i (fun _ q => by cases q) ?_
  have hp2 : Rm (μ, τ) 0 (h.set 27 (.inr (4, (mdF μ t).set 0 (.int 0)))) := by exact hp.md (hp.1.s0 _) (GOut.rf.set (by omega) (by omega))
  have ho2 : GOut 27 65 h (h.set 27 (.inr (4, (mdF μ t).set 0 (.int 0)))) := ho.set (by omega) (by omega)
  show WP _ _ _ _ _ _ _ _ (h.set 27 (.inr (4, (mdF μ t).set 0 (.int 0)))) _
  generalize hh2 : (h.set 27 (.inr (4, (mdF μ t).set 0 (.int 0)))) = h2 at hp2 ho2 ⊢
  clear hh2
  refine w_iload_n (pc := 5) (i := 1) dX4_store_5 rfl rfl ?_
  refine w_sI (pc := 6) dX4_store_6 GX4_51 (c_risLength x h2) rfl rfl rfl rfl ?_
  refine w_if_eq (pc := 9) (tgt := 24) dX4_store_9 (by decide) (fun c9 => ?_) (fun c9 => ?_)
  · refine w_aload_n (pc := 24) (i := 0) dX4_store_24 rfl rfl ?_
    refine w_iconst (pc := 25) (v := 1) dX4_store_25 (by decide) ?_
    refine w_vQ (pc := 26) dX4_store_26 GX4_55 hp2.1.1 (c_no 1 hp2) rfl rfl rfl rfl ?_
    rintro vn hn ⟨rfl, hpn, hon⟩
    exact w_ireturn (pc := 29) dX4_store_29 ⟨_, rfl, rfl⟩ (RRet.of (by unfold bStore; dsimp only; rw [if_pos c9] <;> rfl) hpn (ho2.tr hon))
  · have hv : vp_in x 25 := vin (fun q => Int32.lt_irrefl (Int32.lt_of_le_of_lt (Int32.le_trans (show (0 : Int32) ≤ 4 by decide) (inB_of c9).1) q)) (fun q => Int32.lt_irrefl (Int32.lt_of_lt_of_le (show (24 : Int32) < nI 25 by decide) (Int32.le_trans q (inB_of c9).2))) (by omega)
    refine w_aload_n (pc := 12) (i := 0) dX4_store_12 rfl rfl ?_
    refine w_get (pc := 13) dX4_store_13 FX4_27 hp2.1.1 rfl ?_
    refine w_get (pc := 16) dX4_store_16 FX4_113 hp2.2.1.1 rfl ?_
    refine w_iload_n (pc := 19) (i := 1) dX4_store_19 rfl rfl ?_
    refine w_iald (pc := 20) dX4_store_20 hp2.2.1.store hv ?_
    refine w_goto (pc := 21) (tgt := 29) dX4_store_21 (by decide) ?_
    exact w_ireturn (pc := 29) dX4_store_29 ⟨_, rfl, rfl⟩ (RRet.of (by unfold bStore; dsimp only; rw [if_neg c9] <;> rfl) hp2 ho2)
set_option maxHeartbeats 1000000 in
theorem c_X4_count (x : Int32) (hp : Rm (μ, τ) t h) (h0 : μ.2 0 ≤ 6) (h1 : μ.2 1 ≤ 5) (hT : TB τ)  : Ct (d + 5) mX4_count 1 12 [.ref 27, .int x] h (RRet (bCount (μ, τ) x) h) := by
  refine Ct.of (by decide +kernel) rfl (Nat.le_of_ble_eq_true rfl) ?_
  show WP (d + 5) mX4_count none 1 12 0 [.ref 27, .int x] [] h _
  have ho : GOut 27 65 h h := GOut.rf
  have hT0 := hT.1
  have hT1 := hT.2
  refine w_aload_n (pc := 0) (i := 0) dX4_count_0 rfl rfl ?_
  refine w_iconst (pc := 1) (v := 0) dX4_count_1 (by decide) ?_
  refine w_put (pc := 2) dX4_count_2 UX4_34 hp.1.1 (Nat.le_of_ble_eq_true rfl) nv_i (fun _ q => by cases q) ?_
  have hp2 : Rm (μ, τ) 0 (h.set 27 (.inr (4, (mdF μ t).set 0 (.int 0)))) := by exact hp.md (hp.1.s0 _) (GOut.rf.set (by omega) (by omega))
  have ho2 : GOut 27 65 h (h.set 27 (.inr (4, (mdF μ t).set 0 (.int 0)))) := ho.set (by omega) (by omega)
  show WP _ _ _ _ _ _ _ _ (h.set 27 (.inr (4, (mdF μ t).set 0 (.int 0)))) _
  generalize hh2 : (h.set 27 (.inr (4, (mdF μ t).set 0 (.int 0)))) = h2 at hp2 ho2 ⊢
  clear hh2
  refine w_iload_n (pc := 5) (i := 1) dX4_count_5 rfl rfl ?_
  refine w_iconst (pc := 6) (v := 0) dX4_count_6 (by decide) ?_
  refine w_bipush (pc := 7) (v := 11) dX4_count_7 (by decide) ?_
  refine w_sI (pc := 9) dX4_count_9 GX4_38 (c_isIn x 0 11 h2) rfl rfl rfl rfl ?_
  refine w_if_eq (pc := 12) (tgt := 26) dX4_count_12 (by decide) (fun c12 => ?_) (fun c12 => ?_)
  · refine w_aload_n (pc := 26) (i := 0) dX4_count_26 rfl rfl ?_
    refine w_iconst (pc := 27) (v := 1) dX4_count_27 (by decide) ?_
    refine w_vQ (pc := 28) dX4_count_28 GX4_55 hp2.1.1 (c_no 1 hp2) rfl rfl rfl rfl ?_
    rintro vn hn ⟨rfl, hpn, hon⟩
    exact w_ireturn (pc := 31) dX4_count_31 ⟨_, rfl, rfl⟩ (RRet.of (by unfold bCount; dsimp only; rw [if_pos c12] <;> rfl) hpn (ho2.tr hon))
  · obtain ⟨x0, hx0, ex0⟩ := inB_nat (n := 11) c12 (by omega)
    subst ex0
    have hxn : (nI x0).toNatClampNeg = x0 := nI_clamp (by omega)
    refine w_aload_n (pc := 15) (i := 0) dX4_count_15 rfl rfl ?_
    refine w_get (pc := 16) dX4_count_16 FX4_27 hp2.1.1 rfl ?_
    refine w_iload_n (pc := 19) (i := 1) dX4_count_19 rfl rfl ?_
    refine w_vQ2 (k1 := 1) (n1 := 12) (k2 := 0) (n2 := 0) (pc := 20) dX4_count_20 GX4_146 hp2.2.1.1 (c_rcounted x0 hp2.2.1 hT (by omega)) rfl rfl rfl rfl rfl rfl ?_
    rintro v3 h3 ⟨rfl, ho3⟩
    refine w_goto (pc := 23) (tgt := 31) dX4_count_23 (by decide) ?_
    exact w_ireturn (pc := 31) dX4_count_31 ⟨_, rfl, rfl⟩ (RRet.of (by unfold bCount; dsimp only; rw [if_neg c12, hxn] <;> rfl) (hp2.nil ho3) (ho2.tr ho3.nil))
set_option maxHeartbeats 1000000 in
theorem c_X4_pass (x : Int32) (hp : Rm (μ, τ) t h) (h0 : μ.2 0 ≤ 6) (h1 : μ.2 1 ≤ 5) (hT : TB τ) (hA : MakeOk μ) (hP : ∀ i, i < 40 → PassOk (rPassN μ τ i)) : Ct (d + 5) mX4_pass 0 0 [.ref 27, .int x] h (RRet (bPass (μ, τ) x) h) := by
  refine Ct.of (by decide +kernel) rfl (Nat.le_of_ble_eq_true rfl) ?_
  show WP (d + 5) mX4_pass none 0 0 0 [.ref 27, .int x, vU] [] h _
  have ho : GOut 27 65 h h := GOut.rf
  have hT0 := hT.1
  have hT1 := hT.2
  refine w_aload_n (pc := 0) (i := 0) dX4_pass_0 rfl rfl ?_
  refine w_iconst (pc := 1) (v := 0) dX4_pass_1 (by decide) ?_
  refine w_put (pc := 2) dX4_pass_2 UX4_34 hp.1.1 (Nat.le_of_ble_eq_true rfl) nv_i (fun _ q => by cases q) ?_
  have hp2 : Rm (μ, τ) 0 (h.set 27 (.inr (4, (mdF μ t).set 0 (.int 0)))) := by exact hp.md (hp.1.s0 _) (GOut.rf.set (by omega) (by omega))
  have ho2 : GOut 27 65 h (h.set 27 (.inr (4, (mdF μ t).set 0 (.int 0)))) := ho.set (by omega) (by omega)
  show WP _ _ _ _ _ _ _ _ (h.set 27 (.inr (4, (mdF μ t).set 0 (.int 0)))) _
  generalize hh2 : (h.set 27 (.inr (4, (mdF μ t).set 0 (.int 0)))) = h2 at hp2 ho2 ⊢
  clear hh2
  refine w_iload_n (pc := 5) (i := 1) dX4_pass_5 rfl rfl ?_
  refine w_iconst (pc := 6) (v := 1) dX4_pass_6 (by decide) ?_
  refine w_bipush (pc := 7) (v := 40) dX4_pass_7 (by decide) ?_
  refine w_sI (pc := 9) dX4_pass_9 GX4_38 (c_isIn x 1 40 h2) rfl rfl rfl rfl ?_
  refine w_if_ne (pc := 12) (tgt := 21) dX4_pass_12 (by decide) (fun c12 => ?_) (fun c12 => ?_)
  · obtain ⟨x0, hx0, ex0⟩ := inB_pos (n := 40) c12 (by decide) (by omega)
    subst ex0
    have hxn : (nI x0).toNatClampNeg = x0 := nI_clamp (by omega)
    refine w_aload_n (pc := 21) (i := 0) dX4_pass_21 rfl rfl ?_
    refine w_get (pc := 22) dX4_pass_22 FX4_27 hp2.1.1 rfl ?_
    refine w_get (pc := 25) dX4_pass_25 FX4_149 hp2.2.1.1 rfl ?_
    refine w_topi (fun x28 e28 => ?_)
    refine w_istore_n (pc := 28) (i := 2) (ls' := [.ref 27, .int (nI x0), .int x28]) dX4_pass_28 rfl (by decide) rfl rfl rfl ?_
    subst e28
    refine w_aload_n (pc := 29) (i := 0) dX4_pass_29 rfl rfl ?_
    refine w_get (pc := 30) dX4_pass_30 FX4_27 hp2.1.1 rfl ?_
    refine w_iload_n (pc := 33) (i := 1) dX4_pass_33 rfl rfl ?_
    refine w_vQ (pc := 34) dX4_pass_34 GX4_152 hp2.2.1.1 (c_rpassN x0 (by omega) hp2.2.1 hp2.1 (by omega) hA (fun i hi => hP i (by omega))) rfl rfl rfl rfl ?_
    rintro v3 h3 ⟨rfl, hw3, ho3⟩
    have hp3 := hp2.st hw3 ho3
    refine w_aload_n (pc := 37) (i := 0) dX4_pass_37 rfl rfl ?_
    refine w_get (pc := 38) dX4_pass_38 FX4_27 hp3.1.1 rfl ?_
    refine w_get (pc := 41) dX4_pass_41 FX4_149 hp3.2.1.1 rfl ?_
    refine w_iload_n (pc := 44) (i := 2) dX4_pass_44 rfl rfl ?_
    refine w_isub (pc := 45) dX4_pass_45 ?_
    exact w_ireturn (pc := 46) dX4_pass_46 ⟨_, rfl, rfl⟩ (RRet.of (by unfold bPass; dsimp only; rw [if_neg c12, hxn] <;> rfl) hp3 (ho2.tr (ho3.mono (by omega) (by omega))))
  · refine w_aload_n (pc := 15) (i := 0) dX4_pass_15 rfl rfl ?_
    refine w_iconst (pc := 16) (v := 1) dX4_pass_16 (by decide) ?_
    refine w_vQ (pc := 17) dX4_pass_17 GX4_55 hp2.1.1 (c_no 1 hp2) rfl rfl rfl rfl ?_
    rintro vn hn ⟨rfl, hpn, hon⟩
    exact w_ireturn (pc := 20) dX4_pass_20 ⟨_, rfl, rfl⟩ (RRet.of (by unfold bPass; dsimp only; rw [if_pos c12] <;> rfl) hpn (ho2.tr hon))
set_option maxHeartbeats 1000000 in
theorem c_X4_breaks (x y : Int32) (hp : Rm (μ, τ) t h) (h0 : μ.2 0 ≤ 6) (h1 : μ.2 1 ≤ 5) (hT : TB τ)  : Ct (d + 5) mX4_breaks 0 0 [.ref 27, .int x, .int y] h (RRet (bBreaks (μ, τ) x y) h) := by
  refine Ct.of (by decide +kernel) rfl (Nat.le_of_ble_eq_true rfl) ?_
  show WP (d + 5) mX4_breaks none 0 0 0 [.ref 27, .int x, .int y] [] h _
  have ho : GOut 27 65 h h := GOut.rf
  have hT0 := hT.1
  have hT1 := hT.2
  refine w_aload_n (pc := 0) (i := 0) dX4_breaks_0 rfl rfl ?_
  refine w_iconst (pc := 1) (v := 0) dX4_breaks_1 (by decide) ?_
  refine w_put (pc := 2) dX4_breaks_2 UX4_34 hp.1.1 (Nat.le_of_ble_eq_true rfl) nv_i (fun _ q => by cases q) ?_
  have hp2 : Rm (μ, τ) 0 (h.set 27 (.inr (4, (mdF μ t).set 0 (.int 0)))) := by exact hp.md (hp.1.s0 _) (GOut.rf.set (by omega) (by omega))
  have ho2 : GOut 27 65 h (h.set 27 (.inr (4, (mdF μ t).set 0 (.int 0)))) := ho.set (by omega) (by omega)
  show WP _ _ _ _ _ _ _ _ (h.set 27 (.inr (4, (mdF μ t).set 0 (.int 0)))) _
  generalize hh2 : (h.set 27 (.inr (4, (mdF μ t).set 0 (.int 0)))) = h2 at hp2 ho2 ⊢
  clear hh2
  refine w_iload_n (pc := 5) (i := 1) dX4_breaks_5 rfl rfl ?_
  refine w_sI (pc := 6) dX4_breaks_6 GX4_83 (c_isSaggar x h2) rfl rfl rfl rfl ?_
  refine w_if_ne (pc := 9) (tgt := 18) dX4_breaks_9 (by decide) (fun c9 => ?_) (fun c9 => ?_)
  · obtain ⟨x0, hx0, ex0⟩ := inB_nat (n := 5) c9 (by omega)
    subst ex0
    have hxn : (nI x0).toNatClampNeg = x0 := nI_clamp (by omega)
    refine w_iload_n (pc := 18) (i := 2) dX4_breaks_18 rfl rfl ?_
    refine w_iconst (pc := 19) (v := 1) dX4_breaks_19 (by decide) ?_
    refine w_bipush (pc := 20) (v := 30) dX4_breaks_20 (by decide) ?_
    refine w_sI (pc := 22) dX4_breaks_22 GX4_38 (c_isIn y 1 30 h2) rfl rfl rfl rfl ?_
    refine w_if_eq (pc := 25) (tgt := 40) dX4_breaks_25 (by decide) (fun c25 => ?_) (fun c25 => ?_)
    · refine w_aload_n (pc := 40) (i := 0) dX4_breaks_40 rfl rfl ?_
      refine w_iconst (pc := 41) (v := 2) dX4_breaks_41 (by decide) ?_
      refine w_vQ (pc := 42) dX4_breaks_42 GX4_55 hp2.1.1 (c_no 2 hp2) rfl rfl rfl rfl ?_
      rintro vn hn ⟨rfl, hpn, hon⟩
      exact w_ireturn (pc := 45) dX4_breaks_45 ⟨_, rfl, rfl⟩ (RRet.of (by unfold bBreaks; dsimp only; rw [if_neg c9, if_pos c25]) hpn (ho2.tr hon))
    · refine w_aload_n (pc := 28) (i := 0) dX4_breaks_28 rfl rfl ?_
      refine w_get (pc := 29) dX4_breaks_29 FX4_27 hp2.1.1 rfl ?_
      refine w_iload_n (pc := 32) (i := 1) dX4_breaks_32 rfl rfl ?_
      refine w_iload_n (pc := 33) (i := 2) dX4_breaks_33 rfl rfl ?_
      refine w_vI (pc := 34) dX4_breaks_34 GX4_106 hp2.2.1.1 (c_breaks x0 y hp2.2.1 (by omega)) rfl rfl rfl rfl ?_
      refine w_goto (pc := 37) (tgt := 45) dX4_breaks_37 (by decide) ?_
      exact w_ireturn (pc := 45) dX4_breaks_45 ⟨_, rfl, rfl⟩ (RRet.of (by unfold bBreaks; dsimp only; rw [if_neg c9, if_neg c25, hxn] <;> rfl) hp2 ho2)
  · refine w_aload_n (pc := 12) (i := 0) dX4_breaks_12 rfl rfl ?_
    refine w_iconst (pc := 13) (v := 1) dX4_breaks_13 (by decide) ?_
    refine w_vQ (pc := 14) dX4_breaks_14 GX4_55 hp2.1.1 (c_no 1 hp2) rfl rfl rfl rfl ?_
    rintro vn hn ⟨rfl, hpn, hon⟩
    exact w_ireturn (pc := 17) dX4_breaks_17 ⟨_, rfl, rfl⟩ (RRet.of (by unfold bBreaks; dsimp only; rw [if_pos c9] <;> rfl) hpn (ho2.tr hon))
end MODEL3
