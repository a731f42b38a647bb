/-! the reference: the digest -/
section RDIG
variable {d : Nat} {μ : MS} {τ : ST} {t : Int32} {h : AH}
set_option maxHeartbeats 1000000 in
theorem c_digest_1 (hT : TB τ) {K N : Nat} {y : Int64} {P : AO → AH → Prop} (hK : ∀ h2, Rm (μ, τ) 0 h2 → GOut 0 0 h h2 → WP (d + 5) mX4_digest none K N 39 [.ref 27, .long (dgN (rCount τ) y 12), vU, .int (nI 12), vU, vU, vU] [] h2 P) : ∀ (m j : Nat) (h2 : AH), j + m = 12 → Rm (μ, τ) 0 h2 → GOut 0 0 h h2 → WP (d + 5) mX4_digest none (K + m) (N + m * 12) 11 [.ref 27, .long (dgN (rCount τ) y j), vU, .int (nI j), vU, vU, vU] [] h2 P := by
  intro m
  induction m with
  | zero =>
    intro j h2 hj hp ho
    have hj : j = 12 := by omega
    subst hj
    refine w_iload_n (pc := 11) (i := 3) dX4_digest_11 rfl rfl ?_
    refine w_bipush (pc := 12) (v := 11) dX4_digest_12 (by decide) ?_
    refine w_icmp_gt (pc := 14) (tgt := 39) dX4_digest_14 (by decide) (fun c14 => ?_) (fun c14 => absurd (by decide) c14)
    exact hK h2 hp ho
  | succ m ih =>
    intro j h2 hj hp ho
    refine w_iload_n (pc := 11) (i := 3) dX4_digest_11 rfl rfl ?_
    refine w_bipush (pc := 12) (v := 11) dX4_digest_12 (by decide) ?_
    refine w_icmp_gt (pc := 14) (tgt := 39) dX4_digest_14 (by decide) (fun c14 => absurd c14 (fun q => nI_nlt (show j ≤ 11 by omega) (by omega) (show nI 11 < nI j from q))) (fun c14 => ?_)
    refine w_lload_n (pc := 17) (i := 1) dX4_digest_17 rfl rfl ?_
    refine w_ldc2 (pc := 18) dX4_digest_18 CX4_172 ?_
    refine w_lmul (pc := 21) dX4_digest_21 ?_
    refine w_aload_n (pc := 22) (i := 0) dX4_digest_22 rfl rfl ?_
    refine w_get (pc := 23) dX4_digest_23 FX4_27 hp.1.1 rfl ?_
    refine w_iload_n (pc := 26) (i := 3) dX4_digest_26 rfl rfl ?_
    refine w_vQ2 (k1 := 1) (n1 := 12) (k2 := K + m) (n2 := N + m * 12) (pc := 27) dX4_digest_27 GX4_146 hp.2.1.1 (c_rcounted j hp.2.1 hT (by omega)) rfl rfl rfl rfl (by omega) (by omega) ?_
    rintro v3 h3 ⟨rfl, ho3⟩
    show WP (d + 5) mX4_digest none (K + m) (N + m * 12) 30 _ [.int (rCount τ j), .long (dgN (rCount τ) y j * 31)] h3 _
    refine w_i2l (pc := 30) dX4_digest_30 ?_
    refine w_ladd (pc := 31) dX4_digest_31 ?_
    refine w_topl (fun x32 e32 => ?_)
    refine w_lstore_n (pc := 32) (i := 1) (ls' := [.ref 27, .long x32, vU, .int (nI j), vU, vU, vU]) dX4_digest_32 rfl (by decide) rfl rfl rfl ?_
    obtain ⟨x33, e33⟩ : ∃ y : Int32, y = (nI j) + 1 := ⟨_, rfl⟩
    refine w_iinc (pc := 33) (i := 3) (y := x33) (ls' := [.ref 27, .long x32, vU, .int x33, vU, vU, vU]) dX4_digest_33 rfl (by rw [e33]; rfl) (by decide) rfl rfl rfl ?_
    refine w_goto (pc := 36) (tgt := 11) dX4_digest_36 (by decide) ?_
    obtain rfl : x33 = nI (j + 1) := by rw [e33]; exact nI_1 j
    subst e32
    exact ih (j + 1) h3 (by omega) (hp.nil ho3) (ho.tr ho3)
set_option maxHeartbeats 1000000 in
theorem c_digest_2 (hp : Rm (μ, τ) 0 h) {K N : Nat} {y : Int64} {P : AO → AH → Prop} (hK : WP (d + 5) mX4_digest none K N 80 [.ref 27, .long (dgN (μ.1 0) y 7), vU, .ref 28, .int 7, .int (nI 7), vU] [] h P) : ∀ (m j : Nat), j + m = 7 → WP (d + 5) mX4_digest none K N 51 [.ref 27, .long (dgN (μ.1 0) y j), vU, .ref 28, .int 7, .int (nI j), vU] [] h P := by
  intro m
  induction m with
  | zero =>
    intro j hj
    have hj : j = 7 := by omega
    subst hj
    refine w_iload (pc := 51) (i := 5) dX4_digest_51 rfl ?_
    refine w_iload (pc := 53) (i := 4) dX4_digest_53 rfl ?_
    refine w_icmp_ge (pc := 55) (tgt := 80) dX4_digest_55 (by decide) (fun c55 => ?_) (fun c55 => absurd (by decide) c55)
    exact w_widen (Nat.le_refl _) (Nat.le_refl _) hK
  | succ m ih =>
    intro j hj
    refine w_iload (pc := 51) (i := 5) dX4_digest_51 rfl ?_
    refine w_iload (pc := 53) (i := 4) dX4_digest_53 rfl ?_
    refine w_icmp_ge (pc := 55) (tgt := 80) dX4_digest_55 (by decide) (fun c55 => absurd (show nI 7 ≤ nI j from c55) (nI_ge (by omega) (by omega))) (fun c55 => ?_)
    refine w_aload_n (pc := 58) (i := 3) dX4_digest_58 rfl rfl ?_
    refine w_iload (pc := 59) (i := 5) dX4_digest_59 rfl ?_
    refine w_iald (pc := 61) dX4_digest_61 hp.1.2.1 (vp_in_nI (by omega) (by omega)) ?_
    rw [nI_clamp (by omega)]
    refine w_topi (fun x62 e62 => ?_)
    refine w_istore (pc := 62) (i := 6) (ls' := [.ref 27, .long (dgN (μ.1 0) y j), vU, .ref 28, .int 7, .int (nI j), .int x62]) dX4_digest_62 (by decide) rfl rfl rfl ?_
    refine w_lload_n (pc := 64) (i := 1) dX4_digest_64 rfl rfl ?_
    refine w_ldc2 (pc := 65) dX4_digest_65 CX4_172 ?_
    refine w_lmul (pc := 68) dX4_digest_68 ?_
    refine w_iload (pc := 69) (i := 6) dX4_digest_69 rfl ?_
    refine w_i2l (pc := 71) dX4_digest_71 ?_
    refine w_ladd (pc := 72) dX4_digest_72 ?_
    refine w_topl (fun x73 e73 => ?_)
    refine w_lstore_n (pc := 73) (i := 1) (ls' := [.ref 27, .long x73, vU, .ref 28, .int 7, .int (nI j), .int x62]) dX4_digest_73 rfl (by decide) rfl rfl rfl ?_
    obtain ⟨x74, e74⟩ : ∃ y : Int32, y = (nI j) + 1 := ⟨_, rfl⟩
    refine w_iinc (pc := 74) (i := 5) (y := x74) (ls' := [.ref 27, .long x73, vU, .ref 28, .int 7, .int x74, .int x62]) dX4_digest_74 rfl (by rw [e74]; rfl) (by decide) rfl rfl rfl ?_
    refine w_goto (pc := 77) (tgt := 51) dX4_digest_77 (by decide) ?_
    obtain rfl : x74 = nI (j + 1) := by rw [e74]; exact nI_1 j
    subst e73
    subst e62
    exact w_forget 6 rfl (ih (j + 1) (by omega))
set_option maxHeartbeats 1000000 in
theorem c_digest_3_in (hB : TB τ) (h1 : μ.2 1 ≤ 5) (h0 : μ.2 0 ≤ 6) {k K N : Nat} (hk : k < μ.2 0) {y : Int64} {P : AO → AH → Prop} (hK : ∀ h2, Rm (μ, τ) 0 h2 → GOut 0 0 h h2 → WP (d + 5) mX4_digest none K N 120 [.ref 27, .long (dgN ((rTold (μ, τ)) k) y 6), vU, .int (nI k), .int (nI 6), vU, vU] [] h2 P) : ∀ (m j : Nat) (h2 : AH), j + m = 6 → Rm (μ, τ) 0 h2 → GOut 0 0 h h2 → WP (d + 5) mX4_digest none (K + m * 1) (N + m * 6) 93 [.ref 27, .long (dgN ((rTold (μ, τ)) k) y j), vU, .int (nI k), .int (nI j), vU, vU] [] h2 P := by
  intro m
  induction m with
  | zero =>
    intro j h2 hj hp ho
    have hj : j = 6 := by omega
    subst hj
    refine w_iload (pc := 93) (i := 4) dX4_digest_93 rfl ?_
    refine w_iconst (pc := 95) (v := 5) dX4_digest_95 (by decide) ?_
    refine w_icmp_gt (pc := 96) (tgt := 120) dX4_digest_96 (by decide) (fun c96 => ?_) (fun c96 => absurd (by decide) c96)
    exact hK h2 hp ho
  | succ m ih =>
    intro j h2 hj hp ho
    refine w_iload (pc := 93) (i := 4) dX4_digest_93 rfl ?_
    refine w_iconst (pc := 95) (v := 5) dX4_digest_95 (by decide) ?_
    refine w_icmp_gt (pc := 96) (tgt := 120) dX4_digest_96 (by decide) (fun c96 => absurd c96 (fun q => nI_nlt (show j ≤ 5 by omega) (by omega) (show nI 5 < nI j from q))) (fun c96 => ?_)
    refine w_lload_n (pc := 99) (i := 1) dX4_digest_99 rfl rfl ?_
    refine w_ldc2 (pc := 100) dX4_digest_100 CX4_172 ?_
    refine w_lmul (pc := 103) dX4_digest_103 ?_
    refine w_aload_n (pc := 104) (i := 0) dX4_digest_104 rfl rfl ?_
    refine w_iload_n (pc := 105) (i := 3) dX4_digest_105 rfl rfl ?_
    refine w_iload (pc := 106) (i := 4) dX4_digest_106 rfl ?_
    refine w_vQ2 (k1 := 1) (n1 := 6) (k2 := K + m * 1) (n2 := N + m * 6) (pc := 108) dX4_digest_108 GX4_137 hp.1.1 (c_mouldTold k j hp h1 (by omega) (by omega)) rfl rfl rfl rfl (by omega) (by omega) ?_
    rintro v3 h3 ⟨rfl, ho3⟩
    show WP (d + 5) mX4_digest none (K + m * 1) (N + m * 6) 111 _ [.int (rTold (μ, τ) k j), .long (dgN (rTold (μ, τ) k) y j * 31)] h3 _
    refine w_i2l (pc := 111) dX4_digest_111 ?_
    refine w_ladd (pc := 112) dX4_digest_112 ?_
    refine w_topl (fun x113 e113 => ?_)
    refine w_lstore_n (pc := 113) (i := 1) (ls' := [.ref 27, .long x113, vU, .int (nI k), .int (nI j), vU, vU]) dX4_digest_113 rfl (by decide) rfl rfl rfl ?_
    obtain ⟨x114, e114⟩ : ∃ y : Int32, y = (nI j) + 1 := ⟨_, rfl⟩
    refine w_iinc (pc := 114) (i := 4) (y := x114) (ls' := [.ref 27, .long x113, vU, .int (nI k), .int x114, vU, vU]) dX4_digest_114 rfl (by rw [e114]; rfl) (by decide) rfl rfl rfl ?_
    refine w_goto (pc := 117) (tgt := 93) dX4_digest_117 (by decide) ?_
    obtain rfl : x114 = nI (j + 1) := by rw [e114]; exact nI_1 j
    subst e113
    exact ih (j + 1) h3 (by omega) (hp.nil ho3) (ho.tr ho3)
set_option maxHeartbeats 1000000 in
theorem c_digest_3 (hB : TB τ) (h1 : μ.2 1 ≤ 5) (h0 : μ.2 0 ≤ 6) {K N : Nat} {y : Int64} {P : AO → AH → Prop} (hK : ∀ h2, Rm (μ, τ) 0 h2 → GOut 0 0 h h2 → WP (d + 5) mX4_digest none K N 126 [.ref 27, .long (dgT (rTold (μ, τ)) 6 y (μ.2 0)), vU, .int (nI (μ.2 0)), vU, vU, vU] [] h2 P) : ∀ (m k : Nat) (h2 : AH), k + m = μ.2 0 → Rm (μ, τ) 0 h2 → GOut 0 0 h h2 → WP (d + 5) mX4_digest none (K + m * 6) (N + m * 36) 82 [.ref 27, .long (dgT (rTold (μ, τ)) 6 y k), vU, .int (nI k), vU, vU, vU] [] h2 P := by
  intro m
  induction m with
  | zero =>
    intro k h2 hk hp ho
    have hk : k = μ.2 0 := by omega
    refine w_iload_n (pc := 82) (i := 3) dX4_digest_82 rfl rfl ?_
    refine w_aload_n (pc := 83) (i := 0) dX4_digest_83 rfl rfl ?_
    refine w_get (pc := 84) dX4_digest_84 FX4_42 hp.1.1 rfl ?_
    refine w_icmp_ge (pc := 87) (tgt := 126) dX4_digest_87 (by decide) (fun c87 => ?_) (fun c87 => absurd (nI_le (show μ.2 0 ≤ k by omega) (by omega)) c87)
    subst hk
    exact hK h2 hp ho
  | succ m ih =>
    intro k h2 hk hp ho
    refine w_iload_n (pc := 82) (i := 3) dX4_digest_82 rfl rfl ?_
    refine w_aload_n (pc := 83) (i := 0) dX4_digest_83 rfl rfl ?_
    refine w_get (pc := 84) dX4_digest_84 FX4_42 hp.1.1 rfl ?_
    refine w_icmp_ge (pc := 87) (tgt := 126) dX4_digest_87 (by decide) (fun c87 => absurd (show nI (μ.2 0) ≤ nI k from c87) (nI_ge (by omega) (by omega))) (fun c87 => ?_)
    refine w_iconst (pc := 90) (v := 0) dX4_digest_90 (by decide) ?_
    refine w_topi (fun x91 e91 => ?_)
    refine w_istore (pc := 91) (i := 4) (ls' := [.ref 27, .long (dgT (rTold (μ, τ)) 6 y k), vU, .int (nI k), .int x91, vU, vU]) dX4_digest_91 (by decide) rfl rfl rfl ?_
    subst e91
    have eK : K + (m + 1) * 6 = K + m * 6 + 6 * 1 := by omega
    have eN : N + (m + 1) * 36 = N + m * 36 + 6 * 6 := by omega
    rw [eK, eN]
    refine c_digest_3_in (h := h2) hB h1 h0 (show k < μ.2 0 by omega) (fun h3 hp3 ho3 => ?_) 6 0 h2 rfl hp GOut.rf
    obtain ⟨x120, e120⟩ : ∃ y : Int32, y = (nI k) + 1 := ⟨_, rfl⟩
    refine w_iinc (pc := 120) (i := 3) (y := x120) (ls' := [.ref 27, .long (dgT (rTold (μ, τ)) 6 y (k + 1)), vU, .int x120, .int (nI 6), vU, vU]) dX4_digest_120 rfl (by rw [e120]; rfl) (by decide) rfl rfl rfl ?_
    refine w_goto (pc := 123) (tgt := 82) dX4_digest_123 (by decide) ?_
    obtain rfl : x120 = nI (k + 1) := by rw [e120]; exact nI_1 k
    exact w_forget 4 rfl (ih (k + 1) h3 (by omega) hp3 (ho.tr ho3))
set_option maxHeartbeats 1000000 in
theorem c_digest_4_in (hB : μ.2 1 ≤ 5) (hp : Rm (μ, τ) 0 h) {k : Nat} (hk : k < μ.2 1) {y : Int64} {P : AO → AH → Prop} (hK : WP (d + 5) mX4_digest none 0 0 166 [.ref 27, .long (dgN ((fun k j => rMTold μ k (nI j)) k) y 2), vU, .int (nI k), .int (nI 2), vU, vU] [] h P) : ∀ (m j : Nat), j + m = 2 → WP (d + 5) mX4_digest none 0 0 139 [.ref 27, .long (dgN ((fun k j => rMTold μ k (nI j)) k) y j), vU, .int (nI k), .int (nI j), vU, vU] [] h P := by
  intro m
  induction m with
  | zero =>
    intro j hj
    have hj : j = 2 := by omega
    subst hj
    refine w_iload (pc := 139) (i := 4) dX4_digest_139 rfl ?_
    refine w_iconst (pc := 141) (v := 1) dX4_digest_141 (by decide) ?_
    refine w_icmp_gt (pc := 142) (tgt := 166) dX4_digest_142 (by decide) (fun c142 => ?_) (fun c142 => absurd (by decide) c142)
    exact hK
  | succ m ih =>
    intro j hj
    refine w_iload (pc := 139) (i := 4) dX4_digest_139 rfl ?_
    refine w_iconst (pc := 141) (v := 1) dX4_digest_141 (by decide) ?_
    refine w_icmp_gt (pc := 142) (tgt := 166) dX4_digest_142 (by decide) (fun c142 => absurd c142 (fun q => nI_nlt (show j ≤ 1 by omega) (by omega) (show nI 1 < nI j from q))) (fun c142 => ?_)
    refine w_lload_n (pc := 145) (i := 1) dX4_digest_145 rfl rfl ?_
    refine w_ldc2 (pc := 146) dX4_digest_146 CX4_172 ?_
    refine w_lmul (pc := 149) dX4_digest_149 ?_
    refine w_aload_n (pc := 150) (i := 0) dX4_digest_150 rfl rfl ?_
    refine w_iload_n (pc := 151) (i := 3) dX4_digest_151 rfl rfl ?_
    refine w_iload (pc := 152) (i := 4) dX4_digest_152 rfl ?_
    refine w_vI (pc := 154) dX4_digest_154 GX4_140 hp.1.1 (c_makerTold k (nI j) hp (by omega)) rfl rfl rfl rfl ?_
    refine w_i2l (pc := 157) dX4_digest_157 ?_
    refine w_ladd (pc := 158) dX4_digest_158 ?_
    refine w_topl (fun x159 e159 => ?_)
    refine w_lstore_n (pc := 159) (i := 1) (ls' := [.ref 27, .long x159, vU, .int (nI k), .int (nI j), vU, vU]) dX4_digest_159 rfl (by decide) rfl rfl rfl ?_
    obtain ⟨x160, e160⟩ : ∃ y : Int32, y = (nI j) + 1 := ⟨_, rfl⟩
    refine w_iinc (pc := 160) (i := 4) (y := x160) (ls' := [.ref 27, .long x159, vU, .int (nI k), .int x160, vU, vU]) dX4_digest_160 rfl (by rw [e160]; rfl) (by decide) rfl rfl rfl ?_
    refine w_goto (pc := 163) (tgt := 139) dX4_digest_163 (by decide) ?_
    obtain rfl : x160 = nI (j + 1) := by rw [e160]; exact nI_1 j
    subst e159
    exact ih (j + 1) (by omega)
set_option maxHeartbeats 1000000 in
theorem c_digest_4 (hB : μ.2 1 ≤ 5) (hp : Rm (μ, τ) 0 h) {y : Int64} {P : AO → AH → Prop} (hK : WP (d + 5) mX4_digest none 0 0 172 [.ref 27, .long (dgT (fun k j => rMTold μ k (nI j)) 2 y (μ.2 1)), vU, .int (nI (μ.2 1)), vU, vU, vU] [] h P) : ∀ (m k : Nat), k + m = μ.2 1 → WP (d + 5) mX4_digest none 0 0 128 [.ref 27, .long (dgT (fun k j => rMTold μ k (nI j)) 2 y k), vU, .int (nI k), vU, vU, vU] [] h P := by
  intro m
  induction m with
  | zero =>
    intro k hk
    have hk : k = μ.2 1 := by omega
    refine w_iload_n (pc := 128) (i := 3) dX4_digest_128 rfl rfl ?_
    refine w_aload_n (pc := 129) (i := 0) dX4_digest_129 rfl rfl ?_
    refine w_get (pc := 130) dX4_digest_130 FX4_45 hp.1.1 rfl ?_
    refine w_icmp_ge (pc := 133) (tgt := 172) dX4_digest_133 (by decide) (fun c133 => ?_) (fun c133 => absurd (nI_le (show μ.2 1 ≤ k by omega) (by omega)) c133)
    subst hk
    exact hK
  | succ m ih =>
    intro k hk
    refine w_iload_n (pc := 128) (i := 3) dX4_digest_128 rfl rfl ?_
    refine w_aload_n (pc := 129) (i := 0) dX4_digest_129 rfl rfl ?_
    refine w_get (pc := 130) dX4_digest_130 FX4_45 hp.1.1 rfl ?_
    refine w_icmp_ge (pc := 133) (tgt := 172) dX4_digest_133 (by decide) (fun c133 => absurd (show nI (μ.2 1) ≤ nI k from c133) (nI_ge (by omega) (by omega))) (fun c133 => ?_)
    refine w_iconst (pc := 136) (v := 0) dX4_digest_136 (by decide) ?_
    refine w_topi (fun x137 e137 => ?_)
    refine w_istore (pc := 137) (i := 4) (ls' := [.ref 27, .long (dgT (fun k j => rMTold μ k (nI j)) 2 y k), vU, .int (nI k), .int x137, vU, vU]) dX4_digest_137 (by decide) rfl rfl rfl ?_
    subst e137
    refine c_digest_4_in hB hp (show k < μ.2 1 by omega) ?_ 2 0 rfl
    obtain ⟨x166, e166⟩ : ∃ y : Int32, y = (nI k) + 1 := ⟨_, rfl⟩
    refine w_iinc (pc := 166) (i := 3) (y := x166) (ls' := [.ref 27, .long (dgT (fun k j => rMTold μ k (nI j)) 2 y (k + 1)), vU, .int x166, .int (nI 2), vU, vU]) dX4_digest_166 rfl (by rw [e166]; rfl) (by decide) rfl rfl rfl ?_
    refine w_goto (pc := 169) (tgt := 128) dX4_digest_169 (by decide) ?_
    obtain rfl : x166 = nI (k + 1) := by rw [e166]; exact nI_1 k
    exact w_forget 4 rfl (ih (k + 1) (by omega))
set_option maxHeartbeats 1000000 in
theorem c_digest_5_in (hB : τ.2.2.2.1 0 ≤ 10) (hp : Rm (μ, τ) 0 h) {k : Nat} (hk : k < τ.2.2.2.1 0) {y : Int64} {P : AO → AH → Prop} (hK : WP (d + 5) mX4_digest none 0 0 220 [.ref 27, .long (dgN ((fun k j => τ.2.1 k j) k) y 4), vU, .int (nI k), .int (nI 4), vU, vU] [] h P) : ∀ (m j : Nat), j + m = 4 → WP (d + 5) mX4_digest none 0 0 188 [.ref 27, .long (dgN ((fun k j => τ.2.1 k j) k) y j), vU, .int (nI k), .int (nI j), vU, vU] [] h P := by
  intro m
  induction m with
  | zero =>
    intro j hj
    have hj : j = 4 := by omega
    subst hj
    refine w_iload (pc := 188) (i := 4) dX4_digest_188 rfl ?_
    refine w_iconst (pc := 190) (v := 3) dX4_digest_190 (by decide) ?_
    refine w_icmp_gt (pc := 191) (tgt := 220) dX4_digest_191 (by decide) (fun c191 => ?_) (fun c191 => absurd (by decide) c191)
    exact hK
  | succ m ih =>
    intro j hj
    refine w_iload (pc := 188) (i := 4) dX4_digest_188 rfl ?_
    refine w_iconst (pc := 190) (v := 3) dX4_digest_190 (by decide) ?_
    refine w_icmp_gt (pc := 191) (tgt := 220) dX4_digest_191 (by decide) (fun c191 => absurd c191 (fun q => nI_nlt (show j ≤ 3 by omega) (by omega) (show nI 3 < nI j from q))) (fun c191 => ?_)
    refine w_lload_n (pc := 194) (i := 1) dX4_digest_194 rfl rfl ?_
    refine w_ldc2 (pc := 195) dX4_digest_195 CX4_172 ?_
    refine w_lmul (pc := 198) dX4_digest_198 ?_
    refine w_aload_n (pc := 199) (i := 0) dX4_digest_199 rfl rfl ?_
    refine w_get (pc := 200) dX4_digest_200 FX4_27 hp.1.1 rfl ?_
    refine w_get (pc := 203) dX4_digest_203 FX4_86 hp.2.1.1 rfl ?_
    refine w_iload_n (pc := 206) (i := 3) dX4_digest_206 rfl rfl ?_
    refine w_aald (pc := 207) dX4_digest_207 hp.2.1.ware (vp_in_nI (by omega) (by omega)) (rowsAt_nI (by omega) (by omega)) ?_
    refine w_iload (pc := 208) (i := 4) dX4_digest_208 rfl ?_
    refine w_iald (pc := 210) dX4_digest_210 (hp.2.1.wg (by omega)) (vp_in_nI (by omega) (by omega)) ?_
    rw [nI_clamp (show j < 2 ^ 31 by omega)]
    refine w_i2l (pc := 211) dX4_digest_211 ?_
    refine w_ladd (pc := 212) dX4_digest_212 ?_
    refine w_topl (fun x213 e213 => ?_)
    refine w_lstore_n (pc := 213) (i := 1) (ls' := [.ref 27, .long x213, vU, .int (nI k), .int (nI j), vU, vU]) dX4_digest_213 rfl (by decide) rfl rfl rfl ?_
    obtain ⟨x214, e214⟩ : ∃ y : Int32, y = (nI j) + 1 := ⟨_, rfl⟩
    refine w_iinc (pc := 214) (i := 4) (y := x214) (ls' := [.ref 27, .long x213, vU, .int (nI k), .int x214, vU, vU]) dX4_digest_214 rfl (by rw [e214]; rfl) (by decide) rfl rfl rfl ?_
    refine w_goto (pc := 217) (tgt := 188) dX4_digest_217 (by decide) ?_
    obtain rfl : x214 = nI (j + 1) := by rw [e214]; exact nI_1 j
    subst e213
    exact ih (j + 1) (by omega)
set_option maxHeartbeats 1000000 in
theorem c_digest_5 (hB : τ.2.2.2.1 0 ≤ 10) (hp : Rm (μ, τ) 0 h) {y : Int64} {P : AO → AH → Prop} (hK : WP (d + 5) mX4_digest none 0 0 226 [.ref 27, .long (dgT (fun k j => τ.2.1 k j) 4 y (τ.2.2.2.1 0)), vU, .int (nI (τ.2.2.2.1 0)), vU, vU, vU] [] h P) : ∀ (m k : Nat), k + m = τ.2.2.2.1 0 → WP (d + 5) mX4_digest none 0 0 174 [.ref 27, .long (dgT (fun k j => τ.2.1 k j) 4 y k), vU, .int (nI k), vU, vU, vU] [] h P := by
  intro m
  induction m with
  | zero =>
    intro k hk
    have hk : k = τ.2.2.2.1 0 := by omega
    refine w_iload_n (pc := 174) (i := 3) dX4_digest_174 rfl rfl ?_
    refine w_aload_n (pc := 175) (i := 0) dX4_digest_175 rfl rfl ?_
    refine w_get (pc := 176) dX4_digest_176 FX4_27 hp.1.1 rfl ?_
    refine w_get (pc := 179) dX4_digest_179 FX4_48 hp.2.1.1 rfl ?_
    refine w_icmp_ge (pc := 182) (tgt := 226) dX4_digest_182 (by decide) (fun c182 => ?_) (fun c182 => absurd (nI_le (show τ.2.2.2.1 0 ≤ k by omega) (by omega)) c182)
    subst hk
    exact hK
  | succ m ih =>
    intro k hk
    refine w_iload_n (pc := 174) (i := 3) dX4_digest_174 rfl rfl ?_
    refine w_aload_n (pc := 175) (i := 0) dX4_digest_175 rfl rfl ?_
    refine w_get (pc := 176) dX4_digest_176 FX4_27 hp.1.1 rfl ?_
    refine w_get (pc := 179) dX4_digest_179 FX4_48 hp.2.1.1 rfl ?_
    refine w_icmp_ge (pc := 182) (tgt := 226) dX4_digest_182 (by decide) (fun c182 => absurd (show nI (τ.2.2.2.1 0) ≤ nI k from c182) (nI_ge (by omega) (by omega))) (fun c182 => ?_)
    refine w_iconst (pc := 185) (v := 0) dX4_digest_185 (by decide) ?_
    refine w_topi (fun x186 e186 => ?_)
    refine w_istore (pc := 186) (i := 4) (ls' := [.ref 27, .long (dgT (fun k j => τ.2.1 k j) 4 y k), vU, .int (nI k), .int x186, vU, vU]) dX4_digest_186 (by decide) rfl rfl rfl ?_
    subst e186
    refine c_digest_5_in hB hp (show k < τ.2.2.2.1 0 by omega) ?_ 4 0 rfl
    obtain ⟨x220, e220⟩ : ∃ y : Int32, y = (nI k) + 1 := ⟨_, rfl⟩
    refine w_iinc (pc := 220) (i := 3) (y := x220) (ls' := [.ref 27, .long (dgT (fun k j => τ.2.1 k j) 4 y (k + 1)), vU, .int x220, .int (nI 4), vU, vU]) dX4_digest_220 rfl (by rw [e220]; rfl) (by decide) rfl rfl rfl ?_
    refine w_goto (pc := 223) (tgt := 174) dX4_digest_223 (by decide) ?_
    obtain rfl : x220 = nI (k + 1) := by rw [e220]; exact nI_1 k
    exact w_forget 4 rfl (ih (k + 1) (by omega))
set_option maxHeartbeats 1000000 in
theorem c_digest_6_in (hp : Rm (μ, τ) 0 h) {k : Nat} (hk : k < 6) {y : Int64} {P : AO → AH → Prop} (hK : WP (d + 5) mX4_digest none 0 0 268 [.ref 27, .long (dgN ((fun k j => τ.2.1 (10 + k) j) k) y 4), vU, .int (nI k), .int (nI 4), vU, vU] [] h P) : ∀ (m j : Nat), j + m = 4 → WP (d + 5) mX4_digest none 0 0 237 [.ref 27, .long (dgN ((fun k j => τ.2.1 (10 + k) j) k) y j), vU, .int (nI k), .int (nI j), vU, vU] [] h P := by
  intro m
  induction m with
  | zero =>
    intro j hj
    have hj : j = 4 := by omega
    subst hj
    refine w_iload (pc := 237) (i := 4) dX4_digest_237 rfl ?_
    refine w_iconst (pc := 239) (v := 3) dX4_digest_239 (by decide) ?_
    refine w_icmp_gt (pc := 240) (tgt := 268) dX4_digest_240 (by decide) (fun c240 => ?_) (fun c240 => absurd (by decide) c240)
    exact hK
  | succ m ih =>
    intro j hj
    refine w_iload (pc := 237) (i := 4) dX4_digest_237 rfl ?_
    refine w_iconst (pc := 239) (v := 3) dX4_digest_239 (by decide) ?_
    refine w_icmp_gt (pc := 240) (tgt := 268) dX4_digest_240 (by decide) (fun c240 => absurd c240 (fun q => nI_nlt (show j ≤ 3 by omega) (by omega) (show nI 3 < nI j from q))) (fun c240 => ?_)
    refine w_lload_n (pc := 243) (i := 1) dX4_digest_243 rfl rfl ?_
    refine w_ldc2 (pc := 244) dX4_digest_244 CX4_172 ?_
    refine w_lmul (pc := 247) dX4_digest_247 ?_
    refine w_aload_n (pc := 248) (i := 0) dX4_digest_248 rfl rfl ?_
    refine w_get (pc := 249) dX4_digest_249 FX4_27 hp.1.1 rfl ?_
    refine w_iload_n (pc := 252) (i := 3) dX4_digest_252 rfl rfl ?_
    refine w_vO (pc := 253) dX4_digest_253 GX4_90 hp.2.1.1 (c_saggar k hp.2.1 (by omega)) rfl rfl rfl rfl ?_
    refine w_iload (pc := 256) (i := 4) dX4_digest_256 rfl ?_
    refine w_iald (pc := 258) dX4_digest_258 (hp.2.1.wg (by omega)) (vp_in_nI (by omega) (by omega)) ?_
    rw [nI_clamp (show j < 2 ^ 31 by omega)]
    refine w_i2l (pc := 259) dX4_digest_259 ?_
    refine w_ladd (pc := 260) dX4_digest_260 ?_
    refine w_topl (fun x261 e261 => ?_)
    refine w_lstore_n (pc := 261) (i := 1) (ls' := [.ref 27, .long x261, vU, .int (nI k), .int (nI j), vU, vU]) dX4_digest_261 rfl (by decide) rfl rfl rfl ?_
    obtain ⟨x262, e262⟩ : ∃ y : Int32, y = (nI j) + 1 := ⟨_, rfl⟩
    refine w_iinc (pc := 262) (i := 4) (y := x262) (ls' := [.ref 27, .long x261, vU, .int (nI k), .int x262, vU, vU]) dX4_digest_262 rfl (by rw [e262]; rfl) (by decide) rfl rfl rfl ?_
    refine w_goto (pc := 265) (tgt := 237) dX4_digest_265 (by decide) ?_
    obtain rfl : x262 = nI (j + 1) := by rw [e262]; exact nI_1 j
    subst e261
    exact ih (j + 1) (by omega)
set_option maxHeartbeats 1000000 in
theorem c_digest_6 (hp : Rm (μ, τ) 0 h) {y : Int64} {P : AO → AH → Prop} (hK : WP (d + 5) mX4_digest none 0 0 274 [.ref 27, .long (dgT (fun k j => τ.2.1 (10 + k) j) 4 y (6)), vU, .int (nI (6)), vU, vU, vU] [] h P) : ∀ (m k : Nat), k + m = 6 → WP (d + 5) mX4_digest none 0 0 228 [.ref 27, .long (dgT (fun k j => τ.2.1 (10 + k) j) 4 y k), vU, .int (nI k), vU, vU, vU] [] h P := by
  intro m
  induction m with
  | zero =>
    intro k hk
    have hk : k = 6 := by omega
    refine w_iload_n (pc := 228) (i := 3) dX4_digest_228 rfl rfl ?_
    refine w_bipush (pc := 229) (v := 6) dX4_digest_229 (by decide) ?_
    refine w_icmp_ge (pc := 231) (tgt := 274) dX4_digest_231 (by decide) (fun c231 => ?_) (fun c231 => absurd (nI_le (show 6 ≤ k by omega) (by omega)) c231)
    subst hk
    exact hK
  | succ m ih =>
    intro k hk
    refine w_iload_n (pc := 228) (i := 3) dX4_digest_228 rfl rfl ?_
    refine w_bipush (pc := 229) (v := 6) dX4_digest_229 (by decide) ?_
    refine w_icmp_ge (pc := 231) (tgt := 274) dX4_digest_231 (by decide) (fun c231 => absurd (show nI (6) ≤ nI k from c231) (nI_ge (by omega) (by omega))) (fun c231 => ?_)
    refine w_iconst (pc := 234) (v := 0) dX4_digest_234 (by decide) ?_
    refine w_topi (fun x235 e235 => ?_)
    refine w_istore (pc := 235) (i := 4) (ls' := [.ref 27, .long (dgT (fun k j => τ.2.1 (10 + k) j) 4 y k), vU, .int (nI k), .int x235, vU, vU]) dX4_digest_235 (by decide) rfl rfl rfl ?_
    subst e235
    refine c_digest_6_in hp (show k < 6 by omega) ?_ 4 0 rfl
    obtain ⟨x268, e268⟩ : ∃ y : Int32, y = (nI k) + 1 := ⟨_, rfl⟩
    refine w_iinc (pc := 268) (i := 3) (y := x268) (ls' := [.ref 27, .long (dgT (fun k j => τ.2.1 (10 + k) j) 4 y (k + 1)), vU, .int x268, .int (nI 4), vU, vU]) dX4_digest_268 rfl (by rw [e268]; rfl) (by decide) rfl rfl rfl ?_
    refine w_goto (pc := 271) (tgt := 228) dX4_digest_271 (by decide) ?_
    obtain rfl : x268 = nI (k + 1) := by rw [e268]; exact nI_1 k
    exact w_forget 4 rfl (ih (k + 1) (by omega))
set_option maxHeartbeats 1000000 in
theorem c_digest_7 (hp : Rm (μ, τ) 0 h) {y : Int64} {P : AO → AH → Prop} (hK : WP (d + 5) mX4_digest none 0 0 305 [.ref 27, .long (dgN (fun i => τ.1 2 (4 + i)) y 21), vU, .int (nI (4 + 21)), vU, vU, vU] [] h P) : ∀ (m j : Nat), j + m = 21 → WP (d + 5) mX4_digest none 0 0 276 [.ref 27, .long (dgN (fun i => τ.1 2 (4 + i)) y j), vU, .int (nI (4 + j)), vU, vU, vU] [] h P := by
  intro m
  induction m with
  | zero =>
    intro j hj
    have hj : j = 21 := by omega
    subst hj
    refine w_iload_n (pc := 276) (i := 3) dX4_digest_276 rfl rfl ?_
    refine w_bipush (pc := 277) (v := 24) dX4_digest_277 (by decide) ?_
    refine w_icmp_gt (pc := 279) (tgt := 305) dX4_digest_279 (by decide) (fun c279 => ?_) (fun c279 => absurd (by decide) c279)
    exact hK
  | succ m ih =>
    intro j hj
    refine w_iload_n (pc := 276) (i := 3) dX4_digest_276 rfl rfl ?_
    refine w_bipush (pc := 277) (v := 24) dX4_digest_277 (by decide) ?_
    refine w_icmp_gt (pc := 279) (tgt := 305) dX4_digest_279 (by decide) (fun c279 => absurd c279 (fun q => nI_nlt (show 4 + j ≤ 24 by omega) (by omega) (show nI 24 < nI (4 + j) from q))) (fun c279 => ?_)
    refine w_lload_n (pc := 282) (i := 1) dX4_digest_282 rfl rfl ?_
    refine w_ldc2 (pc := 283) dX4_digest_283 CX4_172 ?_
    refine w_lmul (pc := 286) dX4_digest_286 ?_
    refine w_aload_n (pc := 287) (i := 0) dX4_digest_287 rfl rfl ?_
    refine w_get (pc := 288) dX4_digest_288 FX4_27 hp.1.1 rfl ?_
    refine w_get (pc := 291) dX4_digest_291 FX4_113 hp.2.1.1 rfl ?_
    refine w_iload_n (pc := 294) (i := 3) dX4_digest_294 rfl rfl ?_
    refine w_iald (pc := 295) dX4_digest_295 hp.2.1.store (vp_in_nI (by omega) (by omega)) ?_
    rw [nI_clamp (show 4 + j < 2 ^ 31 by omega)]
    refine w_i2l (pc := 296) dX4_digest_296 ?_
    refine w_ladd (pc := 297) dX4_digest_297 ?_
    refine w_topl (fun x298 e298 => ?_)
    refine w_lstore_n (pc := 298) (i := 1) (ls' := [.ref 27, .long x298, vU, .int (nI (4 + j)), vU, vU, vU]) dX4_digest_298 rfl (by decide) rfl rfl rfl ?_
    obtain ⟨x299, e299⟩ : ∃ y : Int32, y = (nI (4 + j)) + 1 := ⟨_, rfl⟩
    refine w_iinc (pc := 299) (i := 3) (y := x299) (ls' := [.ref 27, .long x298, vU, .int x299, vU, vU, vU]) dX4_digest_299 rfl (by rw [e299]; rfl) (by decide) rfl rfl rfl ?_
    refine w_goto (pc := 302) (tgt := 276) dX4_digest_302 (by decide) ?_
    obtain rfl : x299 = nI (4 + (j + 1)) := by rw [e299]; exact nI_1 _
    subst e298
    exact ih (j + 1) (by omega)
set_option maxHeartbeats 1000000 in
theorem c_digest_8_in (hB : τ.2.2.2.1 1 ≤ 8) (hp : Rm (μ, τ) 0 h) {k : Nat} (hk : k < τ.2.2.2.1 1) {y : Int64} {P : AO → AH → Prop} (hK : WP (d + 5) mX4_digest none 0 0 353 [.ref 27, .long (dgN ((fun k j => τ.2.2.1 k j) k) y 4), vU, .int (nI k), .int (nI 4), vU, vU] [] h P) : ∀ (m j : Nat), j + m = 4 → WP (d + 5) mX4_digest none 0 0 321 [.ref 27, .long (dgN ((fun k j => τ.2.2.1 k j) k) y j), vU, .int (nI k), .int (nI j), vU, vU] [] h P := by
  intro m
  induction m with
  | zero =>
    intro j hj
    have hj : j = 4 := by omega
    subst hj
    refine w_iload (pc := 321) (i := 4) dX4_digest_321 rfl ?_
    refine w_iconst (pc := 323) (v := 3) dX4_digest_323 (by decide) ?_
    refine w_icmp_gt (pc := 324) (tgt := 353) dX4_digest_324 (by decide) (fun c324 => ?_) (fun c324 => absurd (by decide) c324)
    exact hK
  | succ m ih =>
    intro j hj
    refine w_iload (pc := 321) (i := 4) dX4_digest_321 rfl ?_
    refine w_iconst (pc := 323) (v := 3) dX4_digest_323 (by decide) ?_
    refine w_icmp_gt (pc := 324) (tgt := 353) dX4_digest_324 (by decide) (fun c324 => absurd c324 (fun q => nI_nlt (show j ≤ 3 by omega) (by omega) (show nI 3 < nI j from q))) (fun c324 => ?_)
    refine w_lload_n (pc := 327) (i := 1) dX4_digest_327 rfl rfl ?_
    refine w_ldc2 (pc := 328) dX4_digest_328 CX4_172 ?_
    refine w_lmul (pc := 331) dX4_digest_331 ?_
    refine w_aload_n (pc := 332) (i := 0) dX4_digest_332 rfl rfl ?_
    refine w_get (pc := 333) dX4_digest_333 FX4_27 hp.1.1 rfl ?_
    refine w_get (pc := 336) dX4_digest_336 FX4_119 hp.2.1.1 rfl ?_
    refine w_iload_n (pc := 339) (i := 3) dX4_digest_339 rfl rfl ?_
    refine w_aald (pc := 340) dX4_digest_340 hp.2.1.order (vp_in_nI (by omega) (by omega)) (rowsAt_nI (by omega) (by omega)) ?_
    refine w_iload (pc := 341) (i := 4) dX4_digest_341 rfl ?_
    refine w_iald (pc := 343) dX4_digest_343 (hp.2.1.og (by omega)) (vp_in_nI (by omega) (by omega)) ?_
    rw [nI_clamp (show j < 2 ^ 31 by omega)]
    refine w_i2l (pc := 344) dX4_digest_344 ?_
    refine w_ladd (pc := 345) dX4_digest_345 ?_
    refine w_topl (fun x346 e346 => ?_)
    refine w_lstore_n (pc := 346) (i := 1) (ls' := [.ref 27, .long x346, vU, .int (nI k), .int (nI j), vU, vU]) dX4_digest_346 rfl (by decide) rfl rfl rfl ?_
    obtain ⟨x347, e347⟩ : ∃ y : Int32, y = (nI j) + 1 := ⟨_, rfl⟩
    refine w_iinc (pc := 347) (i := 4) (y := x347) (ls' := [.ref 27, .long x346, vU, .int (nI k), .int x347, vU, vU]) dX4_digest_347 rfl (by rw [e347]; rfl) (by decide) rfl rfl rfl ?_
    refine w_goto (pc := 350) (tgt := 321) dX4_digest_350 (by decide) ?_
    obtain rfl : x347 = nI (j + 1) := by rw [e347]; exact nI_1 j
    subst e346
    exact ih (j + 1) (by omega)
set_option maxHeartbeats 1000000 in
theorem c_digest_8 (hB : τ.2.2.2.1 1 ≤ 8) (hp : Rm (μ, τ) 0 h) {y : Int64} {P : AO → AH → Prop} (hK : WP (d + 5) mX4_digest none 0 0 359 [.ref 27, .long (dgT (fun k j => τ.2.2.1 k j) 4 y (τ.2.2.2.1 1)), vU, .int (nI (τ.2.2.2.1 1)), vU, vU, vU] [] h P) : ∀ (m k : Nat), k + m = τ.2.2.2.1 1 → WP (d + 5) mX4_digest none 0 0 307 [.ref 27, .long (dgT (fun k j => τ.2.2.1 k j) 4 y k), vU, .int (nI k), vU, vU, vU] [] h P := by
  intro m
  induction m with
  | zero =>
    intro k hk
    have hk : k = τ.2.2.2.1 1 := by omega
    refine w_iload_n (pc := 307) (i := 3) dX4_digest_307 rfl rfl ?_
    refine w_aload_n (pc := 308) (i := 0) dX4_digest_308 rfl rfl ?_
    refine w_get (pc := 309) dX4_digest_309 FX4_27 hp.1.1 rfl ?_
    refine w_get (pc := 312) dX4_digest_312 FX4_116 hp.2.1.1 rfl ?_
    refine w_icmp_ge (pc := 315) (tgt := 359) dX4_digest_315 (by decide) (fun c315 => ?_) (fun c315 => absurd (nI_le (show τ.2.2.2.1 1 ≤ k by omega) (by omega)) c315)
    subst hk
    exact hK
  | succ m ih =>
    intro k hk
    refine w_iload_n (pc := 307) (i := 3) dX4_digest_307 rfl rfl ?_
    refine w_aload_n (pc := 308) (i := 0) dX4_digest_308 rfl rfl ?_
    refine w_get (pc := 309) dX4_digest_309 FX4_27 hp.1.1 rfl ?_
    refine w_get (pc := 312) dX4_digest_312 FX4_116 hp.2.1.1 rfl ?_
    refine w_icmp_ge (pc := 315) (tgt := 359) dX4_digest_315 (by decide) (fun c315 => absurd (show nI (τ.2.2.2.1 1) ≤ nI k from c315) (nI_ge (by omega) (by omega))) (fun c315 => ?_)
    refine w_iconst (pc := 318) (v := 0) dX4_digest_318 (by decide) ?_
    refine w_topi (fun x319 e319 => ?_)
    refine w_istore (pc := 319) (i := 4) (ls' := [.ref 27, .long (dgT (fun k j => τ.2.2.1 k j) 4 y k), vU, .int (nI k), .int x319, vU, vU]) dX4_digest_319 (by decide) rfl rfl rfl ?_
    subst e319
    refine c_digest_8_in hB hp (show k < τ.2.2.2.1 1 by omega) ?_ 4 0 rfl
    obtain ⟨x353, e353⟩ : ∃ y : Int32, y = (nI k) + 1 := ⟨_, rfl⟩
    refine w_iinc (pc := 353) (i := 3) (y := x353) (ls' := [.ref 27, .long (dgT (fun k j => τ.2.2.1 k j) 4 y (k + 1)), vU, .int x353, .int (nI 4), vU, vU]) dX4_digest_353 rfl (by rw [e353]; rfl) (by decide) rfl rfl rfl ?_
    refine w_goto (pc := 356) (tgt := 307) dX4_digest_356 (by decide) ?_
    obtain rfl : x353 = nI (k + 1) := by rw [e353]; exact nI_1 k
    exact w_forget 4 rfl (ih (k + 1) (by omega))
set_option maxHeartbeats 1000000 in
theorem c_X4_digest (hp : Rm (μ, τ) t h) (h0 : μ.2 0 ≤ 6) (h1 : μ.2 1 ≤ 5) (hT : TB τ)  : Ct (d + 5) mX4_digest 48 360 [.ref 27] h (NT (fun v h1 => v = some (.long (rDig μ τ)) ∧ Rm (μ, τ) 0 h1 ∧ GOut 27 65 h h1)) := by
  refine Ct.of (by decide +kernel) rfl (Nat.le_of_ble_eq_true rfl) ?_
  show WP (d + 5) mX4_digest none 48 360 0 [.ref 27, vU, vU, vU, vU, vU, vU] [] h _
  have ho : GOut 27 65 h h := GOut.rf
  have hT0 := hT.1
  have hT1 := hT.2
  refine w_aload_n (pc := 0) (i := 0) dX4_digest_0 rfl rfl ?_
  refine w_iconst (pc := 1) (v := 0) dX4_digest_1 (by decide) ?_
  refine w_put (pc := 2) dX4_digest_2 UX4_34 hp.1.1 (Nat.le_of_ble_eq_true rfl) nv_i (fun _ q => by cases q) ?_
  have hp2 : Rm (μ, τ) 0 (h.set 27 (.inr (4, (mdF μ t).set 0 (.int 0)))) := by exact hp.md (hp.1.s0 _) (GOut.rf.set (by omega) (by omega))
  have ho2 : GOut 27 65 h (h.set 27 (.inr (4, (mdF μ t).set 0 (.int 0)))) := ho.set (by omega) (by omega)
  show WP _ _ _ _ _ _ _ _ (h.set 27 (.inr (4, (mdF μ t).set 0 (.int 0)))) _
  generalize hh2 : (h.set 27 (.inr (4, (mdF μ t).set 0 (.int 0)))) = h2 at hp2 ho2 ⊢
  clear hh2
  refine w_ldc2 (pc := 5) dX4_digest_5 CX4_170 ?_
  refine w_topl (fun x8 e8 => ?_)
  refine w_lstore_n (pc := 8) (i := 1) (ls' := [.ref 27, .long x8, vU, vU, vU, vU, vU]) dX4_digest_8 rfl (by decide) rfl rfl rfl ?_
  refine w_iconst (pc := 9) (v := 0) dX4_digest_9 (by decide) ?_
  refine w_topi (fun x10 e10 => ?_)
  refine w_istore_n (pc := 10) (i := 3) (ls' := [.ref 27, .long x8, vU, .int x10, vU, vU, vU]) dX4_digest_10 rfl (by decide) rfl rfl rfl ?_
  subst e8
  subst e10
  refine c_digest_1 (K := 36) (N := 216) hT (fun h3 hp3 ho3 => ?_) 12 0 h2 rfl hp2 GOut.rf
  show WP (d + 5) mX4_digest none 36 216 39 [.ref 27, .long (rDg1 τ), vU, .int (nI 12), vU, vU, vU] [] h3 _
  generalize hy1 : rDg1 τ = y1
  refine w_aload_n (pc := 39) (i := 0) dX4_digest_39 rfl rfl ?_
  refine w_get (pc := 40) dX4_digest_40 FX4_7 hp3.1.1 rfl ?_
  refine w_topa (fun x43 e43 => ?_)
  refine w_astore_n (pc := 43) (i := 3) (ls' := [.ref 27, .long y1, vU, .ref x43, vU, vU, vU]) dX4_digest_43 rfl (by decide) rfl rfl rfl ?_
  subst e43
  refine w_aload_n (pc := 44) (i := 3) dX4_digest_44 rfl rfl ?_
  refine w_alen (pc := 45) dX4_digest_45 (v := 7) hp3.1.2.1 rfl ?_
  refine w_topi (fun x46 e46 => ?_)
  refine w_istore (pc := 46) (i := 4) (ls' := [.ref 27, .long y1, vU, .ref (28), .int x46, vU, vU]) dX4_digest_46 (by decide) rfl rfl rfl ?_
  refine w_iconst (pc := 48) (v := 0) dX4_digest_48 (by decide) ?_
  refine w_topi (fun x49 e49 => ?_)
  refine w_istore (pc := 49) (i := 5) (ls' := [.ref 27, .long y1, vU, .ref (28), .int x46, .int x49, vU]) dX4_digest_49 (by decide) rfl rfl rfl ?_
  subst e46
  subst e49
  refine c_digest_2 hp3 ?_ 7 0 rfl
  generalize hy2 : dgN (μ.1 0) y1 7 = y2
  refine w_iconst (pc := 80) (v := 0) dX4_digest_80 (by decide) ?_
  refine w_topi (fun x81 e81 => ?_)
  refine w_istore_n (pc := 81) (i := 3) (ls' := [.ref 27, .long y2, vU, .int x81, .int 7, .int (nI 7), vU]) dX4_digest_81 rfl (by decide) rfl rfl rfl ?_
  subst e81
  refine w_forget 5 rfl (w_forget 4 rfl ?_)
  refine w_widen (k := 0 + μ.2 0 * 6) (n := 0 + μ.2 0 * 36) (by omega) (by omega) ?_
  refine c_digest_3 (h := h3) hT h1 h0 (fun h4 hp4 ho4 => ?_) (μ.2 0) 0 h3 (Nat.zero_add _) hp3 GOut.rf
  generalize hy3 : dgT (rTold (μ, τ)) 6 y2 (μ.2 0) = y3
  refine w_iconst (pc := 126) (v := 0) dX4_digest_126 (by decide) ?_
  refine w_topi (fun x127 e127 => ?_)
  refine w_istore_n (pc := 127) (i := 3) (ls' := [.ref 27, .long y3, vU, .int x127, vU, vU, vU]) dX4_digest_127 rfl (by decide) rfl rfl rfl ?_
  subst e127
  refine c_digest_4 h1 hp4 ?_ (μ.2 1) 0 (Nat.zero_add _)
  generalize hy4 : dgT (fun k j => rMTold μ k (nI j)) 2 y3 (μ.2 1) = y4
  refine w_iconst (pc := 172) (v := 0) dX4_digest_172 (by decide) ?_
  refine w_topi (fun x173 e173 => ?_)
  refine w_istore_n (pc := 173) (i := 3) (ls' := [.ref 27, .long y4, vU, .int x173, vU, vU, vU]) dX4_digest_173 rfl (by decide) rfl rfl rfl ?_
  subst e173
  refine c_digest_5 hT0 hp4 ?_ (τ.2.2.2.1 0) 0 (Nat.zero_add _)
  generalize hy5 : dgT (fun k j => τ.2.1 k j) 4 y4 (τ.2.2.2.1 0) = y5
  refine w_iconst (pc := 226) (v := 0) dX4_digest_226 (by decide) ?_
  refine w_topi (fun x227 e227 => ?_)
  refine w_istore_n (pc := 227) (i := 3) (ls' := [.ref 27, .long y5, vU, .int x227, vU, vU, vU]) dX4_digest_227 rfl (by decide) rfl rfl rfl ?_
  subst e227
  refine c_digest_6 hp4 ?_ 6 0 rfl
  generalize hy6 : dgT (fun k j => τ.2.1 (10 + k) j) 4 y5 6 = y6
  refine w_iconst (pc := 274) (v := 4) dX4_digest_274 (by decide) ?_
  refine w_topi (fun x275 e275 => ?_)
  refine w_istore_n (pc := 275) (i := 3) (ls' := [.ref 27, .long y6, vU, .int x275, vU, vU, vU]) dX4_digest_275 rfl (by decide) rfl rfl rfl ?_
  subst e275
  refine c_digest_7 hp4 ?_ 21 0 rfl
  generalize hy7 : dgN (fun i => τ.1 2 (4 + i)) y6 21 = y7
  refine w_iconst (pc := 305) (v := 0) dX4_digest_305 (by decide) ?_
  refine w_topi (fun x306 e306 => ?_)
  refine w_istore_n (pc := 306) (i := 3) (ls' := [.ref 27, .long y7, vU, .int x306, vU, vU, vU]) dX4_digest_306 rfl (by decide) rfl rfl rfl ?_
  subst e306
  refine c_digest_8 hT1 hp4 ?_ (τ.2.2.2.1 1) 0 (Nat.zero_add _)
  generalize hy8 : dgT (fun k j => τ.2.2.1 k j) 4 y7 (τ.2.2.2.1 1) = y8
  refine w_lload_n (pc := 359) (i := 1) dX4_digest_359 rfl rfl ?_
  exact w_lreturn (pc := 360) dX4_digest_360 rfl ⟨_, rfl, by rw [← hy8, ← hy7, ← hy6, ← hy5, ← hy4, ← hy3, ← hy2, ← hy1]; rfl, hp4, (ho2.tr ho3.nil).tr ho4.nil⟩
end RDIG
