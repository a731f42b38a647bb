/-! Works: the copy -/
theorem TbO.out {tb c N cols rows b w : Nat} {f : Nat → Int32} {h h1 : AH} (hT : TbO tb c N cols rows f h) (ho : Out b w h h1) (h0 : tb < b ∨ b + w ≤ tb) (h2 : c < b ∨ b + w ≤ c) : TbO tb c N cols rows f h1 := ⟨by rw [ho.2 _ h0]; exact hT.1, by rw [ho.2 _ h2]; exact hT.2⟩
theorem Wk.out {a b w : Nat} {τ : WS} {h h1 : AH} (hw : Wk a τ h) (ho : Out b w h h1) (hab : a + 13 ≤ b ∨ b + w ≤ a) : Wk a τ h1 :=
  ⟨by rw [ho.2 _ (by omega)]; exact hw.1, hw.t0.out ho (by omega) (by omega), hw.t1.out ho (by omega) (by omega), hw.t2.out ho (by omega) (by omega), hw.t3.out ho (by omega) (by omega), hw.t4.out ho (by omega) (by omega), by rw [ho.2 _ (by omega)]; exact hw.dr, by rw [ho.2 _ (by omega)]; exact hw.wh⟩
def kCpT (σ τ : WS) (t N : Nat) : WS := uR (uA σ t (va_cpy (τ.1 t) (σ.1 t) 0 0 N)) t (τ.2.1 t)
def kCpA (σ τ : WS) : WS := kCpT (kCpT (kCpT (kCpT (kCpT σ τ 0 18) τ 1 10) τ 2 40) τ 3 24) τ 4 32
def kCpB (σ τ : WS) : WS := uA (uA (kCpA σ τ) 5 (va_cpy (τ.1 5) ((kCpA σ τ).1 5) 0 0 7)) 6 (va_cpy (τ.1 6) ((kCpA σ τ).1 6) 0 0 25)
def kCopy (σ τ : WS) : WS := uS (uS (uS (uS (uS (uS (uS (uS (uS (uS (kCpB σ τ) 0 (τ.2.2 0)) 1 (τ.2.2 1)) 2 (τ.2.2 2)) 3 (τ.2.2 3)) 4 (τ.2.2 4)) 5 (τ.2.2 5)) 6 (τ.2.2 6)) 7 (τ.2.2 7)) 8 (-1)) 9 0
theorem kCopy_B {σ τ : WS} (h : WB τ) : WB (kCopy σ τ) := ⟨h.1, h.2.1, h.2.2.1, h.2.2.2.1, h.2.2.2.2⟩
section WORKS6
variable {d a b : Nat} {σ τ : WS} {h : AH}
set_option maxHeartbeats 1000000 in
theorem c_Works_copyFrom (hw : Wk b σ h) (hB : WB σ) (ha : Wk a τ h) (hA : WB τ) (hab : a + 13 ≤ b ∨ b + 13 ≤ a) : Ct (d + 3) mX1_copyFrom 0 0 [.ref b, .ref a] h (NT (fun v h1 => v = none ∧ Wk b (kCopy σ τ) h1 ∧ Out b 13 h h1)) := by
  refine Ct.of (by decide +kernel) rfl (Nat.le_of_ble_eq_true rfl) ?_
  show WP (d + 3) mX1_copyFrom none 0 0 0 [.ref b, .ref a] [] h _
  have ho : Out b 13 h h := Out.rf
  have hab0 := hab
  refine w_aload_n (pc := 0) (i := 0) dX1_copyFrom_0 rfl rfl ?_
  refine w_get (pc := 1) dX1_copyFrom_1 FX1_14 hw.1 rfl ?_
  refine w_aload_n (pc := 4) (i := 1) dX1_copyFrom_4 rfl rfl ?_
  refine w_get (pc := 5) dX1_copyFrom_5 FX1_14 (ha.out ho hab).1 rfl ?_
  refine w_vV (pc := 8) dX1_copyFrom_8 GX1_52 hw.t0.1 (c_copyFrom hw.t0 (ha.out ho hab).t0 hB.b0 (by omega) (by omega) (by omega)) rfl rfl rfl rfl ?_
  obtain ⟨sc0, hsc0⟩ : ∃ z : WS, z = uA σ 0 (va_cpy (τ.1 0) (σ.1 0) 0 0 18) := ⟨_, rfl⟩
  have hwc0 : Wk b sc0 (h.set (b + 2) (.inl (18, .inl (va_cpy (τ.1 0) (σ.1 0) 0 0 18)))) := by rw [hsc0]; exact hw.c0 _
  have hoc0 : Out b 13 h (h.set (b + 2) (.inl (18, .inl (va_cpy (τ.1 0) (σ.1 0) 0 0 18)))) := ho.set (by omega) (by omega)
  have hBc0 : WB sc0 := by rw [hsc0]; exact hB.uA
  generalize hhc0 : (h.set (b + 2) (.inl (18, .inl (va_cpy (τ.1 0) (σ.1 0) 0 0 18)))) = hc0 at hwc0 hoc0 ⊢
  clear hhc0
  obtain ⟨sr0, hsr0⟩ : ∃ z : WS, z = uR sc0 0 (τ.2.1 0) := ⟨_, rfl⟩
  have hwr0 : Wk b sr0 (hc0.set (b + 1) (.inr (0, [.ref (b + 2), .int (nI 3), .int (nI (τ.2.1 0))]))) := by rw [hsr0]; exact hwc0.r0 _
  have hor0 : Out b 13 h (hc0.set (b + 1) (.inr (0, [.ref (b + 2), .int (nI 3), .int (nI (τ.2.1 0))]))) := hoc0.set (by omega) (by omega)
  have hBr0 : WB sr0 := by rw [hsr0]; exact ⟨hA.1, hBc0.2⟩
  generalize hhr0 : (hc0.set (b + 1) (.inr (0, [.ref (b + 2), .int (nI 3), .int (nI (τ.2.1 0))]))) = hr0 at hwr0 hor0 ⊢
  clear hhr0
  refine w_aload_n (pc := 11) (i := 0) dX1_copyFrom_11 rfl rfl ?_
  refine w_get (pc := 12) dX1_copyFrom_12 FX1_20 hwr0.1 rfl ?_
  refine w_aload_n (pc := 15) (i := 1) dX1_copyFrom_15 rfl rfl ?_
  refine w_get (pc := 16) dX1_copyFrom_16 FX1_20 (ha.out hor0 hab).1 rfl ?_
  refine w_vV (pc := 19) dX1_copyFrom_19 GX1_52 hwr0.t1.1 (c_copyFrom hwr0.t1 (ha.out hor0 hab).t1 hBr0.b1 (by omega) (by omega) (by omega)) rfl rfl rfl rfl ?_
  obtain ⟨sc1, hsc1⟩ : ∃ z : WS, z = uA sr0 1 (va_cpy (τ.1 1) (sr0.1 1) 0 0 10) := ⟨_, rfl⟩
  have hwc1 : Wk b sc1 (hr0.set (b + 4) (.inl (10, .inl (va_cpy (τ.1 1) (sr0.1 1) 0 0 10)))) := by rw [hsc1]; exact hwr0.c1 _
  have hoc1 : Out b 13 h (hr0.set (b + 4) (.inl (10, .inl (va_cpy (τ.1 1) (sr0.1 1) 0 0 10)))) := hor0.set (by omega) (by omega)
  have hBc1 : WB sc1 := by rw [hsc1]; exact hBr0.uA
  generalize hhc1 : (hr0.set (b + 4) (.inl (10, .inl (va_cpy (τ.1 1) (sr0.1 1) 0 0 10)))) = hc1 at hwc1 hoc1 ⊢
  clear hhc1
  obtain ⟨sr1, hsr1⟩ : ∃ z : WS, z = uR sc1 1 (τ.2.1 1) := ⟨_, rfl⟩
  have hwr1 : Wk b sr1 (hc1.set (b + 3) (.inr (0, [.ref (b + 4), .int (nI 2), .int (nI (τ.2.1 1))]))) := by rw [hsr1]; exact hwc1.r1 _
  have hor1 : Out b 13 h (hc1.set (b + 3) (.inr (0, [.ref (b + 4), .int (nI 2), .int (nI (τ.2.1 1))]))) := hoc1.set (by omega) (by omega)
  have hBr1 : WB sr1 := by rw [hsr1]; exact ⟨hBc1.1, hA.2.1, hBc1.2.2⟩
  generalize hhr1 : (hc1.set (b + 3) (.inr (0, [.ref (b + 4), .int (nI 2), .int (nI (τ.2.1 1))]))) = hr1 at hwr1 hor1 ⊢
  clear hhr1
  refine w_aload_n (pc := 22) (i := 0) dX1_copyFrom_22 rfl rfl ?_
  refine w_get (pc := 23) dX1_copyFrom_23 FX1_23 hwr1.1 rfl ?_
  refine w_aload_n (pc := 26) (i := 1) dX1_copyFrom_26 rfl rfl ?_
  refine w_get (pc := 27) dX1_copyFrom_27 FX1_23 (ha.out hor1 hab).1 rfl ?_
  refine w_vV (pc := 30) dX1_copyFrom_30 GX1_52 hwr1.t2.1 (c_copyFrom hwr1.t2 (ha.out hor1 hab).t2 hBr1.b2 (by omega) (by omega) (by omega)) rfl rfl rfl rfl ?_
  obtain ⟨sc2, hsc2⟩ : ∃ z : WS, z = uA sr1 2 (va_cpy (τ.1 2) (sr1.1 2) 0 0 40) := ⟨_, rfl⟩
  have hwc2 : Wk b sc2 (hr1.set (b + 6) (.inl (40, .inl (va_cpy (τ.1 2) (sr1.1 2) 0 0 40)))) := by rw [hsc2]; exact hwr1.c2 _
  have hoc2 : Out b 13 h (hr1.set (b + 6) (.inl (40, .inl (va_cpy (τ.1 2) (sr1.1 2) 0 0 40)))) := hor1.set (by omega) (by omega)
  have hBc2 : WB sc2 := by rw [hsc2]; exact hBr1.uA
  generalize hhc2 : (hr1.set (b + 6) (.inl (40, .inl (va_cpy (τ.1 2) (sr1.1 2) 0 0 40)))) = hc2 at hwc2 hoc2 ⊢
  clear hhc2
  obtain ⟨sr2, hsr2⟩ : ∃ z : WS, z = uR sc2 2 (τ.2.1 2) := ⟨_, rfl⟩
  have hwr2 : Wk b sr2 (hc2.set (b + 5) (.inr (0, [.ref (b + 6), .int (nI 4), .int (nI (τ.2.1 2))]))) := by rw [hsr2]; exact hwc2.r2 _
  have hor2 : Out b 13 h (hc2.set (b + 5) (.inr (0, [.ref (b + 6), .int (nI 4), .int (nI (τ.2.1 2))]))) := hoc2.set (by omega) (by omega)
  have hBr2 : WB sr2 := by rw [hsr2]; exact ⟨hBc2.1, hBc2.2.1, hA.2.2.1, hBc2.2.2.2⟩
  generalize hhr2 : (hc2.set (b + 5) (.inr (0, [.ref (b + 6), .int (nI 4), .int (nI (τ.2.1 2))]))) = hr2 at hwr2 hor2 ⊢
  clear hhr2
  refine w_aload_n (pc := 33) (i := 0) dX1_copyFrom_33 rfl rfl ?_
  refine w_get (pc := 34) dX1_copyFrom_34 FX1_26 hwr2.1 rfl ?_
  refine w_aload_n (pc := 37) (i := 1) dX1_copyFrom_37 rfl rfl ?_
  refine w_get (pc := 38) dX1_copyFrom_38 FX1_26 (ha.out hor2 hab).1 rfl ?_
  refine w_vV (pc := 41) dX1_copyFrom_41 GX1_52 hwr2.t3.1 (c_copyFrom hwr2.t3 (ha.out hor2 hab).t3 hBr2.b3 (by omega) (by omega) (by omega)) rfl rfl rfl rfl ?_
  obtain ⟨sc3, hsc3⟩ : ∃ z : WS, z = uA sr2 3 (va_cpy (τ.1 3) (sr2.1 3) 0 0 24) := ⟨_, rfl⟩
  have hwc3 : Wk b sc3 (hr2.set (b + 8) (.inl (24, .inl (va_cpy (τ.1 3) (sr2.1 3) 0 0 24)))) := by rw [hsc3]; exact hwr2.c3 _
  have hoc3 : Out b 13 h (hr2.set (b + 8) (.inl (24, .inl (va_cpy (τ.1 3) (sr2.1 3) 0 0 24)))) := hor2.set (by omega) (by omega)
  have hBc3 : WB sc3 := by rw [hsc3]; exact hBr2.uA
  generalize hhc3 : (hr2.set (b + 8) (.inl (24, .inl (va_cpy (τ.1 3) (sr2.1 3) 0 0 24)))) = hc3 at hwc3 hoc3 ⊢
  clear hhc3
  obtain ⟨sr3, hsr3⟩ : ∃ z : WS, z = uR sc3 3 (τ.2.1 3) := ⟨_, rfl⟩
  have hwr3 : Wk b sr3 (hc3.set (b + 7) (.inr (0, [.ref (b + 8), .int (nI 4), .int (nI (τ.2.1 3))]))) := by rw [hsr3]; exact hwc3.r3 _
  have hor3 : Out b 13 h (hc3.set (b + 7) (.inr (0, [.ref (b + 8), .int (nI 4), .int (nI (τ.2.1 3))]))) := hoc3.set (by omega) (by omega)
  have hBr3 : WB sr3 := by rw [hsr3]; exact ⟨hBc3.1, hBc3.2.1, hBc3.2.2.1, hA.2.2.2.1, hBc3.2.2.2.2⟩
  generalize hhr3 : (hc3.set (b + 7) (.inr (0, [.ref (b + 8), .int (nI 4), .int (nI (τ.2.1 3))]))) = hr3 at hwr3 hor3 ⊢
  clear hhr3
  refine w_aload_n (pc := 44) (i := 0) dX1_copyFrom_44 rfl rfl ?_
  refine w_get (pc := 45) dX1_copyFrom_45 FX1_29 hwr3.1 rfl ?_
  refine w_aload_n (pc := 48) (i := 1) dX1_copyFrom_48 rfl rfl ?_
  refine w_get (pc := 49) dX1_copyFrom_49 FX1_29 (ha.out hor3 hab).1 rfl ?_
  refine w_vV (pc := 52) dX1_copyFrom_52 GX1_52 hwr3.t4.1 (c_copyFrom hwr3.t4 (ha.out hor3 hab).t4 hBr3.b4 (by omega) (by omega) (by omega)) rfl rfl rfl rfl ?_
  obtain ⟨sc4, hsc4⟩ : ∃ z : WS, z = uA sr3 4 (va_cpy (τ.1 4) (sr3.1 4) 0 0 32) := ⟨_, rfl⟩
  have hwc4 : Wk b sc4 (hr3.set (b + 10) (.inl (32, .inl (va_cpy (τ.1 4) (sr3.1 4) 0 0 32)))) := by rw [hsc4]; exact hwr3.c4 _
  have hoc4 : Out b 13 h (hr3.set (b + 10) (.inl (32, .inl (va_cpy (τ.1 4) (sr3.1 4) 0 0 32)))) := hor3.set (by omega) (by omega)
  have hBc4 : WB sc4 := by rw [hsc4]; exact hBr3.uA
  generalize hhc4 : (hr3.set (b + 10) (.inl (32, .inl (va_cpy (τ.1 4) (sr3.1 4) 0 0 32)))) = hc4 at hwc4 hoc4 ⊢
  clear hhc4
  obtain ⟨sr4, hsr4⟩ : ∃ z : WS, z = uR sc4 4 (τ.2.1 4) := ⟨_, rfl⟩
  have hwr4 : Wk b sr4 (hc4.set (b + 9) (.inr (0, [.ref (b + 10), .int (nI 4), .int (nI (τ.2.1 4))]))) := by rw [hsr4]; exact hwc4.r4 _
  have hor4 : Out b 13 h (hc4.set (b + 9) (.inr (0, [.ref (b + 10), .int (nI 4), .int (nI (τ.2.1 4))]))) := hoc4.set (by omega) (by omega)
  have hBr4 : WB sr4 := by rw [hsr4]; exact ⟨hBc4.1, hBc4.2.1, hBc4.2.2.1, hBc4.2.2.2.1, hA.2.2.2.2⟩
  generalize hhr4 : (hc4.set (b + 9) (.inr (0, [.ref (b + 10), .int (nI 4), .int (nI (τ.2.1 4))]))) = hr4 at hwr4 hor4 ⊢
  clear hhr4
  refine w_aload_n (pc := 55) (i := 1) dX1_copyFrom_55 rfl rfl ?_
  refine w_get (pc := 56) dX1_copyFrom_56 FX1_32 (ha.out hor4 hab).1 rfl ?_
  refine w_iconst (pc := 59) (v := 0) dX1_copyFrom_59 (by decide) ?_
  refine w_aload_n (pc := 60) (i := 0) dX1_copyFrom_60 rfl rfl ?_
  refine w_get (pc := 61) dX1_copyFrom_61 FX1_32 hwr4.1 rfl ?_
  refine w_iconst (pc := 64) (v := 0) dX1_copyFrom_64 (by decide) ?_
  refine w_bipush (pc := 65) (v := 7) dX1_copyFrom_65 (by decide) ?_
  refine w_copy (pc := 67) (sp := 0) (dp := 0) (cn := 7) dX1_copyFrom_67 LX1_56 (by omega) rfl (Nat.le_of_ble_eq_true rfl) (ha.out hor4 hab).dr hwr4.dr (by omega) (by omega) (by omega) (by omega) ?_
  obtain ⟨sdr, hsdr⟩ : ∃ z : WS, z = uA sr4 5 (va_cpy (τ.1 5) (sr4.1 5) 0 0 7) := ⟨_, rfl⟩
  have hwdr : Wk b sdr (hr4.set (b + 11) (.inl (7, .inl (va_cpy (τ.1 5) (sr4.1 5) 0 0 7)))) := by rw [hsdr]; exact hwr4.cdr _
  have hodr : Out b 13 h (hr4.set (b + 11) (.inl (7, .inl (va_cpy (τ.1 5) (sr4.1 5) 0 0 7)))) := hor4.set (by omega) (by omega)
  have hBdr : WB sdr := by rw [hsdr]; exact hBr4.uA
  generalize hhdr : (hr4.set (b + 11) (.inl (7, .inl (va_cpy (τ.1 5) (sr4.1 5) 0 0 7)))) = hdr at hwdr hodr ⊢
  clear hhdr
  refine w_aload_n (pc := 70) (i := 1) dX1_copyFrom_70 rfl rfl ?_
  refine w_get (pc := 71) dX1_copyFrom_71 FX1_36 (ha.out hodr hab).1 rfl ?_
  refine w_iconst (pc := 74) (v := 0) dX1_copyFrom_74 (by decide) ?_
  refine w_aload_n (pc := 75) (i := 0) dX1_copyFrom_75 rfl rfl ?_
  refine w_get (pc := 76) dX1_copyFrom_76 FX1_36 hwdr.1 rfl ?_
  refine w_iconst (pc := 79) (v := 0) dX1_copyFrom_79 (by decide) ?_
  refine w_bipush (pc := 80) (v := 25) dX1_copyFrom_80 (by decide) ?_
  refine w_copy (pc := 82) (sp := 0) (dp := 0) (cn := 25) dX1_copyFrom_82 LX1_56 (by omega) rfl (Nat.le_of_ble_eq_true rfl) (ha.out hodr hab).wh hwdr.wh (by omega) (by omega) (by omega) (by omega) ?_
  obtain ⟨swh, hswh⟩ : ∃ z : WS, z = uA sdr 6 (va_cpy (τ.1 6) (sdr.1 6) 0 0 25) := ⟨_, rfl⟩
  have hwwh : Wk b swh (hdr.set (b + 12) (.inl (25, .inl (va_cpy (τ.1 6) (sdr.1 6) 0 0 25)))) := by rw [hswh]; exact hwdr.cwh _
  have howh : Out b 13 h (hdr.set (b + 12) (.inl (25, .inl (va_cpy (τ.1 6) (sdr.1 6) 0 0 25)))) := hodr.set (by omega) (by omega)
  have hBwh : WB swh := by rw [hswh]; exact hBdr.uA
  generalize hhwh : (hdr.set (b + 12) (.inl (25, .inl (va_cpy (τ.1 6) (sdr.1 6) 0 0 25)))) = hwh at hwwh howh ⊢
  clear hhwh
  refine w_aload_n (pc := 85) (i := 0) dX1_copyFrom_85 rfl rfl ?_
  refine w_aload_n (pc := 86) (i := 1) dX1_copyFrom_86 rfl rfl ?_
  refine w_get (pc := 87) dX1_copyFrom_87 FX1_62 (ha.out howh hab).1 rfl ?_
  refine w_put (pc := 90) dX1_copyFrom_90 UX1_62 hwwh.1 (Nat.le_of_ble_eq_true rfl) nv_i (fun _ q => by cases q) ?_
  obtain ⟨s90, hs90⟩ : ∃ z : WS, z = uS swh 0 (τ.2.2 0) := ⟨_, rfl⟩
  have hw90 : Wk b s90 (hwh.set b (.inr (1, (wkF b swh).set 7 (.int (τ.2.2 0))))) := by rw [hs90]; exact hwwh.s0 _
  have ho90 : Out b 13 h (hwh.set b (.inr (1, (wkF b swh).set 7 (.int (τ.2.2 0))))) := howh.set (by omega) (by omega)
  have hB90 : WB s90 := by rw [hs90]; exact hBwh.uS
  generalize hh90 : (hwh.set b (.inr (1, (wkF b swh).set 7 (.int (τ.2.2 0))))) = h90 at hw90 ho90 ⊢
  clear hh90
  refine w_aload_n (pc := 93) (i := 0) dX1_copyFrom_93 rfl rfl ?_
  refine w_aload_n (pc := 94) (i := 1) dX1_copyFrom_94 rfl rfl ?_
  refine w_get (pc := 95) dX1_copyFrom_95 FX1_39 (ha.out ho90 hab).1 rfl ?_
  refine w_put (pc := 98) dX1_copyFrom_98 UX1_39 hw90.1 (Nat.le_of_ble_eq_true rfl) nv_i (fun _ q => by cases q) ?_
  obtain ⟨s98, hs98⟩ : ∃ z : WS, z = uS s90 1 (τ.2.2 1) := ⟨_, rfl⟩
  have hw98 : Wk b s98 (h90.set b (.inr (1, (wkF b s90).set 8 (.int (τ.2.2 1))))) := by rw [hs98]; exact hw90.s1 _
  have ho98 : Out b 13 h (h90.set b (.inr (1, (wkF b s90).set 8 (.int (τ.2.2 1))))) := ho90.set (by omega) (by omega)
  have hB98 : WB s98 := by rw [hs98]; exact hB90.uS
  generalize hh98 : (h90.set b (.inr (1, (wkF b s90).set 8 (.int (τ.2.2 1))))) = h98 at hw98 ho98 ⊢
  clear hh98
  refine w_aload_n (pc := 101) (i := 0) dX1_copyFrom_101 rfl rfl ?_
  refine w_aload_n (pc := 102) (i := 1) dX1_copyFrom_102 rfl rfl ?_
  refine w_get (pc := 103) dX1_copyFrom_103 FX1_43 (ha.out ho98 hab).1 rfl ?_
  refine w_put (pc := 106) dX1_copyFrom_106 UX1_43 hw98.1 (Nat.le_of_ble_eq_true rfl) nv_i (fun _ q => by cases q) ?_
  obtain ⟨s106, hs106⟩ : ∃ z : WS, z = uS s98 2 (τ.2.2 2) := ⟨_, rfl⟩
  have hw106 : Wk b s106 (h98.set b (.inr (1, (wkF b s98).set 9 (.int (τ.2.2 2))))) := by rw [hs106]; exact hw98.s2 _
  have ho106 : Out b 13 h (h98.set b (.inr (1, (wkF b s98).set 9 (.int (τ.2.2 2))))) := ho98.set (by omega) (by omega)
  have hB106 : WB s106 := by rw [hs106]; exact hB98.uS
  generalize hh106 : (h98.set b (.inr (1, (wkF b s98).set 9 (.int (τ.2.2 2))))) = h106 at hw106 ho106 ⊢
  clear hh106
  refine w_aload_n (pc := 109) (i := 0) dX1_copyFrom_109 rfl rfl ?_
  refine w_aload_n (pc := 110) (i := 1) dX1_copyFrom_110 rfl rfl ?_
  refine w_get (pc := 111) dX1_copyFrom_111 FX1_46 (ha.out ho106 hab).1 rfl ?_
  refine w_put (pc := 114) dX1_copyFrom_114 UX1_46 hw106.1 (Nat.le_of_ble_eq_true rfl) nv_i (fun _ q => by cases q) ?_
  obtain ⟨s114, hs114⟩ : ∃ z : WS, z = uS s106 3 (τ.2.2 3) := ⟨_, rfl⟩
  have hw114 : Wk b s114 (h106.set b (.inr (1, (wkF b s106).set 10 (.int (τ.2.2 3))))) := by rw [hs114]; exact hw106.s3 _
  have ho114 : Out b 13 h (h106.set b (.inr (1, (wkF b s106).set 10 (.int (τ.2.2 3))))) := ho106.set (by omega) (by omega)
  have hB114 : WB s114 := by rw [hs114]; exact hB106.uS
  generalize hh114 : (h106.set b (.inr (1, (wkF b s106).set 10 (.int (τ.2.2 3))))) = h114 at hw114 ho114 ⊢
  clear hh114
  refine w_aload_n (pc := 117) (i := 0) dX1_copyFrom_117 rfl rfl ?_
  refine w_aload_n (pc := 118) (i := 1) dX1_copyFrom_118 rfl rfl ?_
  refine w_get (pc := 119) dX1_copyFrom_119 FX1_65 (ha.out ho114 hab).1 rfl ?_
  refine w_put (pc := 122) dX1_copyFrom_122 UX1_65 hw114.1 (Nat.le_of_ble_eq_true rfl) nv_i (fun _ q => by cases q) ?_
  obtain ⟨s122, hs122⟩ : ∃ z : WS, z = uS s114 4 (τ.2.2 4) := ⟨_, rfl⟩
  have hw122 : Wk b s122 (h114.set b (.inr (1, (wkF b s114).set 11 (.int (τ.2.2 4))))) := by rw [hs122]; exact hw114.s4 _
  have ho122 : Out b 13 h (h114.set b (.inr (1, (wkF b s114).set 11 (.int (τ.2.2 4))))) := ho114.set (by omega) (by omega)
  have hB122 : WB s122 := by rw [hs122]; exact hB114.uS
  generalize hh122 : (h114.set b (.inr (1, (wkF b s114).set 11 (.int (τ.2.2 4))))) = h122 at hw122 ho122 ⊢
  clear hh122
  refine w_aload_n (pc := 125) (i := 0) dX1_copyFrom_125 rfl rfl ?_
  refine w_aload_n (pc := 126) (i := 1) dX1_copyFrom_126 rfl rfl ?_
  refine w_get (pc := 127) dX1_copyFrom_127 FX1_68 (ha.out ho122 hab).1 rfl ?_
  refine w_put (pc := 130) dX1_copyFrom_130 UX1_68 hw122.1 (Nat.le_of_ble_eq_true rfl) nv_i (fun _ q => by cases q) ?_
  obtain ⟨s130, hs130⟩ : ∃ z : WS, z = uS s122 5 (τ.2.2 5) := ⟨_, rfl⟩
  have hw130 : Wk b s130 (h122.set b (.inr (1, (wkF b s122).set 12 (.int (τ.2.2 5))))) := by rw [hs130]; exact hw122.s5 _
  have ho130 : Out b 13 h (h122.set b (.inr (1, (wkF b s122).set 12 (.int (τ.2.2 5))))) := ho122.set (by omega) (by omega)
  have hB130 : WB s130 := by rw [hs130]; exact hB122.uS
  generalize hh130 : (h122.set b (.inr (1, (wkF b s122).set 12 (.int (τ.2.2 5))))) = h130 at hw130 ho130 ⊢
  clear hh130
  refine w_aload_n (pc := 133) (i := 0) dX1_copyFrom_133 rfl rfl ?_
  refine w_aload_n (pc := 134) (i := 1) dX1_copyFrom_134 rfl rfl ?_
  refine w_get (pc := 135) dX1_copyFrom_135 FX1_71 (ha.out ho130 hab).1 rfl ?_
  refine w_put (pc := 138) dX1_copyFrom_138 UX1_71 hw130.1 (Nat.le_of_ble_eq_true rfl) nv_i (fun _ q => by cases q) ?_
  obtain ⟨s138, hs138⟩ : ∃ z : WS, z = uS s130 6 (τ.2.2 6) := ⟨_, rfl⟩
  have hw138 : Wk b s138 (h130.set b (.inr (1, (wkF b s130).set 13 (.int (τ.2.2 6))))) := by rw [hs138]; exact hw130.s6 _
  have ho138 : Out b 13 h (h130.set b (.inr (1, (wkF b s130).set 13 (.int (τ.2.2 6))))) := ho130.set (by omega) (by omega)
  have hB138 : WB s138 := by rw [hs138]; exact hB130.uS
  generalize hh138 : (h130.set b (.inr (1, (wkF b s130).set 13 (.int (τ.2.2 6))))) = h138 at hw138 ho138 ⊢
  clear hh138
  refine w_aload_n (pc := 141) (i := 0) dX1_copyFrom_141 rfl rfl ?_
  refine w_aload_n (pc := 142) (i := 1) dX1_copyFrom_142 rfl rfl ?_
  refine w_get (pc := 143) dX1_copyFrom_143 FX1_74 (ha.out ho138 hab).1 rfl ?_
  refine w_put (pc := 146) dX1_copyFrom_146 UX1_74 hw138.1 (Nat.le_of_ble_eq_true rfl) nv_i (fun _ q => by cases q) ?_
  obtain ⟨s146, hs146⟩ : ∃ z : WS, z = uS s138 7 (τ.2.2 7) := ⟨_, rfl⟩
  have hw146 : Wk b s146 (h138.set b (.inr (1, (wkF b s138).set 14 (.int (τ.2.2 7))))) := by rw [hs146]; exact hw138.s7 _
  have ho146 : Out b 13 h (h138.set b (.inr (1, (wkF b s138).set 14 (.int (τ.2.2 7))))) := ho138.set (by omega) (by omega)
  have hB146 : WB s146 := by rw [hs146]; exact hB138.uS
  generalize hh146 : (h138.set b (.inr (1, (wkF b s138).set 14 (.int (τ.2.2 7))))) = h146 at hw146 ho146 ⊢
  clear hh146
  refine w_aload_n (pc := 149) (i := 0) dX1_copyFrom_149 rfl rfl ?_
  refine w_iconst (pc := 150) (v := -1) dX1_copyFrom_150 (by decide) ?_
  refine w_put (pc := 151) dX1_copyFrom_151 UX1_49 hw146.1 (Nat.le_of_ble_eq_true rfl) nv_i (fun _ q => by cases q) ?_
  obtain ⟨s151, hs151⟩ : ∃ z : WS, z = uS s146 8 (-1) := ⟨_, rfl⟩
  have hw151 : Wk b s151 (h146.set b (.inr (1, (wkF b s146).set 15 (.int (-1))))) := by rw [hs151]; exact hw146.s8 _
  have ho151 : Out b 13 h (h146.set b (.inr (1, (wkF b s146).set 15 (.int (-1))))) := ho146.set (by omega) (by omega)
  have hB151 : WB s151 := by rw [hs151]; exact hB146.uS
  generalize hh151 : (h146.set b (.inr (1, (wkF b s146).set 15 (.int (-1))))) = h151 at hw151 ho151 ⊢
  clear hh151
  refine w_aload_n (pc := 154) (i := 0) dX1_copyFrom_154 rfl rfl ?_
  refine w_iconst (pc := 155) (v := 0) dX1_copyFrom_155 (by decide) ?_
  refine w_put (pc := 156) dX1_copyFrom_156 UX1_77 hw151.1 (Nat.le_of_ble_eq_true rfl) (nv_z (Or.inl rfl)) (fun _ q => by cases q) ?_
  obtain ⟨s156, hs156⟩ : ∃ z : WS, z = uS s151 9 (0) := ⟨_, rfl⟩
  have hw156 : Wk b s156 (h151.set b (.inr (1, (wkF b s151).set 16 (.int (0))))) := by rw [hs156]; exact hw151.s9 _
  have ho156 : Out b 13 h (h151.set b (.inr (1, (wkF b s151).set 16 (.int (0))))) := ho151.set (by omega) (by omega)
  have hB156 : WB s156 := by rw [hs156]; exact hB151.uS
  generalize hh156 : (h151.set b (.inr (1, (wkF b s151).set 16 (.int (0))))) = h156 at hw156 ho156 ⊢
  clear hh156
  subst hsc0 hsr0 hsc1 hsr1 hsc2 hsr2 hsc3 hsr3 hsc4 hsr4 hsdr hswh hs90 hs98 hs106 hs114 hs122 hs130 hs138 hs146 hs151 hs156
  exact w_return (pc := 159) dX1_copyFrom_159 rfl ⟨none, rfl, rfl, hw156, ho156⟩
end WORKS6
