/-! the reference: the model's calls, one by one -/
theorem nI_ne {n m : Nat} (h : ¬ nI n = nI m) : ¬ n = m := fun q => h (by rw [q])
section MODEL2
variable {d : Nat} {μ : MS} {τ : ST} {t : Int32} {h : AH}
set_option maxHeartbeats 1000000 in
theorem c_X4_mould (x y : Int32) (hp : Rm (μ, τ) t h) (h0 : μ.2 0 ≤ 6) (h1 : μ.2 1 ≤ 5) (hT : TB τ)  : Ct (d + 5) mX4_mould 0 0 [.ref 27, .int x, .int y] h (RRet (bMould (μ, τ) x y) h) := by
  refine Ct.of (by decide +kernel) rfl (Nat.le_of_ble_eq_true rfl) ?_
  show WP (d + 5) mX4_mould none 0 0 0 [.ref 27, .int x, .int y] [] h _
  have ho : GOut 27 65 h h := GOut.rf
  have hT0 := hT.1
  have hT1 := hT.2
  refine w_aload_n (pc := 0) (i := 0) dX4_mould_0 rfl rfl ?_
  refine w_iconst (pc := 1) (v := 0) dX4_mould_1 (by decide) ?_
  refine w_put (pc := 2) dX4_mould_2 UX4_34 hp.1.1 (Nat.le_of_ble_eq_true rfl) nv_i (fun _ q => by cases q) ?_
  have hp2 : Rm (μ, τ) 0 (h.set 27 (.inr (4, (mdF μ t).set 0 (.int 0)))) := by exact hp.md (hp.1.s0 _) (GOut.rf.set (by omega) (by omega))
  have ho2 : GOut 27 65 h (h.set 27 (.inr (4, (mdF μ t).set 0 (.int 0)))) := ho.set (by omega) (by omega)
  show WP _ _ _ _ _ _ _ _ (h.set 27 (.inr (4, (mdF μ t).set 0 (.int 0)))) _
  generalize hh2 : (h.set 27 (.inr (4, (mdF μ t).set 0 (.int 0)))) = h2 at hp2 ho2 ⊢
  clear hh2
  refine w_iload_n (pc := 5) (i := 1) dX4_mould_5 rfl rfl ?_
  refine w_sI (pc := 6) dX4_mould_6 GX4_51 (c_risLength x h2) rfl rfl rfl rfl ?_
  refine w_if_eq (pc := 9) (tgt := 22) dX4_mould_9 (by decide) (fun c9 => ?_) (fun c9 => ?_)
  · refine w_aload_n (pc := 22) (i := 0) dX4_mould_22 rfl rfl ?_
    refine w_iconst (pc := 23) (v := 1) dX4_mould_23 (by decide) ?_
    refine w_vQ (pc := 24) dX4_mould_24 GX4_55 hp2.1.1 (c_no 1 hp2) rfl rfl rfl rfl ?_
    rintro vn hn ⟨rfl, hpn, hon⟩
    exact w_ireturn (pc := 27) dX4_mould_27 ⟨_, rfl, rfl⟩ (RRet.of (by unfold bMould; dsimp only; rw [if_pos c9] <;> rfl) hpn (ho2.tr hon))
  · refine w_iload_n (pc := 12) (i := 2) dX4_mould_12 rfl rfl ?_
    refine w_iconst (pc := 13) (v := 0) dX4_mould_13 (by decide) ?_
    refine w_bipush (pc := 14) (v := 9) dX4_mould_14 (by decide) ?_
    refine w_sI (pc := 16) dX4_mould_16 GX4_38 (c_isIn y 0 9 h2) rfl rfl rfl rfl ?_
    refine w_if_ne (pc := 19) (tgt := 28) dX4_mould_19 (by decide) (fun c19 => ?_) (fun c19 => ?_)
    · refine w_aload_n (pc := 28) (i := 0) dX4_mould_28 rfl rfl ?_
      refine w_get (pc := 29) dX4_mould_29 FX4_42 hp2.1.1 rfl ?_
      refine w_bipush (pc := 32) (v := 6) dX4_mould_32 (by decide) ?_
      refine w_icmp_ne (pc := 34) (tgt := 43) dX4_mould_34 (by decide) (fun c34 => ?_) (fun c34 => ?_)
      · have hlt : μ.2 0 < 6 := by have := nI_ne (n := μ.2 0) (m := 6) c34; omega
        have hmn : (nI (μ.2 0)).toNatClampNeg = μ.2 0 := nI_clamp (by omega)
        refine w_aload_n (pc := 43) (i := 0) dX4_mould_43 rfl rfl ?_
        refine w_get (pc := 44) dX4_mould_44 FX4_13 hp2.1.1 rfl ?_
        refine w_aload_n (pc := 47) (i := 0) dX4_mould_47 rfl rfl ?_
        refine w_get (pc := 48) dX4_mould_48 FX4_42 hp2.1.1 rfl ?_
        refine w_iload_n (pc := 51) (i := 1) dX4_mould_51 rfl rfl ?_
        refine w_iast (pc := 52) dX4_mould_52 hp2.1.2.2.1 (vp_in_nI hlt (by omega)) ?_
        rw [hmn]
        obtain ⟨u52, eu52⟩ : ∃ z : MS, z = mA μ 1 (upd (μ.1 1) (μ.2 0) x) := ⟨_, rfl⟩
        have hp52 : Rm (u52, τ) 0 (h2.set 29 (.inl (6, .inl (upd (μ.1 1) (μ.2 0) x)))) := by rw [eu52]; exact hp2.md (hp2.1.a1 _) (GOut.rf.set (by omega) (by omega))
        have ho52 : GOut 27 65 h (h2.set 29 (.inl (6, .inl (upd (μ.1 1) (μ.2 0) x)))) := ho2.set (by omega) (by omega)
        show WP _ _ _ _ _ _ _ _ (h2.set 29 (.inl (6, .inl (upd (μ.1 1) (μ.2 0) x)))) _
        generalize hh52 : (h2.set 29 (.inl (6, .inl (upd (μ.1 1) (μ.2 0) x)))) = h52 at hp52 ho52 ⊢
        clear hh52
        have hk52 : u52.2 0 = μ.2 0 := by rw [eu52]; rfl
        refine w_aload_n (pc := 53) (i := 0) dX4_mould_53 rfl rfl ?_
        refine w_get (pc := 54) dX4_mould_54 FX4_27 hp52.1.1 rfl ?_
        refine w_get (pc := 57) dX4_mould_57 FX4_59 hp52.2.1.1 rfl ?_
        refine w_aload_n (pc := 60) (i := 0) dX4_mould_60 rfl rfl ?_
        refine w_get (pc := 61) dX4_mould_61 FX4_42 hp52.1.1 rfl ?_
        rw [hk52]
        refine w_iload_n (pc := 64) (i := 2) dX4_mould_64 rfl rfl ?_
        refine w_iast (pc := 65) dX4_mould_65 hp52.2.1.tight (vp_in_nI hlt (by omega)) ?_
        rw [hmn]
        obtain ⟨s65, es65⟩ : ∃ z : ST, z = tA τ 0 (upd (τ.1 0) (μ.2 0) y) := ⟨_, rfl⟩
        have hp65 : Rm (u52, s65) 0 (h52.set (32 + 1) (.inl (6, .inl (upd (τ.1 0) (μ.2 0) y)))) := by rw [es65]; exact hp52.st (hp52.2.1.a0 _) (GOut.rf.set (by omega) (by omega))
        have ho65 : GOut 27 65 h (h52.set (32 + 1) (.inl (6, .inl (upd (τ.1 0) (μ.2 0) y)))) := ho52.set (by omega) (by omega)
        show WP _ _ _ _ _ _ _ _ (h52.set (32 + 1) (.inl (6, .inl (upd (τ.1 0) (μ.2 0) y)))) _
        generalize hh65 : (h52.set (32 + 1) (.inl (6, .inl (upd (τ.1 0) (μ.2 0) y)))) = h65 at hp65 ho65 ⊢
        clear hh65
        refine w_aload_n (pc := 66) (i := 0) dX4_mould_66 rfl rfl ?_
        refine w_dup (pc := 67) dX4_mould_67 rfl ?_
        refine w_get (pc := 68) dX4_mould_68 FX4_42 hp65.1.1 rfl ?_
        refine w_iconst (pc := 71) (v := 1) dX4_mould_71 (by decide) ?_
        refine w_iadd (pc := 72) dX4_mould_72 ?_
        rw [nI_1, hk52]
        refine w_put (pc := 73) dX4_mould_73 UX4_42 hp65.1.1 (Nat.le_of_ble_eq_true rfl) nv_i (fun _ q => by cases q) ?_
        obtain ⟨u73, eu73⟩ : ∃ z : MS, z = mC u52 0 (μ.2 0 + 1) := ⟨_, rfl⟩
        have hp73 : Rm (u73, s65) 0 (h65.set 27 (.inr (4, (mdF u52 0).set 2 (.int (nI (μ.2 0 + 1)))))) := by rw [eu73]; exact hp65.md (hp65.1.c0 _) (GOut.rf.set (by omega) (by omega))
        have ho73 : GOut 27 65 h (h65.set 27 (.inr (4, (mdF u52 0).set 2 (.int (nI (μ.2 0 + 1)))))) := ho65.set (by omega) (by omega)
        show WP _ _ _ _ _ _ _ _ (h65.set 27 (.inr (4, (mdF u52 0).set 2 (.int (nI (μ.2 0 + 1)))))) _
        generalize hh73 : (h65.set 27 (.inr (4, (mdF u52 0).set 2 (.int (nI (μ.2 0 + 1)))))) = h73 at hp73 ho73 ⊢
        clear hh73
        refine w_aload_n (pc := 76) (i := 0) dX4_mould_76 rfl rfl ?_
        refine w_get (pc := 77) dX4_mould_77 FX4_42 hp73.1.1 rfl ?_
        refine w_iconst (pc := 80) (v := 1) dX4_mould_80 (by decide) ?_
        refine w_isub (pc := 81) dX4_mould_81 ?_
        rw [show nI (u73.2 0) - 1 = nI (μ.2 0) from by rw [eu73]; exact pk_sub (a := μ.2 0 + 1) (b := 1) (by omega)]
        exact w_ireturn (pc := 82) dX4_mould_82 ⟨_, rfl, rfl⟩ (RRet.of (by rw [eu73, es65, eu52]; unfold bMould; dsimp only; rw [if_neg c9, if_neg c19, if_neg c34] <;> rfl) hp73 ho73)
      · refine w_aload_n (pc := 37) (i := 0) dX4_mould_37 rfl rfl ?_
        refine w_iconst (pc := 38) (v := 2) dX4_mould_38 (by decide) ?_
        refine w_vQ (pc := 39) dX4_mould_39 GX4_55 hp2.1.1 (c_no 2 hp2) rfl rfl rfl rfl ?_
        rintro vn hn ⟨rfl, hpn, hon⟩
        exact w_ireturn (pc := 42) dX4_mould_42 ⟨_, rfl, rfl⟩ (RRet.of (by unfold bMould; dsimp only; rw [if_neg c9, if_neg c19, if_pos c34] <;> rfl) hpn (ho2.tr hon))
    · refine w_aload_n (pc := 22) (i := 0) dX4_mould_22 rfl rfl ?_
      refine w_iconst (pc := 23) (v := 1) dX4_mould_23 (by decide) ?_
      refine w_vQ (pc := 24) dX4_mould_24 GX4_55 hp2.1.1 (c_no 1 hp2) rfl rfl rfl rfl ?_
      rintro vn hn ⟨rfl, hpn, hon⟩
      exact w_ireturn (pc := 27) dX4_mould_27 ⟨_, rfl, rfl⟩ (RRet.of (by unfold bMould; dsimp only; rw [if_neg c9, if_pos c19] <;> rfl) hpn (ho2.tr hon))
set_option maxHeartbeats 1000000 in
theorem c_X4_refit (x : Int32) (hp : Rm (μ, τ) t h) (h0 : μ.2 0 ≤ 6) (h1 : μ.2 1 ≤ 5) (hT : TB τ)  : Ct (d + 5) mX4_refit 0 0 [.ref 27, .int x] h (RRet (bRefit (μ, τ) x) h) := by
  refine Ct.of (by decide +kernel) rfl (Nat.le_of_ble_eq_true rfl) ?_
  show WP (d + 5) mX4_refit none 0 0 0 [.ref 27, .int x, vU] [] h _
  have ho : GOut 27 65 h h := GOut.rf
  have hT0 := hT.1
  have hT1 := hT.2
  refine w_aload_n (pc := 0) (i := 0) dX4_refit_0 rfl rfl ?_
  refine w_iconst (pc := 1) (v := 0) dX4_refit_1 (by decide) ?_
  refine w_put (pc := 2) dX4_refit_2 UX4_34 hp.1.1 (Nat.le_of_ble_eq_true rfl) nv_i (fun _ q => by cases q) ?_
  have hp2 : Rm (μ, τ) 0 (h.set 27 (.inr (4, (mdF μ t).set 0 (.int 0)))) := by exact hp.md (hp.1.s0 _) (GOut.rf.set (by omega) (by omega))
  have ho2 : GOut 27 65 h (h.set 27 (.inr (4, (mdF μ t).set 0 (.int 0)))) := ho.set (by omega) (by omega)
  show WP _ _ _ _ _ _ _ _ (h.set 27 (.inr (4, (mdF μ t).set 0 (.int 0)))) _
  generalize hh2 : (h.set 27 (.inr (4, (mdF μ t).set 0 (.int 0)))) = h2 at hp2 ho2 ⊢
  clear hh2
  refine w_aload_n (pc := 5) (i := 0) dX4_refit_5 rfl rfl ?_
  refine w_iload_n (pc := 6) (i := 1) dX4_refit_6 rfl rfl ?_
  refine w_vI (pc := 7) dX4_refit_7 GX4_62 hp2.1.1 (c_isMould x hp2) rfl rfl rfl rfl ?_
  refine w_if_ne (pc := 10) (tgt := 19) dX4_refit_10 (by decide) (fun c10 => ?_) (fun c10 => ?_)
  · obtain ⟨m, hm, ex⟩ := hR_of c10 (by omega)
    subst ex
    have hmn : (nI m).toNatClampNeg = m := nI_clamp (by omega)
    refine w_aload_n (pc := 19) (i := 0) dX4_refit_19 rfl rfl ?_
    refine w_get (pc := 20) dX4_refit_20 FX4_27 hp2.1.1 rfl ?_
    refine w_get (pc := 23) dX4_refit_23 FX4_59 hp2.2.1.1 rfl ?_
    refine w_iload_n (pc := 26) (i := 1) dX4_refit_26 rfl rfl ?_
    refine w_iald (pc := 27) dX4_refit_27 hp2.2.1.tight (vp_in_nI (by omega) (by omega)) ?_
    rw [hmn]
    refine w_topi (fun x28 e28 => ?_)
    refine w_istore_n (pc := 28) (i := 2) (ls' := [.ref 27, .int (nI m), .int x28]) dX4_refit_28 rfl (by decide) rfl rfl rfl ?_
    subst e28
    refine w_iload_n (pc := 29) (i := 2) dX4_refit_29 rfl rfl ?_
    refine w_bipush (pc := 30) (v := 9) dX4_refit_30 (by decide) ?_
    refine w_icmp_eq (pc := 32) (tgt := 46) dX4_refit_32 (by decide) (fun c32 => ?_) (fun c32 => ?_)
    · refine w_aload_n (pc := 46) (i := 0) dX4_refit_46 rfl rfl ?_
      refine w_iconst (pc := 47) (v := 2) dX4_refit_47 (by decide) ?_
      refine w_vQ (pc := 48) dX4_refit_48 GX4_55 hp2.1.1 (c_no 2 hp2) rfl rfl rfl rfl ?_
      rintro vn hn ⟨rfl, hpn, hon⟩
      exact w_ireturn (pc := 51) dX4_refit_51 ⟨_, rfl, rfl⟩ (RRet.of (by unfold bRefit; dsimp only; rw [if_neg c10, hmn, if_pos c32] <;> rfl) hpn (ho2.tr hon))
    · refine w_aload_n (pc := 35) (i := 0) dX4_refit_35 rfl rfl ?_
      refine w_get (pc := 36) dX4_refit_36 FX4_27 hp2.1.1 rfl ?_
      refine w_get (pc := 39) dX4_refit_39 FX4_65 hp2.2.1.1 rfl ?_
      refine w_iconst (pc := 42) (v := 2) dX4_refit_42 (by decide) ?_
      refine w_icmp_ge (pc := 43) (tgt := 52) dX4_refit_43 (by decide) (fun c43 => ?_) (fun c43 => ?_)
      · refine w_aload_n (pc := 52) (i := 0) dX4_refit_52 rfl rfl ?_
        refine w_get (pc := 53) dX4_refit_53 FX4_27 hp2.1.1 rfl ?_
        refine w_get (pc := 56) dX4_refit_56 FX4_59 hp2.2.1.1 rfl ?_
        refine w_iload_n (pc := 59) (i := 1) dX4_refit_59 rfl rfl ?_
        refine w_bipush (pc := 60) (v := 9) dX4_refit_60 (by decide) ?_
        refine w_iast (pc := 62) dX4_refit_62 hp2.2.1.tight (vp_in_nI (by omega) (by omega)) ?_
        rw [hmn]
        obtain ⟨s62, es62⟩ : ∃ z : ST, z = tA τ 0 (upd (τ.1 0) m 9) := ⟨_, rfl⟩
        have hp62 : Rm (μ, s62) 0 (h2.set (32 + 1) (.inl (6, .inl (upd (τ.1 0) m 9)))) := by rw [es62]; exact hp2.st (hp2.2.1.a0 _) (GOut.rf.set (by omega) (by omega))
        have ho62 : GOut 27 65 h (h2.set (32 + 1) (.inl (6, .inl (upd (τ.1 0) m 9)))) := ho2.set (by omega) (by omega)
        show WP _ _ _ _ _ _ _ _ (h2.set (32 + 1) (.inl (6, .inl (upd (τ.1 0) m 9)))) _
        generalize hh62 : (h2.set (32 + 1) (.inl (6, .inl (upd (τ.1 0) m 9)))) = h62 at hp62 ho62 ⊢
        clear hh62
        refine w_aload_n (pc := 63) (i := 0) dX4_refit_63 rfl rfl ?_
        refine w_get (pc := 64) dX4_refit_64 FX4_27 hp62.1.1 rfl ?_
        refine w_dup (pc := 67) dX4_refit_67 rfl ?_
        refine w_get (pc := 68) dX4_refit_68 FX4_65 hp62.2.1.1 rfl ?_
        refine w_iconst (pc := 71) (v := 2) dX4_refit_71 (by decide) ?_
        refine w_isub (pc := 72) dX4_refit_72 ?_
        rw [show s62.2.2.2.2 3 = τ.2.2.2.2 3 from by rw [es62]; rfl]
        refine w_put (pc := 73) dX4_refit_73 UX4_65 hp62.2.1.1 (Nat.le_of_ble_eq_true rfl) nv_i (fun _ q => by cases q) ?_
        obtain ⟨s73, es73⟩ : ∃ z : ST, z = tS s62 3 (τ.2.2.2.2 3 - 2) := ⟨_, rfl⟩
        have hp73 : Rm (μ, s73) 0 (h62.set 32 (.inr (3, (stF 32 s62).set 3 (.int (τ.2.2.2.2 3 - 2))))) := by rw [es73]; exact hp62.st (hp62.2.1.s3 _) (GOut.rf.set (by omega) (by omega))
        have ho73 : GOut 27 65 h (h62.set 32 (.inr (3, (stF 32 s62).set 3 (.int (τ.2.2.2.2 3 - 2))))) := ho62.set (by omega) (by omega)
        show WP _ _ _ _ _ _ _ _ (h62.set 32 (.inr (3, (stF 32 s62).set 3 (.int (τ.2.2.2.2 3 - 2))))) _
        generalize hh73 : (h62.set 32 (.inr (3, (stF 32 s62).set 3 (.int (τ.2.2.2.2 3 - 2))))) = h73 at hp73 ho73 ⊢
        clear hh73
        refine w_iload_n (pc := 76) (i := 2) dX4_refit_76 rfl rfl ?_
        exact w_ireturn (pc := 77) dX4_refit_77 ⟨_, rfl, rfl⟩ (RRet.of (by rw [es73, es62]; unfold bRefit; dsimp only; rw [if_neg c10, hmn, if_neg c32, if_neg (Int32.not_lt.mpr c43)] <;> rfl) hp73 ho73)
      · refine w_aload_n (pc := 46) (i := 0) dX4_refit_46 rfl rfl ?_
        refine w_iconst (pc := 47) (v := 2) dX4_refit_47 (by decide) ?_
        refine w_vQ (pc := 48) dX4_refit_48 GX4_55 hp2.1.1 (c_no 2 hp2) rfl rfl rfl rfl ?_
        rintro vn hn ⟨rfl, hpn, hon⟩
        exact w_ireturn (pc := 51) dX4_refit_51 ⟨_, rfl, rfl⟩ (RRet.of (by unfold bRefit; dsimp only; rw [if_neg c10, hmn, if_neg c32, if_pos (Int32.not_le.mp c43)] <;> rfl) hpn (ho2.tr hon))
  · refine w_aload_n (pc := 13) (i := 0) dX4_refit_13 rfl rfl ?_
    refine w_iconst (pc := 14) (v := 1) dX4_refit_14 (by decide) ?_
    refine w_vQ (pc := 15) dX4_refit_15 GX4_55 hp2.1.1 (c_no 1 hp2) rfl rfl rfl rfl ?_
    rintro vn hn ⟨rfl, hpn, hon⟩
    exact w_ireturn (pc := 18) dX4_refit_18 ⟨_, rfl, rfl⟩ (RRet.of (by unfold bRefit; dsimp only; rw [if_pos c10] <;> rfl) hpn (ho2.tr hon))
set_option maxHeartbeats 1000000 in
theorem c_X4_maker (x : Int32) (hp : Rm (μ, τ) t h) (h0 : μ.2 0 ≤ 6) (h1 : μ.2 1 ≤ 5) (hT : TB τ)  : Ct (d + 5) mX4_maker 0 0 [.ref 27, .int x] h (RRet (bMaker (μ, τ) x) h) := by
  refine Ct.of (by decide +kernel) rfl (Nat.le_of_ble_eq_true rfl) ?_
  show WP (d + 5) mX4_maker none 0 0 0 [.ref 27, .int x] [] h _
  have ho : GOut 27 65 h h := GOut.rf
  have hT0 := hT.1
  have hT1 := hT.2
  refine w_aload_n (pc := 0) (i := 0) dX4_maker_0 rfl rfl ?_
  refine w_iconst (pc := 1) (v := 0) dX4_maker_1 (by decide) ?_
  refine w_put (pc := 2) dX4_maker_2 UX4_34 hp.1.1 (Nat.le_of_ble_eq_true rfl) nv_i (fun _ q => by cases q) ?_
  have hp2 : Rm (μ, τ) 0 (h.set 27 (.inr (4, (mdF μ t).set 0 (.int 0)))) := by exact hp.md (hp.1.s0 _) (GOut.rf.set (by omega) (by omega))
  have ho2 : GOut 27 65 h (h.set 27 (.inr (4, (mdF μ t).set 0 (.int 0)))) := ho.set (by omega) (by omega)
  show WP _ _ _ _ _ _ _ _ (h.set 27 (.inr (4, (mdF μ t).set 0 (.int 0)))) _
  generalize hh2 : (h.set 27 (.inr (4, (mdF μ t).set 0 (.int 0)))) = h2 at hp2 ho2 ⊢
  clear hh2
  refine w_iload_n (pc := 5) (i := 1) dX4_maker_5 rfl rfl ?_
  refine w_iconst (pc := 6) (v := 1) dX4_maker_6 (by decide) ?_
  refine w_bipush (pc := 7) (v := 9) dX4_maker_7 (by decide) ?_
  refine w_sI (pc := 9) dX4_maker_9 GX4_38 (c_isIn x 1 9 h2) rfl rfl rfl rfl ?_
  refine w_if_ne (pc := 12) (tgt := 21) dX4_maker_12 (by decide) (fun c12 => ?_) (fun c12 => ?_)
  · refine w_aload_n (pc := 21) (i := 0) dX4_maker_21 rfl rfl ?_
    refine w_get (pc := 22) dX4_maker_22 FX4_45 hp2.1.1 rfl ?_
    refine w_iconst (pc := 25) (v := 5) dX4_maker_25 (by decide) ?_
    refine w_icmp_ne (pc := 26) (tgt := 35) dX4_maker_26 (by decide) (fun c26 => ?_) (fun c26 => ?_)
    · have hlt : μ.2 1 < 5 := by have := nI_ne (n := μ.2 1) (m := 5) c26; omega
      have hmn : (nI (μ.2 1)).toNatClampNeg = μ.2 1 := nI_clamp (by omega)
      refine w_aload_n (pc := 35) (i := 0) dX4_maker_35 rfl rfl ?_
      refine w_get (pc := 36) dX4_maker_36 FX4_16 hp2.1.1 rfl ?_
      refine w_aload_n (pc := 39) (i := 0) dX4_maker_39 rfl rfl ?_
      refine w_get (pc := 40) dX4_maker_40 FX4_45 hp2.1.1 rfl ?_
      refine w_iload_n (pc := 43) (i := 1) dX4_maker_43 rfl rfl ?_
      refine w_iast (pc := 44) dX4_maker_44 hp2.1.2.2.2.1 (vp_in_nI hlt (by omega)) ?_
      rw [hmn]
      obtain ⟨u44, eu44⟩ : ∃ z : MS, z = mA μ 2 (upd (μ.1 2) (μ.2 1) x) := ⟨_, rfl⟩
      have hp44 : Rm (u44, τ) 0 (h2.set 30 (.inl (5, .inl (upd (μ.1 2) (μ.2 1) x)))) := by rw [eu44]; exact hp2.md (hp2.1.a2 _) (GOut.rf.set (by omega) (by omega))
      have ho44 : GOut 27 65 h (h2.set 30 (.inl (5, .inl (upd (μ.1 2) (μ.2 1) x)))) := ho2.set (by omega) (by omega)
      show WP _ _ _ _ _ _ _ _ (h2.set 30 (.inl (5, .inl (upd (μ.1 2) (μ.2 1) x)))) _
      generalize hh44 : (h2.set 30 (.inl (5, .inl (upd (μ.1 2) (μ.2 1) x)))) = h44 at hp44 ho44 ⊢
      clear hh44
      have hk44 : u44.2 1 = μ.2 1 := by rw [eu44]; rfl
      have hk43 : u44.1 3 = μ.1 3 := by rw [eu44]; rfl
      refine w_aload_n (pc := 45) (i := 0) dX4_maker_45 rfl rfl ?_
      refine w_get (pc := 46) dX4_maker_46 FX4_19 hp44.1.1 rfl ?_
      refine w_aload_n (pc := 49) (i := 0) dX4_maker_49 rfl rfl ?_
      refine w_get (pc := 50) dX4_maker_50 FX4_45 hp44.1.1 rfl ?_
      rw [hk44]
      refine w_iconst (pc := 53) (v := -1) dX4_maker_53 (by decide) ?_
      refine w_iast (pc := 54) dX4_maker_54 hp44.1.2.2.2.2 (vp_in_nI hlt (by omega)) ?_
      rw [hmn, hk43]
      obtain ⟨u54, eu54⟩ : ∃ z : MS, z = mA u44 3 (upd (μ.1 3) (μ.2 1) (-1)) := ⟨_, rfl⟩
      have hp54 : Rm (u54, τ) 0 (h44.set 31 (.inl (5, .inl (upd (μ.1 3) (μ.2 1) (-1))))) := by rw [eu54]; exact hp44.md (hp44.1.a3 _) (GOut.rf.set (by omega) (by omega))
      have ho54 : GOut 27 65 h (h44.set 31 (.inl (5, .inl (upd (μ.1 3) (μ.2 1) (-1))))) := ho44.set (by omega) (by omega)
      show WP _ _ _ _ _ _ _ _ (h44.set 31 (.inl (5, .inl (upd (μ.1 3) (μ.2 1) (-1))))) _
      generalize hh54 : (h44.set 31 (.inl (5, .inl (upd (μ.1 3) (μ.2 1) (-1))))) = h54 at hp54 ho54 ⊢
      clear hh54
      refine w_aload_n (pc := 55) (i := 0) dX4_maker_55 rfl rfl ?_
      refine w_dup (pc := 56) dX4_maker_56 rfl ?_
      refine w_get (pc := 57) dX4_maker_57 FX4_45 hp54.1.1 rfl ?_
      refine w_iconst (pc := 60) (v := 1) dX4_maker_60 (by decide) ?_
      refine w_iadd (pc := 61) dX4_maker_61 ?_
      rw [nI_1, show u54.2 1 = μ.2 1 from by rw [eu54]; exact hk44]
      refine w_put (pc := 62) dX4_maker_62 UX4_45 hp54.1.1 (Nat.le_of_ble_eq_true rfl) nv_i (fun _ q => by cases q) ?_
      obtain ⟨u62, eu62⟩ : ∃ z : MS, z = mC u54 1 (μ.2 1 + 1) := ⟨_, rfl⟩
      have hp62 : Rm (u62, τ) 0 (h54.set 27 (.inr (4, (mdF u54 0).set 4 (.int (nI (μ.2 1 + 1)))))) := by rw [eu62]; exact hp54.md (hp54.1.c1 _) (GOut.rf.set (by omega) (by omega))
      have ho62 : GOut 27 65 h (h54.set 27 (.inr (4, (mdF u54 0).set 4 (.int (nI (μ.2 1 + 1)))))) := ho54.set (by omega) (by omega)
      show WP _ _ _ _ _ _ _ _ (h54.set 27 (.inr (4, (mdF u54 0).set 4 (.int (nI (μ.2 1 + 1)))))) _
      generalize hh62 : (h54.set 27 (.inr (4, (mdF u54 0).set 4 (.int (nI (μ.2 1 + 1)))))) = h62 at hp62 ho62 ⊢
      clear hh62
      refine w_aload_n (pc := 65) (i := 0) dX4_maker_65 rfl rfl ?_
      refine w_get (pc := 66) dX4_maker_66 FX4_45 hp62.1.1 rfl ?_
      refine w_iconst (pc := 69) (v := 1) dX4_maker_69 (by decide) ?_
      refine w_isub (pc := 70) dX4_maker_70 ?_
      rw [show nI (u62.2 1) - 1 = nI (μ.2 1) from by rw [eu62]; exact pk_sub (a := μ.2 1 + 1) (b := 1) (by omega)]
      exact w_ireturn (pc := 71) dX4_maker_71 ⟨_, rfl, rfl⟩ (RRet.of (by rw [eu62, eu54, eu44]; unfold bMaker; dsimp only; rw [if_neg c12, if_neg c26] <;> rfl) hp62 ho62)
    · refine w_aload_n (pc := 29) (i := 0) dX4_maker_29 rfl rfl ?_
      refine w_iconst (pc := 30) (v := 2) dX4_maker_30 (by decide) ?_
      refine w_vQ (pc := 31) dX4_maker_31 GX4_55 hp2.1.1 (c_no 2 hp2) rfl rfl rfl rfl ?_
      rintro vn hn ⟨rfl, hpn, hon⟩
      exact w_ireturn (pc := 34) dX4_maker_34 ⟨_, rfl, rfl⟩ (RRet.of (by unfold bMaker; dsimp only; rw [if_neg c12, if_pos c26] <;> rfl) hpn (ho2.tr hon))
  · refine w_aload_n (pc := 15) (i := 0) dX4_maker_15 rfl rfl ?_
    refine w_iconst (pc := 16) (v := 1) dX4_maker_16 (by decide) ?_
    refine w_vQ (pc := 17) dX4_maker_17 GX4_55 hp2.1.1 (c_no 1 hp2) rfl rfl rfl rfl ?_
    rintro vn hn ⟨rfl, hpn, hon⟩
    exact w_ireturn (pc := 20) dX4_maker_20 ⟨_, rfl, rfl⟩ (RRet.of (by unfold bMaker; dsimp only; rw [if_pos c12] <;> rfl) hpn (ho2.tr hon))
set_option maxHeartbeats 1000000 in
theorem c_X4_place (x y : Int32) (hp : Rm (μ, τ) t h) (h0 : μ.2 0 ≤ 6) (h1 : μ.2 1 ≤ 5) (hT : TB τ)  : Ct (d + 5) mX4_place 0 0 [.ref 27, .int x, .int y] h (RRet (bPlace (μ, τ) x y) h) := by
  refine Ct.of (by decide +kernel) rfl (Nat.le_of_ble_eq_true rfl) ?_
  show WP (d + 5) mX4_place none 0 0 0 [.ref 27, .int x, .int y, vU] [] h _
  have ho : GOut 27 65 h h := GOut.rf
  have hT0 := hT.1
  have hT1 := hT.2
  refine w_aload_n (pc := 0) (i := 0) dX4_place_0 rfl rfl ?_
  refine w_iconst (pc := 1) (v := 0) dX4_place_1 (by decide) ?_
  refine w_put (pc := 2) dX4_place_2 UX4_34 hp.1.1 (Nat.le_of_ble_eq_true rfl) nv_i (fun _ q => by cases q) ?_
  have hp2 : Rm (μ, τ) 0 (h.set 27 (.inr (4, (mdF μ t).set 0 (.int 0)))) := by exact hp.md (hp.1.s0 _) (GOut.rf.set (by omega) (by omega))
  have ho2 : GOut 27 65 h (h.set 27 (.inr (4, (mdF μ t).set 0 (.int 0)))) := ho.set (by omega) (by omega)
  show WP _ _ _ _ _ _ _ _ (h.set 27 (.inr (4, (mdF μ t).set 0 (.int 0)))) _
  generalize hh2 : (h.set 27 (.inr (4, (mdF μ t).set 0 (.int 0)))) = h2 at hp2 ho2 ⊢
  clear hh2
  refine w_aload_n (pc := 5) (i := 0) dX4_place_5 rfl rfl ?_
  refine w_iload_n (pc := 6) (i := 1) dX4_place_6 rfl rfl ?_
  refine w_vI (pc := 7) dX4_place_7 GX4_68 hp2.1.1 (c_isMaker x hp2) rfl rfl rfl rfl ?_
  refine w_if_eq (pc := 10) (tgt := 26) dX4_place_10 (by decide) (fun c10 => ?_) (fun c10 => ?_)
  · refine w_aload_n (pc := 26) (i := 0) dX4_place_26 rfl rfl ?_
    refine w_iconst (pc := 27) (v := 1) dX4_place_27 (by decide) ?_
    refine w_vQ (pc := 28) dX4_place_28 GX4_55 hp2.1.1 (c_no 1 hp2) rfl rfl rfl rfl ?_
    rintro vn hn ⟨rfl, hpn, hon⟩
    exact w_ireturn (pc := 31) dX4_place_31 ⟨_, rfl, rfl⟩ (RRet.of (by unfold bPlace; dsimp only; rw [if_pos c10] <;> rfl) hpn (ho2.tr hon))
  · obtain ⟨m, hm, ex⟩ := hR_of c10 (by omega)
    subst ex
    have hmn : (nI m).toNatClampNeg = m := nI_clamp (by omega)
    have hK2 : ∀ (c14 : ¬ (¬ y = -1 ∧ hR (μ.2 0) y = 0)) (c15 : ¬ (¬ y = -1 ∧ ¬ rMaker μ y = -1 ∧ ¬ rMaker μ y = nI m)), WP (d + 5) mX4_place none 0 0 61 [.ref 27, .int (nI m), .int y, vU] [] h2 (RRet (bPlace (μ, τ) (nI m) y) h) := by
      intro c14 c15
      refine w_aload_n (pc := 61) (i := 0) dX4_place_61 rfl rfl ?_
      refine w_get (pc := 62) dX4_place_62 FX4_19 hp2.1.1 rfl ?_
      refine w_iload_n (pc := 65) (i := 1) dX4_place_65 rfl rfl ?_
      refine w_iald (pc := 66) dX4_place_66 hp2.1.2.2.2.2 (vp_in_nI (by omega) (by omega)) ?_
      rw [hmn]
      refine w_topi (fun x67 e67 => ?_)
      refine w_istore_n (pc := 67) (i := 3) (ls' := [.ref 27, .int (nI m), .int y, .int x67]) dX4_place_67 rfl (by decide) rfl rfl rfl ?_
      subst e67
      refine w_aload_n (pc := 68) (i := 0) dX4_place_68 rfl rfl ?_
      refine w_get (pc := 69) dX4_place_69 FX4_19 hp2.1.1 rfl ?_
      refine w_iload_n (pc := 72) (i := 1) dX4_place_72 rfl rfl ?_
      refine w_iload_n (pc := 73) (i := 2) dX4_place_73 rfl rfl ?_
      refine w_iast (pc := 74) dX4_place_74 hp2.1.2.2.2.2 (vp_in_nI (by omega) (by omega)) ?_
      rw [hmn]
      obtain ⟨u74, eu74⟩ : ∃ z : MS, z = mA μ 3 (upd (μ.1 3) m y) := ⟨_, rfl⟩
      have hp74 : Rm (u74, τ) 0 (h2.set 31 (.inl (5, .inl (upd (μ.1 3) m y)))) := by rw [eu74]; exact hp2.md (hp2.1.a3 _) (GOut.rf.set (by omega) (by omega))
      have ho74 : GOut 27 65 h (h2.set 31 (.inl (5, .inl (upd (μ.1 3) m y)))) := ho2.set (by omega) (by omega)
      show WP _ _ _ _ _ _ _ _ (h2.set 31 (.inl (5, .inl (upd (μ.1 3) m y)))) _
      generalize hh74 : (h2.set 31 (.inl (5, .inl (upd (μ.1 3) m y)))) = h74 at hp74 ho74 ⊢
      clear hh74
      refine w_iload_n (pc := 75) (i := 3) dX4_place_75 rfl rfl ?_
      exact w_ireturn (pc := 76) dX4_place_76 ⟨_, rfl, rfl⟩ (RRet.of (by rw [eu74]; unfold bPlace; dsimp only; rw [if_neg c10, if_neg c14, if_neg c15, hmn] <;> rfl) hp74 ho74)
    have hK1 : ∀ (c14 : ¬ (¬ y = -1 ∧ hR (μ.2 0) y = 0)), WP (d + 5) mX4_place none 0 0 32 [.ref 27, .int (nI m), .int y, vU] [] h2 (RRet (bPlace (μ, τ) (nI m) y) h) := by
      intro c14
      refine w_iload_n (pc := 32) (i := 2) dX4_place_32 rfl rfl ?_
      refine w_iconst (pc := 33) (v := -1) dX4_place_33 (by decide) ?_
      refine w_icmp_eq (pc := 34) (tgt := 61) dX4_place_34 (by decide) (fun c34 => ?_) (fun c34 => ?_)
      · exact hK2 c14 (fun q => q.1 c34)
      · refine w_aload_n (pc := 37) (i := 0) dX4_place_37 rfl rfl ?_
        refine w_iload_n (pc := 38) (i := 2) dX4_place_38 rfl rfl ?_
        refine w_vI (pc := 39) dX4_place_39 GX4_71 hp2.1.1 (c_rmakerAt y hp2 h1) rfl rfl rfl rfl ?_
        refine w_iconst (pc := 42) (v := -1) dX4_place_42 (by decide) ?_
        refine w_icmp_eq (pc := 43) (tgt := 61) dX4_place_43 (by decide) (fun c43 => ?_) (fun c43 => ?_)
        · exact hK2 c14 (fun q => q.2.1 c43)
        · refine w_aload_n (pc := 46) (i := 0) dX4_place_46 rfl rfl ?_
          refine w_iload_n (pc := 47) (i := 2) dX4_place_47 rfl rfl ?_
          refine w_vI (pc := 48) dX4_place_48 GX4_71 hp2.1.1 (c_rmakerAt y hp2 h1) rfl rfl rfl rfl ?_
          refine w_iload_n (pc := 51) (i := 1) dX4_place_51 rfl rfl ?_
          refine w_icmp_eq (pc := 52) (tgt := 61) dX4_place_52 (by decide) (fun c52 => ?_) (fun c52 => ?_)
          · exact hK2 c14 (fun q => q.2.2 c52)
          · refine w_aload_n (pc := 55) (i := 0) dX4_place_55 rfl rfl ?_
            refine w_iconst (pc := 56) (v := 2) dX4_place_56 (by decide) ?_
            refine w_vQ (pc := 57) dX4_place_57 GX4_55 hp2.1.1 (c_no 2 hp2) rfl rfl rfl rfl ?_
            rintro vn hn ⟨rfl, hpn, hon⟩
            exact w_ireturn (pc := 60) dX4_place_60 ⟨_, rfl, rfl⟩ (RRet.of (by unfold bPlace; dsimp only; rw [if_neg c10, if_neg c14, if_pos ⟨c34, c43, c52⟩] <;> rfl) hpn (ho2.tr hon))
    refine w_iload_n (pc := 13) (i := 2) dX4_place_13 rfl rfl ?_
    refine w_iconst (pc := 14) (v := -1) dX4_place_14 (by decide) ?_
    refine w_icmp_eq (pc := 15) (tgt := 32) dX4_place_15 (by decide) (fun c15 => ?_) (fun c15 => ?_)
    · exact hK1 (fun q => q.1 c15)
    · refine w_aload_n (pc := 18) (i := 0) dX4_place_18 rfl rfl ?_
      refine w_iload_n (pc := 19) (i := 2) dX4_place_19 rfl rfl ?_
      refine w_vI (pc := 20) dX4_place_20 GX4_62 hp2.1.1 (c_isMould y hp2) rfl rfl rfl rfl ?_
      refine w_if_ne (pc := 23) (tgt := 32) dX4_place_23 (by decide) (fun c23 => ?_) (fun c23 => ?_)
      · exact hK1 (fun q => c23 q.2)
      · refine w_aload_n (pc := 26) (i := 0) dX4_place_26 rfl rfl ?_
        refine w_iconst (pc := 27) (v := 1) dX4_place_27 (by decide) ?_
        refine w_vQ (pc := 28) dX4_place_28 GX4_55 hp2.1.1 (c_no 1 hp2) rfl rfl rfl rfl ?_
        rintro vn hn ⟨rfl, hpn, hon⟩
        exact w_ireturn (pc := 31) dX4_place_31 ⟨_, rfl, rfl⟩ (RRet.of (by unfold bPlace; dsimp only; rw [if_neg c10, if_pos ⟨c15, c23⟩] <;> rfl) hpn (ho2.tr hon))
set_option maxHeartbeats 1000000 in
theorem c_X4_buy (x y : Int32) (hp : Rm (μ, τ) t h) (h0 : μ.2 0 ≤ 6) (h1 : μ.2 1 ≤ 5) (hT : TB τ)  : Ct (d + 5) mX4_buy 0 0 [.ref 27, .int x, .int y] h (RRet (bBuy (μ, τ) x y) h) := by
  refine Ct.of (by decide +kernel) rfl (Nat.le_of_ble_eq_true rfl) ?_
  show WP (d + 5) mX4_buy none 0 0 0 [.ref 27, .int x, .int y, vU] [] h _
  have ho : GOut 27 65 h h := GOut.rf
  have hT0 := hT.1
  have hT1 := hT.2
  refine w_aload_n (pc := 0) (i := 0) dX4_buy_0 rfl rfl ?_
  refine w_iconst (pc := 1) (v := 0) dX4_buy_1 (by decide) ?_
  refine w_put (pc := 2) dX4_buy_2 UX4_34 hp.1.1 (Nat.le_of_ble_eq_true rfl) nv_i (fun _ q => by cases q) ?_
  have hp2 : Rm (μ, τ) 0 (h.set 27 (.inr (4, (mdF μ t).set 0 (.int 0)))) := by exact hp.md (hp.1.s0 _) (GOut.rf.set (by omega) (by omega))
  have ho2 : GOut 27 65 h (h.set 27 (.inr (4, (mdF μ t).set 0 (.int 0)))) := ho.set (by omega) (by omega)
  show WP _ _ _ _ _ _ _ _ (h.set 27 (.inr (4, (mdF μ t).set 0 (.int 0)))) _
  generalize hh2 : (h.set 27 (.inr (4, (mdF μ t).set 0 (.int 0)))) = h2 at hp2 ho2 ⊢
  clear hh2
  refine w_iload_n (pc := 5) (i := 1) dX4_buy_5 rfl rfl ?_
  refine w_iconst (pc := 6) (v := 0) dX4_buy_6 (by decide) ?_
  refine w_iconst (pc := 7) (v := 1) dX4_buy_7 (by decide) ?_
  refine w_sI (pc := 8) dX4_buy_8 GX4_38 (c_isIn x 0 1 h2) rfl rfl rfl rfl ?_
  refine w_if_ne (pc := 11) (tgt := 20) dX4_buy_11 (by decide) (fun c11 => ?_) (fun c11 => ?_)
  · refine w_iload_n (pc := 20) (i := 2) dX4_buy_20 rfl rfl ?_
    refine w_iconst (pc := 21) (v := 1) dX4_buy_21 (by decide) ?_
    refine w_sipush (pc := 22) (v := 200) dX4_buy_22 (by decide) ?_
    refine w_sI (pc := 25) dX4_buy_25 GX4_38 (c_isIn y 1 200 h2) rfl rfl rfl rfl ?_
    refine w_if_ne (pc := 28) (tgt := 37) dX4_buy_28 (by decide) (fun c28 => ?_) (fun c28 => ?_)
    · have hK : WP (d + 5) mX4_buy none 0 0 51 [.ref 27, .int x, .int y, .int (kPrice x y)] [] h2 (RRet (bBuy (μ, τ) x y) h) := by
        refine w_aload_n (pc := 51) (i := 0) dX4_buy_51 rfl rfl ?_
        refine w_get (pc := 52) dX4_buy_52 FX4_27 hp2.1.1 rfl ?_
        refine w_get (pc := 55) dX4_buy_55 FX4_65 hp2.2.1.1 rfl ?_
        refine w_iload_n (pc := 58) (i := 3) dX4_buy_58 rfl rfl ?_
        refine w_icmp_ge (pc := 59) (tgt := 68) dX4_buy_59 (by decide) (fun c59 => ?_) (fun c59 => ?_)
        · refine w_aload_n (pc := 68) (i := 0) dX4_buy_68 rfl rfl ?_
          refine w_get (pc := 69) dX4_buy_69 FX4_27 hp2.1.1 rfl ?_
          refine w_dup (pc := 72) dX4_buy_72 rfl ?_
          refine w_get (pc := 73) dX4_buy_73 FX4_65 hp2.2.1.1 rfl ?_
          refine w_iload_n (pc := 76) (i := 3) dX4_buy_76 rfl rfl ?_
          refine w_isub (pc := 77) dX4_buy_77 ?_
          refine w_put (pc := 78) dX4_buy_78 UX4_65 hp2.2.1.1 (Nat.le_of_ble_eq_true rfl) nv_i (fun _ q => by cases q) ?_
          obtain ⟨s78, es78⟩ : ∃ z : ST, z = tS τ 3 (τ.2.2.2.2 3 - kPrice x y) := ⟨_, rfl⟩
          have hp78 : Rm (μ, s78) 0 (h2.set 32 (.inr (3, (stF 32 τ).set 3 (.int (τ.2.2.2.2 3 - kPrice x y))))) := by rw [es78]; exact hp2.st (hp2.2.1.s3 _) (GOut.rf.set (by omega) (by omega))
          have ho78 : GOut 27 65 h (h2.set 32 (.inr (3, (stF 32 τ).set 3 (.int (τ.2.2.2.2 3 - kPrice x y))))) := ho2.set (by omega) (by omega)
          show WP _ _ _ _ _ _ _ _ (h2.set 32 (.inr (3, (stF 32 τ).set 3 (.int (τ.2.2.2.2 3 - kPrice x y))))) _
          generalize hh78 : (h2.set 32 (.inr (3, (stF 32 τ).set 3 (.int (τ.2.2.2.2 3 - kPrice x y))))) = h78 at hp78 ho78 ⊢
          clear hh78
          refine w_aload_n (pc := 81) (i := 0) dX4_buy_81 rfl rfl ?_
          refine w_get (pc := 82) dX4_buy_82 FX4_27 hp78.1.1 rfl ?_
          refine w_dup (pc := 85) dX4_buy_85 rfl ?_
          refine w_get (pc := 86) dX4_buy_86 FX4_74 hp78.2.1.1 rfl ?_
          rw [show s78.2.2.2.2 1 = τ.2.2.2.2 1 from by rw [es78]; rfl]
          refine w_iload_n (pc := 89) (i := 1) dX4_buy_89 rfl rfl ?_
          have hJ : ∀ y0 : Int32, y0 = (if x = 0 then y else 0) → WP (d + 5) mX4_buy none 0 0 98 [.ref 27, .int x, .int y, .int (kPrice x y)] [.int y0, .int (τ.2.2.2.2 1), .ref 32] h78 (RRet (bBuy (μ, τ) x y) h) := by
            intro y0 hy0
            refine w_iadd (pc := 98) dX4_buy_98 ?_
            rw [hy0]
            refine w_put (pc := 99) dX4_buy_99 UX4_74 hp78.2.1.1 (Nat.le_of_ble_eq_true rfl) nv_i (fun _ q => by cases q) ?_
            obtain ⟨s99, es99⟩ : ∃ z : ST, z = tS s78 1 (τ.2.2.2.2 1 + (if x = 0 then y else 0)) := ⟨_, rfl⟩
            have hp99 : Rm (μ, s99) 0 (h78.set 32 (.inr (3, (stF 32 s78).set 1 (.int (τ.2.2.2.2 1 + (if x = 0 then y else 0)))))) := by rw [es99]; exact hp78.st (hp78.2.1.s1 _) (GOut.rf.set (by omega) (by omega))
            have ho99 : GOut 27 65 h (h78.set 32 (.inr (3, (stF 32 s78).set 1 (.int (τ.2.2.2.2 1 + (if x = 0 then y else 0)))))) := ho78.set (by omega) (by omega)
            show WP _ _ _ _ _ _ _ _ (h78.set 32 (.inr (3, (stF 32 s78).set 1 (.int (τ.2.2.2.2 1 + (if x = 0 then y else 0)))))) _
            generalize hh99 : (h78.set 32 (.inr (3, (stF 32 s78).set 1 (.int (τ.2.2.2.2 1 + (if x = 0 then y else 0)))))) = h99 at hp99 ho99 ⊢
            clear hh99
            refine w_aload_n (pc := 102) (i := 0) dX4_buy_102 rfl rfl ?_
            refine w_get (pc := 103) dX4_buy_103 FX4_27 hp99.1.1 rfl ?_
            refine w_dup (pc := 106) dX4_buy_106 rfl ?_
            refine w_get (pc := 107) dX4_buy_107 FX4_77 hp99.2.1.1 rfl ?_
            rw [show s99.2.2.2.2 2 = τ.2.2.2.2 2 from by rw [es99, es78]; rfl]
            refine w_iload_n (pc := 110) (i := 1) dX4_buy_110 rfl rfl ?_
            refine w_iconst (pc := 111) (v := 1) dX4_buy_111 (by decide) ?_
            have hJ2 : ∀ y1 : Int32, y1 = (if x = 1 then y else 0) → WP (d + 5) mX4_buy none 0 0 120 [.ref 27, .int x, .int y, .int (kPrice x y)] [.int y1, .int (τ.2.2.2.2 2), .ref 32] h99 (RRet (bBuy (μ, τ) x y) h) := by
              intro y1 hy1
              refine w_iadd (pc := 120) dX4_buy_120 ?_
              rw [hy1]
              refine w_put (pc := 121) dX4_buy_121 UX4_77 hp99.2.1.1 (Nat.le_of_ble_eq_true rfl) nv_i (fun _ q => by cases q) ?_
              obtain ⟨s121, es121⟩ : ∃ z : ST, z = tS s99 2 (τ.2.2.2.2 2 + (if x = 1 then y else 0)) := ⟨_, rfl⟩
              have hp121 : Rm (μ, s121) 0 (h99.set 32 (.inr (3, (stF 32 s99).set 2 (.int (τ.2.2.2.2 2 + (if x = 1 then y else 0)))))) := by rw [es121]; exact hp99.st (hp99.2.1.s2 _) (GOut.rf.set (by omega) (by omega))
              have ho121 : GOut 27 65 h (h99.set 32 (.inr (3, (stF 32 s99).set 2 (.int (τ.2.2.2.2 2 + (if x = 1 then y else 0)))))) := ho99.set (by omega) (by omega)
              show WP _ _ _ _ _ _ _ _ (h99.set 32 (.inr (3, (stF 32 s99).set 2 (.int (τ.2.2.2.2 2 + (if x = 1 then y else 0)))))) _
              generalize hh121 : (h99.set 32 (.inr (3, (stF 32 s99).set 2 (.int (τ.2.2.2.2 2 + (if x = 1 then y else 0)))))) = h121 at hp121 ho121 ⊢
              clear hh121
              refine w_iload_n (pc := 124) (i := 1) dX4_buy_124 rfl rfl ?_
              refine w_if_ne (pc := 125) (tgt := 138) dX4_buy_125 (by decide) (fun c125 => ?_) (fun c125 => ?_)
              · refine w_aload_n (pc := 138) (i := 0) dX4_buy_138 rfl rfl ?_
                refine w_get (pc := 139) dX4_buy_139 FX4_27 hp121.1.1 rfl ?_
                refine w_get (pc := 142) dX4_buy_142 FX4_77 hp121.2.1.1 rfl ?_
                rw [show s121.2.2.2.2 2 = τ.2.2.2.2 2 + (if x = 1 then y else 0) from by rw [es121]; rfl]
                exact w_ireturn (pc := 145) dX4_buy_145 ⟨_, rfl, rfl⟩ (RRet.of (by rw [es121, es99, es78]; unfold bBuy bBuy2; dsimp only; rw [if_neg c11, if_neg c28, if_neg (Int32.not_lt.mpr c59), if_neg c125] <;> rfl) hp121 ho121)
              · refine w_aload_n (pc := 128) (i := 0) dX4_buy_128 rfl rfl ?_
                refine w_get (pc := 129) dX4_buy_129 FX4_27 hp121.1.1 rfl ?_
                refine w_get (pc := 132) dX4_buy_132 FX4_74 hp121.2.1.1 rfl ?_
                refine w_goto (pc := 135) (tgt := 145) dX4_buy_135 (by decide) ?_
                rw [show s121.2.2.2.2 1 = τ.2.2.2.2 1 + (if x = 0 then y else 0) from by rw [es121, es99]; rfl]
                exact w_ireturn (pc := 145) dX4_buy_145 ⟨_, rfl, rfl⟩ (RRet.of (by rw [es121, es99, es78]; unfold bBuy bBuy2; dsimp only; rw [if_neg c11, if_neg c28, if_neg (Int32.not_lt.mpr c59)] <;> simp only [if_pos c125]) hp121 ho121)
            refine w_icmp_ne (pc := 112) (tgt := 119) dX4_buy_112 (by decide) (fun c112 => ?_) (fun c112 => ?_)
            · refine w_iconst (pc := 119) (v := 0) dX4_buy_119 (by decide) ?_
              exact hJ2 0 (by rw [if_neg c112])
            · refine w_iload_n (pc := 115) (i := 2) dX4_buy_115 rfl rfl ?_
              refine w_goto (pc := 116) (tgt := 120) dX4_buy_116 (by decide) ?_
              exact hJ2 y (by rw [if_pos c112])
          refine w_if_ne (pc := 90) (tgt := 97) dX4_buy_90 (by decide) (fun c90 => ?_) (fun c90 => ?_)
          · refine w_iconst (pc := 97) (v := 0) dX4_buy_97 (by decide) ?_
            exact hJ 0 (by rw [if_neg c90])
          · refine w_iload_n (pc := 93) (i := 2) dX4_buy_93 rfl rfl ?_
            refine w_goto (pc := 94) (tgt := 98) dX4_buy_94 (by decide) ?_
            exact hJ y (by rw [if_pos c90])
        · refine w_aload_n (pc := 62) (i := 0) dX4_buy_62 rfl rfl ?_
          refine w_iconst (pc := 63) (v := 3) dX4_buy_63 (by decide) ?_
          refine w_vQ (pc := 64) dX4_buy_64 GX4_55 hp2.1.1 (c_no 3 hp2) rfl rfl rfl rfl ?_
          rintro vn hn ⟨rfl, hpn, hon⟩
          exact w_ireturn (pc := 67) dX4_buy_67 ⟨_, rfl, rfl⟩ (RRet.of (by unfold bBuy; dsimp only; rw [if_neg c11, if_neg c28, if_pos (Int32.not_le.mp c59)] <;> rfl) hpn (ho2.tr hon))
      refine w_iload_n (pc := 37) (i := 1) dX4_buy_37 rfl rfl ?_
      refine w_if_ne (pc := 38) (tgt := 49) dX4_buy_38 (by decide) (fun c38 => ?_) (fun c38 => ?_)
      · refine w_iload_n (pc := 49) (i := 2) dX4_buy_49 rfl rfl ?_
        refine w_topi (fun x50 e50 => ?_)
        refine w_istore_n (pc := 50) (i := 3) (ls' := [.ref 27, .int x, .int y, .int x50]) dX4_buy_50 rfl (by decide) rfl rfl rfl ?_
        rw [e50]
        rw [show kPrice x y = y from if_neg c38] at hK
        exact hK
      · refine w_iload_n (pc := 41) (i := 2) dX4_buy_41 rfl rfl ?_
        refine w_iconst (pc := 42) (v := 3) dX4_buy_42 (by decide) ?_
        refine w_iadd (pc := 43) dX4_buy_43 ?_
        refine w_iconst (pc := 44) (v := 4) dX4_buy_44 (by decide) ?_
        refine w_idiv (pc := 45) dX4_buy_45 (by decide) ?_
        refine w_goto (pc := 46) (tgt := 50) dX4_buy_46 (by decide) ?_
        refine w_topi (fun x50 e50 => ?_)
        refine w_istore_n (pc := 50) (i := 3) (ls' := [.ref 27, .int x, .int y, .int x50]) dX4_buy_50 rfl (by decide) rfl rfl rfl ?_
        rw [e50]
        rw [show kPrice x y = (y + 3) / 4 from if_pos c38] at hK
        exact hK
    · refine w_aload_n (pc := 31) (i := 0) dX4_buy_31 rfl rfl ?_
      refine w_iconst (pc := 32) (v := 2) dX4_buy_32 (by decide) ?_
      refine w_vQ (pc := 33) dX4_buy_33 GX4_55 hp2.1.1 (c_no 2 hp2) rfl rfl rfl rfl ?_
      rintro vn hn ⟨rfl, hpn, hon⟩
      exact w_ireturn (pc := 36) dX4_buy_36 ⟨_, rfl, rfl⟩ (RRet.of (by unfold bBuy; dsimp only; rw [if_neg c11, if_pos c28] <;> rfl) hpn (ho2.tr hon))
  · refine w_aload_n (pc := 14) (i := 0) dX4_buy_14 rfl rfl ?_
    refine w_iconst (pc := 15) (v := 1) dX4_buy_15 (by decide) ?_
    refine w_vQ (pc := 16) dX4_buy_16 GX4_55 hp2.1.1 (c_no 1 hp2) rfl rfl rfl rfl ?_
    rintro vn hn ⟨rfl, hpn, hon⟩
    exact w_ireturn (pc := 19) dX4_buy_19 ⟨_, rfl, rfl⟩ (RRet.of (by unfold bBuy; dsimp only; rw [if_pos c11] <;> rfl) hpn (ho2.tr hon))
set_option maxHeartbeats 1000000 in
theorem c_X4_setDry (x y : Int32) (hp : Rm (μ, τ) t h) (h0 : μ.2 0 ≤ 6) (h1 : μ.2 1 ≤ 5) (hT : TB τ)  : Ct (d + 5) mX4_setDry 0 0 [.ref 27, .int x, .int y] h (RRet (bSetDry (μ, τ) x y) h) := by
  refine Ct.of (by decide +kernel) rfl (Nat.le_of_ble_eq_true rfl) ?_
  show WP (d + 5) mX4_setDry none 0 0 0 [.ref 27, .int x, .int y, vU] [] h _
  have ho : GOut 27 65 h h := GOut.rf
  have hT0 := hT.1
  have hT1 := hT.2
  refine w_aload_n (pc := 0) (i := 0) dX4_setDry_0 rfl rfl ?_
  refine w_iconst (pc := 1) (v := 0) dX4_setDry_1 (by decide) ?_
  refine w_put (pc := 2) dX4_setDry_2 UX4_34 hp.1.1 (Nat.le_of_ble_eq_true rfl) nv_i (fun _ q => by cases q) ?_
  have hp2 : Rm (μ, τ) 0 (h.set 27 (.inr (4, (mdF μ t).set 0 (.int 0)))) := by exact hp.md (hp.1.s0 _) (GOut.rf.set (by omega) (by omega))
  have ho2 : GOut 27 65 h (h.set 27 (.inr (4, (mdF μ t).set 0 (.int 0)))) := ho.set (by omega) (by omega)
  show WP _ _ _ _ _ _ _ _ (h.set 27 (.inr (4, (mdF μ t).set 0 (.int 0)))) _
  generalize hh2 : (h.set 27 (.inr (4, (mdF μ t).set 0 (.int 0)))) = h2 at hp2 ho2 ⊢
  clear hh2
  refine w_iload_n (pc := 5) (i := 1) dX4_setDry_5 rfl rfl ?_
  refine w_iconst (pc := 6) (v := 0) dX4_setDry_6 (by decide) ?_
  refine w_bipush (pc := 7) (v := 6) dX4_setDry_7 (by decide) ?_
  refine w_sI (pc := 9) dX4_setDry_9 GX4_38 (c_isIn x 0 6 h2) rfl rfl rfl rfl ?_
  refine w_if_ne (pc := 12) (tgt := 21) dX4_setDry_12 (by decide) (fun c12 => ?_) (fun c12 => ?_)
  · refine w_iload_n (pc := 21) (i := 2) dX4_setDry_21 rfl rfl ?_
    refine w_iconst (pc := 22) (v := 0) dX4_setDry_22 (by decide) ?_
    refine w_iconst (pc := 23) (v := 3) dX4_setDry_23 (by decide) ?_
    refine w_sI (pc := 24) dX4_setDry_24 GX4_38 (c_isIn y 0 3 h2) rfl rfl rfl rfl ?_
    refine w_if_ne (pc := 27) (tgt := 36) dX4_setDry_27 (by decide) (fun c27 => ?_) (fun c27 => ?_)
    · obtain ⟨m, hm, ex⟩ := inB_nat (n := 6) c12 (by omega)
      subst ex
      have hmn : (nI m).toNatClampNeg = m := nI_clamp (by omega)
      refine w_aload_n (pc := 36) (i := 0) dX4_setDry_36 rfl rfl ?_
      refine w_get (pc := 37) dX4_setDry_37 FX4_7 hp2.1.1 rfl ?_
      refine w_iload_n (pc := 40) (i := 1) dX4_setDry_40 rfl rfl ?_
      refine w_iald (pc := 41) dX4_setDry_41 hp2.1.2.1 (vp_in_nI (by omega) (by omega)) ?_
      rw [hmn]
      refine w_topi (fun x42 e42 => ?_)
      refine w_istore_n (pc := 42) (i := 3) (ls' := [.ref 27, .int (nI m), .int y, .int x42]) dX4_setDry_42 rfl (by decide) rfl rfl rfl ?_
      subst e42
      refine w_aload_n (pc := 43) (i := 0) dX4_setDry_43 rfl rfl ?_
      refine w_get (pc := 44) dX4_setDry_44 FX4_7 hp2.1.1 rfl ?_
      refine w_iload_n (pc := 47) (i := 1) dX4_setDry_47 rfl rfl ?_
      refine w_iload_n (pc := 48) (i := 2) dX4_setDry_48 rfl rfl ?_
      refine w_iast (pc := 49) dX4_setDry_49 hp2.1.2.1 (vp_in_nI (by omega) (by omega)) ?_
      rw [hmn]
      obtain ⟨u49, eu49⟩ : ∃ z : MS, z = mA μ 0 (upd (μ.1 0) m y) := ⟨_, rfl⟩
      have hp49 : Rm (u49, τ) 0 (h2.set 28 (.inl (7, .inl (upd (μ.1 0) m y)))) := by rw [eu49]; exact hp2.md (hp2.1.a0 _) (GOut.rf.set (by omega) (by omega))
      have ho49 : GOut 27 65 h (h2.set 28 (.inl (7, .inl (upd (μ.1 0) m y)))) := ho2.set (by omega) (by omega)
      show WP _ _ _ _ _ _ _ _ (h2.set 28 (.inl (7, .inl (upd (μ.1 0) m y)))) _
      generalize hh49 : (h2.set 28 (.inl (7, .inl (upd (μ.1 0) m y)))) = h49 at hp49 ho49 ⊢
      clear hh49
      refine w_iload_n (pc := 50) (i := 3) dX4_setDry_50 rfl rfl ?_
      exact w_ireturn (pc := 51) dX4_setDry_51 ⟨_, rfl, rfl⟩ (RRet.of (by rw [eu49]; unfold bSetDry; dsimp only; rw [if_neg c12, if_neg c27, hmn] <;> rfl) hp49 ho49)
    · refine w_aload_n (pc := 30) (i := 0) dX4_setDry_30 rfl rfl ?_
      refine w_iconst (pc := 31) (v := 2) dX4_setDry_31 (by decide) ?_
      refine w_vQ (pc := 32) dX4_setDry_32 GX4_55 hp2.1.1 (c_no 2 hp2) rfl rfl rfl rfl ?_
      rintro vn hn ⟨rfl, hpn, hon⟩
      exact w_ireturn (pc := 35) dX4_setDry_35 ⟨_, rfl, rfl⟩ (RRet.of (by unfold bSetDry; dsimp only; rw [if_neg c12, if_pos c27] <;> rfl) hpn (ho2.tr hon))
  · refine w_aload_n (pc := 15) (i := 0) dX4_setDry_15 rfl rfl ?_
    refine w_iconst (pc := 16) (v := 1) dX4_setDry_16 (by decide) ?_
    refine w_vQ (pc := 17) dX4_setDry_17 GX4_55 hp2.1.1 (c_no 1 hp2) rfl rfl rfl rfl ?_
    rintro vn hn ⟨rfl, hpn, hon⟩
    exact w_ireturn (pc := 20) dX4_setDry_20 ⟨_, rfl, rfl⟩ (RRet.of (by unfold bSetDry; dsimp only; rw [if_pos c12] <;> rfl) hpn (ho2.tr hon))
set_option maxHeartbeats 1000000 in
theorem c_X4_pack (x y u : Int32) (hp : Rm (μ, τ) t h) (h0 : μ.2 0 ≤ 6) (h1 : μ.2 1 ≤ 5) (hT : TB τ)  : Ct (d + 5) mX4_pack 0 0 [.ref 27, .int x, .int y, .int u] h (RRet (bPack (μ, τ) x y u) h) := by
  refine Ct.of (by decide +kernel) rfl (Nat.le_of_ble_eq_true rfl) ?_
  show WP (d + 5) mX4_pack none 0 0 0 [.ref 27, .int x, .int y, .int u, vU, vU] [] h _
  have ho : GOut 27 65 h h := GOut.rf
  have hT0 := hT.1
  have hT1 := hT.2
  refine w_aload_n (pc := 0) (i := 0) dX4_pack_0 rfl rfl ?_
  refine w_iconst (pc := 1) (v := 0) dX4_pack_1 (by decide) ?_
  refine w_put (pc := 2) dX4_pack_2 UX4_34 hp.1.1 (Nat.le_of_ble_eq_true rfl) nv_i (fun _ q => by cases q) ?_
  have hp2 : Rm (μ, τ) 0 (h.set 27 (.inr (4, (mdF μ t).set 0 (.int 0)))) := by exact hp.md (hp.1.s0 _) (GOut.rf.set (by omega) (by omega))
  have ho2 : GOut 27 65 h (h.set 27 (.inr (4, (mdF μ t).set 0 (.int 0)))) := ho.set (by omega) (by omega)
  show WP _ _ _ _ _ _ _ _ (h.set 27 (.inr (4, (mdF μ t).set 0 (.int 0)))) _
  generalize hh2 : (h.set 27 (.inr (4, (mdF μ t).set 0 (.int 0)))) = h2 at hp2 ho2 ⊢
  clear hh2
  refine w_aload_n (pc := 5) (i := 0) dX4_pack_5 rfl rfl ?_
  refine w_iload_n (pc := 6) (i := 1) dX4_pack_6 rfl rfl ?_
  refine w_vI (pc := 7) dX4_pack_7 GX4_80 hp2.1.1 (c_isBatch x hp2) rfl rfl rfl rfl ?_
  refine w_if_eq (pc := 10) (tgt := 20) dX4_pack_10 (by decide) (fun c10 => ?_) (fun c10 => ?_)
  · refine w_aload_n (pc := 20) (i := 0) dX4_pack_20 rfl rfl ?_
    refine w_iconst (pc := 21) (v := 1) dX4_pack_21 (by decide) ?_
    refine w_vQ (pc := 22) dX4_pack_22 GX4_55 hp2.1.1 (c_no 1 hp2) rfl rfl rfl rfl ?_
    rintro vn hn ⟨rfl, hpn, hon⟩
    exact w_ireturn (pc := 25) dX4_pack_25 ⟨_, rfl, rfl⟩ (RRet.of (by unfold bPack; dsimp only; rw [if_pos c10] <;> rfl) hpn (ho2.tr hon))
  · refine w_iload_n (pc := 13) (i := 2) dX4_pack_13 rfl rfl ?_
    refine w_sI (pc := 14) dX4_pack_14 GX4_83 (c_isSaggar y h2) rfl rfl rfl rfl ?_
    refine w_if_ne (pc := 17) (tgt := 26) dX4_pack_17 (by decide) (fun c17 => ?_) (fun c17 => ?_)
    · refine w_iload_n (pc := 26) (i := 3) dX4_pack_26 rfl rfl ?_
      refine w_iconst (pc := 27) (v := 1) dX4_pack_27 (by decide) ?_
      refine w_bipush (pc := 28) (v := 24) dX4_pack_28 (by decide) ?_
      refine w_sI (pc := 30) dX4_pack_30 GX4_38 (c_isIn u 1 24 h2) rfl rfl rfl rfl ?_
      refine w_if_ne (pc := 33) (tgt := 42) dX4_pack_33 (by decide) (fun c33 => ?_) (fun c33 => ?_)
      · obtain ⟨i, hi, ex⟩ := hR_of c10 (by omega)
        subst ex
        obtain ⟨j, hj, ey⟩ := inB_nat (n := 5) c17 (by omega)
        subst ey
        have hin : (nI i).toNatClampNeg = i := nI_clamp (by omega)
        have hjn : (nI j).toNatClampNeg = j := nI_clamp (by omega)
        refine w_aload_n (pc := 42) (i := 0) dX4_pack_42 rfl rfl ?_
        refine w_get (pc := 43) dX4_pack_43 FX4_27 hp2.1.1 rfl ?_
        refine w_get (pc := 46) dX4_pack_46 FX4_86 hp2.2.1.1 rfl ?_
        refine w_iload_n (pc := 49) (i := 1) dX4_pack_49 rfl rfl ?_
        refine w_aald (pc := 50) dX4_pack_50 hp2.2.1.ware (vp_in_nI (by omega) (by omega)) (rowsAt_nI (by omega) (by omega)) ?_
        refine w_topa (fun x51 e51 => ?_)
        refine w_astore (pc := 51) (i := 4) (ls' := [.ref 27, .int (nI i), .int (nI j), .int u, .ref x51, vU]) dX4_pack_51 (by decide) rfl rfl rfl ?_
        subst e51
        refine w_aload_n (pc := 53) (i := 0) dX4_pack_53 rfl rfl ?_
        refine w_get (pc := 54) dX4_pack_54 FX4_27 hp2.1.1 rfl ?_
        refine w_iload_n (pc := 57) (i := 2) dX4_pack_57 rfl rfl ?_
        refine w_vO (pc := 58) dX4_pack_58 GX4_90 hp2.2.1.1 (c_saggar j hp2.2.1 (by omega)) rfl rfl rfl rfl ?_
        refine w_iconst (pc := 61) (v := 1) dX4_pack_61 (by decide) ?_
        refine w_iald (pc := 62) dX4_pack_62 (hp2.2.1.wg (by omega)) (vp_in_nI (n := 1) (by omega) (by omega)) ?_
        rw [show Int32.toNatClampNeg 1 = 1 from rfl]
        refine w_if_gt (pc := 63) (tgt := 74) dX4_pack_63 (by decide) (fun c63 => ?_) (fun c63 => ?_)
        · refine w_aload_n (pc := 74) (i := 0) dX4_pack_74 rfl rfl ?_
          refine w_iconst (pc := 75) (v := 3) dX4_pack_75 (by decide) ?_
          refine w_vQ (pc := 76) dX4_pack_76 GX4_55 hp2.1.1 (c_no 3 hp2) rfl rfl rfl rfl ?_
          rintro vn hn ⟨rfl, hpn, hon⟩
          exact w_ireturn (pc := 79) dX4_pack_79 ⟨_, rfl, rfl⟩ (RRet.of (by unfold bPack; dsimp only; rw [if_neg c10, if_neg c17, if_neg c33, hin, hjn, if_pos c63] <;> rfl) hpn (ho2.tr hon))
        · refine w_aload (pc := 66) (i := 4) dX4_pack_66 rfl ?_
          refine w_iconst (pc := 68) (v := 1) dX4_pack_68 (by decide) ?_
          refine w_iald (pc := 69) dX4_pack_69 (hp2.2.1.wg (by omega)) (vp_in_nI (n := 1) (by omega) (by omega)) ?_
          rw [show Int32.toNatClampNeg 1 = 1 from rfl]
          refine w_iload_n (pc := 70) (i := 3) dX4_pack_70 rfl rfl ?_
          refine w_icmp_ge (pc := 71) (tgt := 80) dX4_pack_71 (by decide) (fun c71 => ?_) (fun c71 => ?_)
          · refine w_aload_n (pc := 80) (i := 0) dX4_pack_80 rfl rfl ?_
            refine w_get (pc := 81) dX4_pack_81 FX4_27 hp2.1.1 rfl ?_
            refine w_aload_n (pc := 84) (i := 0) dX4_pack_84 rfl rfl ?_
            refine w_get (pc := 85) dX4_pack_85 FX4_27 hp2.1.1 rfl ?_
            refine w_iload_n (pc := 88) (i := 2) dX4_pack_88 rfl rfl ?_
            refine w_vO (pc := 89) dX4_pack_89 GX4_90 hp2.2.1.1 (c_saggar j hp2.2.1 (by omega)) rfl rfl rfl rfl ?_
            refine w_aload (pc := 92) (i := 4) dX4_pack_92 rfl ?_
            refine w_iconst (pc := 94) (v := 0) dX4_pack_94 (by decide) ?_
            refine w_iald (pc := 95) dX4_pack_95 (hp2.2.1.wg (by omega)) (vp_in_nI (n := 0) (by omega) (by omega)) ?_
            refine w_iload_n (pc := 96) (i := 3) dX4_pack_96 rfl rfl ?_
            refine w_aload (pc := 97) (i := 4) dX4_pack_97 rfl ?_
            refine w_iconst (pc := 99) (v := 2) dX4_pack_99 (by decide) ?_
            refine w_iald (pc := 100) dX4_pack_100 (hp2.2.1.wg (by omega)) (vp_in_nI (n := 2) (by omega) (by omega)) ?_
            refine w_aload (pc := 101) (i := 4) dX4_pack_101 rfl ?_
            refine w_iconst (pc := 103) (v := 3) dX4_pack_103 (by decide) ?_
            refine w_iald (pc := 104) dX4_pack_104 (hp2.2.1.wg (by omega)) (vp_in_nI (n := 3) (by omega) (by omega)) ?_
            refine w_nV (pc := 105) dX4_pack_105 GX4_94 hp2.2.1.1 (c_put3 _ _ _ _ (hp2.2.1.wg (by omega))) rfl rfl rfl rfl ?_
            obtain ⟨s105, es105⟩ : ∃ z : ST, z = tW τ (10 + j) (pF (τ.2.1 (10 + j)) (τ.2.1 i 0) u (τ.2.1 i 2) (τ.2.1 i 3)) := ⟨_, rfl⟩
            have hp105 : Rm (μ, s105) 0 (h2.set (32 + 4 + (10 + j)) (.inl (4, .inl (pF (τ.2.1 (10 + j)) (τ.2.1 i 0) u (τ.2.1 i 2) (τ.2.1 i 3))))) := by rw [es105]; exact hp2.st (hp2.2.1.w (by omega) _) (GOut.rf.set (by omega) (by omega))
            have ho105 : GOut 27 65 h (h2.set (32 + 4 + (10 + j)) (.inl (4, .inl (pF (τ.2.1 (10 + j)) (τ.2.1 i 0) u (τ.2.1 i 2) (τ.2.1 i 3))))) := ho2.set (by omega) (by omega)
            show WP _ _ _ _ _ _ _ _ (h2.set (32 + 4 + (10 + j)) (.inl (4, .inl (pF (τ.2.1 (10 + j)) (τ.2.1 i 0) u (τ.2.1 i 2) (τ.2.1 i 3))))) _
            generalize hh105 : (h2.set (32 + 4 + (10 + j)) (.inl (4, .inl (pF (τ.2.1 (10 + j)) (τ.2.1 i 0) u (τ.2.1 i 2) (τ.2.1 i 3))))) = h105 at hp105 ho105 ⊢
            clear hh105
            have hr105 : s105.2.1 i = τ.2.1 i := by rw [es105]; exact if_neg (by omega)
            refine w_aload (pc := 108) (i := 4) dX4_pack_108 rfl ?_
            refine w_iconst (pc := 110) (v := 1) dX4_pack_110 (by decide) ?_
            refine w_dup2 (pc := 111) dX4_pack_111 rfl rfl ?_
            refine w_iald (pc := 112) dX4_pack_112 (hp105.2.1.wg (by omega)) (vp_in_nI (n := 1) (by omega) (by omega)) ?_
            refine w_iload_n (pc := 113) (i := 3) dX4_pack_113 rfl rfl ?_
            refine w_isub (pc := 114) dX4_pack_114 ?_
            refine w_iast (pc := 115) dX4_pack_115 (hp105.2.1.wg (by omega)) (vp_in_nI (n := 1) (by omega) (by omega)) ?_
            rw [hr105]
            obtain ⟨s115, es115⟩ : ∃ z : ST, z = tW s105 (i) (upd (τ.2.1 i) 1 (τ.2.1 i 1 - u)) := ⟨_, rfl⟩
            have hp115 : Rm (μ, s115) 0 (h105.set (32 + 4 + (i)) (.inl (4, .inl (upd (τ.2.1 i) 1 (τ.2.1 i 1 - u))))) := by rw [es115]; exact hp105.st (hp105.2.1.w (by omega) _) (GOut.rf.set (by omega) (by omega))
            have ho115 : GOut 27 65 h (h105.set (32 + 4 + (i)) (.inl (4, .inl (upd (τ.2.1 i) 1 (τ.2.1 i 1 - u))))) := ho105.set (by omega) (by omega)
            show WP _ _ _ _ _ _ _ _ (h105.set (32 + 4 + (i)) (.inl (4, .inl (upd (τ.2.1 i) 1 (τ.2.1 i 1 - u))))) _
            generalize hh115 : (h105.set (32 + 4 + (i)) (.inl (4, .inl (upd (τ.2.1 i) 1 (τ.2.1 i 1 - u))))) = h115 at hp115 ho115 ⊢
            clear hh115
            refine w_aload (pc := 116) (i := 4) dX4_pack_116 rfl ?_
            refine w_iconst (pc := 118) (v := 1) dX4_pack_118 (by decide) ?_
            refine w_iald (pc := 119) dX4_pack_119 (hp115.2.1.wg (by omega)) (vp_in_nI (n := 1) (by omega) (by omega)) ?_
            rw [show s115.2.1 i (Int32.toNatClampNeg 1) = τ.2.1 i 1 - u from by rw [es115]; exact congrFun (if_pos rfl : (if i = i then upd (τ.2.1 i) 1 (τ.2.1 i 1 - u) else s105.2.1 i) = _) 1]
            refine w_topi (fun x120 e120 => ?_)
            refine w_istore (pc := 120) (i := 5) (ls' := [.ref 27, .int (nI i), .int (nI j), .int u, .ref (32 + 4 + i), .int x120]) dX4_pack_120 (by decide) rfl rfl rfl ?_
            subst e120
            refine w_iload (pc := 122) (i := 5) dX4_pack_122 rfl ?_
            refine w_if_ne (pc := 124) (tgt := 135) dX4_pack_124 (by decide) (fun c124 => ?_) (fun c124 => ?_)
            · refine w_iload (pc := 135) (i := 5) dX4_pack_135 rfl ?_
              exact w_ireturn (pc := 137) dX4_pack_137 ⟨_, rfl, rfl⟩ (RRet.of (by rw [es115, es105]; unfold bPack; dsimp only; rw [if_neg c10, if_neg c17, if_neg c33, hin, hjn, if_neg c63, if_neg (Int32.not_lt.mpr c71), if_neg c124] <;> rfl) hp115 ho115)
            · refine w_aload_n (pc := 127) (i := 0) dX4_pack_127 rfl rfl ?_
              refine w_get (pc := 128) dX4_pack_128 FX4_27 hp115.1.1 rfl ?_
              refine w_iload_n (pc := 131) (i := 1) dX4_pack_131 rfl rfl ?_
              have hc115 : s115.2.2.2.1 = τ.2.2.2.1 := by rw [es115, es105]; rfl
              refine w_vQ (pc := 132) dX4_pack_132 GX4_98 hp115.2.1.1 (c_takeBatch i hp115.2.1 (by rw [hc115]; exact hi) (by rw [hc115]; exact hT0)) rfl rfl rfl rfl ?_
              rintro v3 h3 ⟨rfl, hw3, ho3⟩
              refine w_iload (pc := 135) (i := 5) dX4_pack_135 rfl ?_
              exact w_ireturn (pc := 137) dX4_pack_137 ⟨_, rfl, rfl⟩ (RRet.of (by rw [es115, es105]; unfold bPack; dsimp only; rw [if_neg c10, if_neg c17, if_neg c33, hin, hjn, if_neg c63, if_neg (Int32.not_lt.mpr c71), if_pos c124] <;> rfl) (hp115.st hw3 ho3) (ho115.tr (ho3.mono (by omega) (by omega))))
          · refine w_aload_n (pc := 74) (i := 0) dX4_pack_74 rfl rfl ?_
            refine w_iconst (pc := 75) (v := 3) dX4_pack_75 (by decide) ?_
            refine w_vQ (pc := 76) dX4_pack_76 GX4_55 hp2.1.1 (c_no 3 hp2) rfl rfl rfl rfl ?_
            rintro vn hn ⟨rfl, hpn, hon⟩
            exact w_ireturn (pc := 79) dX4_pack_79 ⟨_, rfl, rfl⟩ (RRet.of (by unfold bPack; dsimp only; rw [if_neg c10, if_neg c17, if_neg c33, hin, hjn, if_neg c63, if_pos (Int32.not_le.mp c71)] <;> rfl) hpn (ho2.tr hon))
      · refine w_aload_n (pc := 36) (i := 0) dX4_pack_36 rfl rfl ?_
        refine w_iconst (pc := 37) (v := 2) dX4_pack_37 (by decide) ?_
        refine w_vQ (pc := 38) dX4_pack_38 GX4_55 hp2.1.1 (c_no 2 hp2) rfl rfl rfl rfl ?_
        rintro vn hn ⟨rfl, hpn, hon⟩
        exact w_ireturn (pc := 41) dX4_pack_41 ⟨_, rfl, rfl⟩ (RRet.of (by unfold bPack; dsimp only; rw [if_neg c10, if_neg c17, if_pos c33] <;> rfl) hpn (ho2.tr hon))
    · refine w_aload_n (pc := 20) (i := 0) dX4_pack_20 rfl rfl ?_
      refine w_iconst (pc := 21) (v := 1) dX4_pack_21 (by decide) ?_
      refine w_vQ (pc := 22) dX4_pack_22 GX4_55 hp2.1.1 (c_no 1 hp2) rfl rfl rfl rfl ?_
      rintro vn hn ⟨rfl, hpn, hon⟩
      exact w_ireturn (pc := 25) dX4_pack_25 ⟨_, rfl, rfl⟩ (RRet.of (by unfold bPack; dsimp only; rw [if_neg c10, if_pos c17] <;> rfl) hpn (ho2.tr hon))
end MODEL2
