/-! Works: the start -/
section GROW
variable {α : Type} {g L : List α} {b : Nat} {x : α}
theorem gg_len (hg : g.length = b) : (g ++ L).length = b + L.length := by rw [List.length_append, hg]
theorem gg_get (hg : g.length = b) (j : Nat) : (g ++ L)[b + j]? = L[j]? := by subst hg; rw [List.getElem?_append_right (Nat.le_add_right _ _), Nat.add_sub_cancel_left]
theorem gg_get0 (hg : g.length = b) : (g ++ L)[b]? = L[0]? := gg_get hg 0
theorem gg_set (hg : g.length = b) (j : Nat) : (g ++ L).set (b + j) x = g ++ L.set j x := by subst hg; rw [List.set_append_right _ _ (Nat.le_add_right _ _), Nat.add_sub_cancel_left]
theorem gg_set0 (hg : g.length = b) : (g ++ L).set b x = g ++ L.set 0 x := gg_set hg 0
theorem gg_low (hg : g.length = b) {i : Nat} (hi : i < b) : (g ++ L)[i]? = g[i]? := List.getElem?_append_left (by omega)
end GROW
def tOne : Nat → Nat → Int32
  | 0 => fun _ => 0
  | n + 1 => upd (tOne n) n 1
def kZero : WS := (fun t => if t = 5 then tOne 7 else fun _ => 0, fun t => if t = 3 then 6 else 0, fun k => if k = 1 then 200 else if k = 2 then 20 else if k = 3 then 30 else if k = 8 then -1 else 0)
theorem kZero_B : WB kZero := by unfold WB kZero; decide
abbrev wkD : List Value := [.null, .null, .null, .null, .null, .null, .null, .int 0, .int 0, .int 0, .int 0, .int 0, .int 0, .int 0, .int 0, .int 0, .int 0]
section WINIT
variable {d b : Nat} {h g : AH}
set_option maxHeartbeats 4000000 in
theorem c_Works_init_loop {c : Nat} {fs : List Value} {P : AO → AH → Prop} (hh : h[b]? = some (.inr (1, fs))) (hfs : fs[5]? = some (.ref c)) (hcc : h[c]? = some (.inl (7, .inl (tOne 0)))) (hne : c ≠ b) (hK : WP d mX1_init none 0 0 130 [.ref b, .int 7] [] (h.set c (.inl (7, .inl (tOne 7)))) P) : ∀ (m k : Nat), k + m = 7 → WP d mX1_init none 0 0 108 [.ref b, .int (nI k)] [] (h.set c (.inl (7, .inl (tOne k)))) P := by
  intro m
  induction m with
  | zero =>
    intro k hk
    have hk : k = 7 := by omega
    subst hk
    have h0 : (h.set c (.inl (7, .inl (tOne 7))))[b]? = some (.inr (1, fs)) := by rw [gsn hne]; exact hh
    have hc : (h.set c (.inl (7, .inl (tOne 7))))[c]? = some (.inl (7, .inl (tOne 7))) := gss hcc
    refine w_iload_n (pc := 108) (i := 1) dX1_init_108 rfl rfl ?_
    refine w_aload_n (pc := 109) (i := 0) dX1_init_109 rfl rfl ?_
    refine w_get (pc := 110) dX1_init_110 FX1_32 h0 hfs ?_
    refine w_alen (pc := 113) dX1_init_113 (v := 7) hc rfl ?_
    refine w_icmp_ge (pc := 114) (tgt := 130) dX1_init_114 (by decide) (fun c114 => ?_) (fun c114 => absurd (by decide) c114)
    exact hK
  | succ m ih =>
    intro k hk
    have h0 : (h.set c (.inl (7, .inl (tOne k))))[b]? = some (.inr (1, fs)) := by rw [gsn hne]; exact hh
    have hc : (h.set c (.inl (7, .inl (tOne k))))[c]? = some (.inl (7, .inl (tOne k))) := gss hcc
    refine w_iload_n (pc := 108) (i := 1) dX1_init_108 rfl rfl ?_
    refine w_aload_n (pc := 109) (i := 0) dX1_init_109 rfl rfl ?_
    refine w_get (pc := 110) dX1_init_110 FX1_32 h0 hfs ?_
    refine w_alen (pc := 113) dX1_init_113 (v := 7) hc rfl ?_
    refine w_icmp_ge (pc := 114) (tgt := 130) dX1_init_114 (by decide) (fun c114 => absurd (show nI 7 ≤ nI k from c114) (nI_ge (by omega) (by omega))) (fun c114 => ?_)
    refine w_aload_n (pc := 117) (i := 0) dX1_init_117 rfl rfl ?_
    refine w_get (pc := 118) dX1_init_118 FX1_32 h0 hfs ?_
    refine w_iload_n (pc := 121) (i := 1) dX1_init_121 rfl rfl ?_
    refine w_iconst (pc := 122) (v := 1) dX1_init_122 (by decide) ?_
    refine w_iast (pc := 123) dX1_init_123 hc (vp_in_nI (by omega) (by omega)) ?_
    rw [List.set_set, nI_clamp (by omega)]
    obtain ⟨x124, e124⟩ : ∃ y : Int32, y = (nI k) + 1 := ⟨_, rfl⟩
    refine w_iinc (pc := 124) (i := 1) (y := x124) (ls' := [.ref b, .int x124]) dX1_init_124 rfl (by rw [e124]; rfl) (by decide) rfl rfl rfl ?_
    refine w_goto (pc := 127) (tgt := 108) dX1_init_127 (by decide) ?_
    obtain rfl : x124 = nI (k + 1) := by rw [e124]; exact nI_1 k
    exact ih (k + 1) (by omega)
set_option maxHeartbeats 4000000 in
theorem c_Works_init (hg : g.length = b) : Ct (d + 2) mX1_init 12 171 [.ref b] (g ++ [.inr (1, wkD)]) (NT (fun v h1 => v = none ∧ h1.length = b + 13 ∧ (∀ i, i < b → h1[i]? = g[i]?) ∧ Wk b kZero h1)) := by
  refine Ct.of (by decide +kernel) rfl (Nat.le_of_ble_eq_true rfl) ?_
  show WP (d + 2) mX1_init none 12 171 0 [.ref b, vU] [] (g ++ [.inr (1, [.null, .null, .null, .null, .null, .null, .null, .int 0, .int 0, .int 0, .int 0, .int 0, .int 0, .int 0, .int 0, .int 0, .int 0])]) _
  refine w_aload_n (pc := 0) (i := 0) dX1_init_0 rfl rfl ?_
  refine w_objInit (pc := 1) dX1_init_1 LX1_3 (by omega) rfl ?_
  refine w_aload_n (pc := 4) (i := 0) dX1_init_4 rfl rfl ?_
  refine w_new (pc := 5) (N := 3) (k := 11) (n := 168) dX1_init_5 NX1_9 rfl ?_
  rw [gg_len hg, List.append_assoc]
  show WP (d + 2) mX1_init none 11 168 8 [.ref b, vU] [.ref (b + 1), .ref b] (g ++ [.inr (1, [.null, .null, .null, .null, .null, .null, .null, .int 0, .int 0, .int 0, .int 0, .int 0, .int 0, .int 0, .int 0, .int 0, .int 0]), .inr (0, [.null, .int 0, .int 0])]) _
  refine w_dup (pc := 8) dX1_init_8 rfl ?_
  refine w_bipush (pc := 9) (v := 18) dX1_init_9 (by decide) ?_
  refine w_newi (pc := 11) (N := 18) (k := 10) (n := 150) dX1_init_11 rfl (by omega) ?_
  rw [gg_len hg, List.append_assoc]
  show WP (d + 2) mX1_init none 10 150 13 [.ref b, vU] [.ref (b + 2), .ref (b + 1), .ref (b + 1), .ref b] (g ++ [.inr (1, [.null, .null, .null, .null, .null, .null, .null, .int 0, .int 0, .int 0, .int 0, .int 0, .int 0, .int 0, .int 0, .int 0, .int 0]), .inr (0, [.null, .int 0, .int 0]), .inl (18, .inl (fun _ => 0))]) _
  refine w_iconst (pc := 13) (v := 3) dX1_init_13 (by decide) ?_
  refine w_iconst (pc := 14) (v := 0) dX1_init_14 (by decide) ?_
  refine w_i (k1 := 0) (n1 := 0) (k2 := 10) (n2 := 150) (pc := 15) dX1_init_15 GX1_11 (c_Table_init (tb := b + 1) 3 0 (by rw [gg_get hg]; rfl) (by omega)) rfl rfl rfl rfl rfl rfl ?_
  rintro v0 h0 ⟨rfl, rfl⟩
  rw [gg_set hg]
  show WP (d + 2) mX1_init none 10 150 18 [.ref b, vU] [.ref (b + 1), .ref b] (g ++ [.inr (1, [.null, .null, .null, .null, .null, .null, .null, .int 0, .int 0, .int 0, .int 0, .int 0, .int 0, .int 0, .int 0, .int 0, .int 0]), .inr (0, [.ref (b + 2), .int 3, .int 0]), .inl (18, .inl (fun _ => 0))]) _
  refine w_putF (pc := 18) dX1_init_18 UX1_14 rfl (gg_get0 hg) (Nat.le_of_ble_eq_true rfl) nv_o (fun _ q => by cases q) ?_
  rw [gg_set0 hg]
  show WP (d + 2) mX1_init none 10 150 21 [.ref b, vU] [] (g ++ [.inr (1, [.ref (b + 1), .null, .null, .null, .null, .null, .null, .int 0, .int 0, .int 0, .int 0, .int 0, .int 0, .int 0, .int 0, .int 0, .int 0]), .inr (0, [.ref (b + 2), .int 3, .int 0]), .inl (18, .inl (fun _ => 0))]) _
  refine w_aload_n (pc := 21) (i := 0) dX1_init_21 rfl rfl ?_
  refine w_new (pc := 22) (N := 3) (k := 9) (n := 147) dX1_init_22 NX1_9 rfl ?_
  rw [gg_len hg, List.append_assoc]
  show WP (d + 2) mX1_init none 9 147 25 [.ref b, vU] [.ref (b + 3), .ref b] (g ++ [.inr (1, [.ref (b + 1), .null, .null, .null, .null, .null, .null, .int 0, .int 0, .int 0, .int 0, .int 0, .int 0, .int 0, .int 0, .int 0, .int 0]), .inr (0, [.ref (b + 2), .int 3, .int 0]), .inl (18, .inl (fun _ => 0)), .inr (0, [.null, .int 0, .int 0])]) _
  refine w_dup (pc := 25) dX1_init_25 rfl ?_
  refine w_bipush (pc := 26) (v := 10) dX1_init_26 (by decide) ?_
  refine w_newi (pc := 28) (N := 10) (k := 8) (n := 137) dX1_init_28 rfl (by omega) ?_
  rw [gg_len hg, List.append_assoc]
  show WP (d + 2) mX1_init none 8 137 30 [.ref b, vU] [.ref (b + 4), .ref (b + 3), .ref (b + 3), .ref b] (g ++ [.inr (1, [.ref (b + 1), .null, .null, .null, .null, .null, .null, .int 0, .int 0, .int 0, .int 0, .int 0, .int 0, .int 0, .int 0, .int 0, .int 0]), .inr (0, [.ref (b + 2), .int 3, .int 0]), .inl (18, .inl (fun _ => 0)), .inr (0, [.null, .int 0, .int 0]), .inl (10, .inl (fun _ => 0))]) _
  refine w_iconst (pc := 30) (v := 2) dX1_init_30 (by decide) ?_
  refine w_iconst (pc := 31) (v := 0) dX1_init_31 (by decide) ?_
  refine w_i (k1 := 0) (n1 := 0) (k2 := 8) (n2 := 137) (pc := 32) dX1_init_32 GX1_11 (c_Table_init (tb := b + 3) 2 0 (by rw [gg_get hg]; rfl) (by omega)) rfl rfl rfl rfl rfl rfl ?_
  rintro v0 h0 ⟨rfl, rfl⟩
  rw [gg_set hg]
  show WP (d + 2) mX1_init none 8 137 35 [.ref b, vU] [.ref (b + 3), .ref b] (g ++ [.inr (1, [.ref (b + 1), .null, .null, .null, .null, .null, .null, .int 0, .int 0, .int 0, .int 0, .int 0, .int 0, .int 0, .int 0, .int 0, .int 0]), .inr (0, [.ref (b + 2), .int 3, .int 0]), .inl (18, .inl (fun _ => 0)), .inr (0, [.ref (b + 4), .int 2, .int 0]), .inl (10, .inl (fun _ => 0))]) _
  refine w_putF (pc := 35) dX1_init_35 UX1_20 rfl (gg_get0 hg) (Nat.le_of_ble_eq_true rfl) nv_o (fun _ q => by cases q) ?_
  rw [gg_set0 hg]
  show WP (d + 2) mX1_init none 8 137 38 [.ref b, vU] [] (g ++ [.inr (1, [.ref (b + 1), .ref (b + 3), .null, .null, .null, .null, .null, .int 0, .int 0, .int 0, .int 0, .int 0, .int 0, .int 0, .int 0, .int 0, .int 0]), .inr (0, [.ref (b + 2), .int 3, .int 0]), .inl (18, .inl (fun _ => 0)), .inr (0, [.ref (b + 4), .int 2, .int 0]), .inl (10, .inl (fun _ => 0))]) _
  refine w_aload_n (pc := 38) (i := 0) dX1_init_38 rfl rfl ?_
  refine w_new (pc := 39) (N := 3) (k := 7) (n := 134) dX1_init_39 NX1_9 rfl ?_
  rw [gg_len hg, List.append_assoc]
  show WP (d + 2) mX1_init none 7 134 42 [.ref b, vU] [.ref (b + 5), .ref b] (g ++ [.inr (1, [.ref (b + 1), .ref (b + 3), .null, .null, .null, .null, .null, .int 0, .int 0, .int 0, .int 0, .int 0, .int 0, .int 0, .int 0, .int 0, .int 0]), .inr (0, [.ref (b + 2), .int 3, .int 0]), .inl (18, .inl (fun _ => 0)), .inr (0, [.ref (b + 4), .int 2, .int 0]), .inl (10, .inl (fun _ => 0)), .inr (0, [.null, .int 0, .int 0])]) _
  refine w_dup (pc := 42) dX1_init_42 rfl ?_
  refine w_bipush (pc := 43) (v := 40) dX1_init_43 (by decide) ?_
  refine w_newi (pc := 45) (N := 40) (k := 6) (n := 94) dX1_init_45 rfl (by omega) ?_
  rw [gg_len hg, List.append_assoc]
  show WP (d + 2) mX1_init none 6 94 47 [.ref b, vU] [.ref (b + 6), .ref (b + 5), .ref (b + 5), .ref b] (g ++ [.inr (1, [.ref (b + 1), .ref (b + 3), .null, .null, .null, .null, .null, .int 0, .int 0, .int 0, .int 0, .int 0, .int 0, .int 0, .int 0, .int 0, .int 0]), .inr (0, [.ref (b + 2), .int 3, .int 0]), .inl (18, .inl (fun _ => 0)), .inr (0, [.ref (b + 4), .int 2, .int 0]), .inl (10, .inl (fun _ => 0)), .inr (0, [.null, .int 0, .int 0]), .inl (40, .inl (fun _ => 0))]) _
  refine w_iconst (pc := 47) (v := 4) dX1_init_47 (by decide) ?_
  refine w_iconst (pc := 48) (v := 0) dX1_init_48 (by decide) ?_
  refine w_i (k1 := 0) (n1 := 0) (k2 := 6) (n2 := 94) (pc := 49) dX1_init_49 GX1_11 (c_Table_init (tb := b + 5) 4 0 (by rw [gg_get hg]; rfl) (by omega)) rfl rfl rfl rfl rfl rfl ?_
  rintro v0 h0 ⟨rfl, rfl⟩
  rw [gg_set hg]
  show WP (d + 2) mX1_init none 6 94 52 [.ref b, vU] [.ref (b + 5), .ref b] (g ++ [.inr (1, [.ref (b + 1), .ref (b + 3), .null, .null, .null, .null, .null, .int 0, .int 0, .int 0, .int 0, .int 0, .int 0, .int 0, .int 0, .int 0, .int 0]), .inr (0, [.ref (b + 2), .int 3, .int 0]), .inl (18, .inl (fun _ => 0)), .inr (0, [.ref (b + 4), .int 2, .int 0]), .inl (10, .inl (fun _ => 0)), .inr (0, [.ref (b + 6), .int 4, .int 0]), .inl (40, .inl (fun _ => 0))]) _
  refine w_putF (pc := 52) dX1_init_52 UX1_23 rfl (gg_get0 hg) (Nat.le_of_ble_eq_true rfl) nv_o (fun _ q => by cases q) ?_
  rw [gg_set0 hg]
  show WP (d + 2) mX1_init none 6 94 55 [.ref b, vU] [] (g ++ [.inr (1, [.ref (b + 1), .ref (b + 3), .ref (b + 5), .null, .null, .null, .null, .int 0, .int 0, .int 0, .int 0, .int 0, .int 0, .int 0, .int 0, .int 0, .int 0]), .inr (0, [.ref (b + 2), .int 3, .int 0]), .inl (18, .inl (fun _ => 0)), .inr (0, [.ref (b + 4), .int 2, .int 0]), .inl (10, .inl (fun _ => 0)), .inr (0, [.ref (b + 6), .int 4, .int 0]), .inl (40, .inl (fun _ => 0))]) _
  refine w_aload_n (pc := 55) (i := 0) dX1_init_55 rfl rfl ?_
  refine w_new (pc := 56) (N := 3) (k := 5) (n := 91) dX1_init_56 NX1_9 rfl ?_
  rw [gg_len hg, List.append_assoc]
  show WP (d + 2) mX1_init none 5 91 59 [.ref b, vU] [.ref (b + 7), .ref b] (g ++ [.inr (1, [.ref (b + 1), .ref (b + 3), .ref (b + 5), .null, .null, .null, .null, .int 0, .int 0, .int 0, .int 0, .int 0, .int 0, .int 0, .int 0, .int 0, .int 0]), .inr (0, [.ref (b + 2), .int 3, .int 0]), .inl (18, .inl (fun _ => 0)), .inr (0, [.ref (b + 4), .int 2, .int 0]), .inl (10, .inl (fun _ => 0)), .inr (0, [.ref (b + 6), .int 4, .int 0]), .inl (40, .inl (fun _ => 0)), .inr (0, [.null, .int 0, .int 0])]) _
  refine w_dup (pc := 59) dX1_init_59 rfl ?_
  refine w_bipush (pc := 60) (v := 24) dX1_init_60 (by decide) ?_
  refine w_newi (pc := 62) (N := 24) (k := 4) (n := 67) dX1_init_62 rfl (by omega) ?_
  rw [gg_len hg, List.append_assoc]
  show WP (d + 2) mX1_init none 4 67 64 [.ref b, vU] [.ref (b + 8), .ref (b + 7), .ref (b + 7), .ref b] (g ++ [.inr (1, [.ref (b + 1), .ref (b + 3), .ref (b + 5), .null, .null, .null, .null, .int 0, .int 0, .int 0, .int 0, .int 0, .int 0, .int 0, .int 0, .int 0, .int 0]), .inr (0, [.ref (b + 2), .int 3, .int 0]), .inl (18, .inl (fun _ => 0)), .inr (0, [.ref (b + 4), .int 2, .int 0]), .inl (10, .inl (fun _ => 0)), .inr (0, [.ref (b + 6), .int 4, .int 0]), .inl (40, .inl (fun _ => 0)), .inr (0, [.null, .int 0, .int 0]), .inl (24, .inl (fun _ => 0))]) _
  refine w_iconst (pc := 64) (v := 4) dX1_init_64 (by decide) ?_
  refine w_bipush (pc := 65) (v := 6) dX1_init_65 (by decide) ?_
  refine w_i (k1 := 0) (n1 := 0) (k2 := 4) (n2 := 67) (pc := 67) dX1_init_67 GX1_11 (c_Table_init (tb := b + 7) 4 6 (by rw [gg_get hg]; rfl) (by omega)) rfl rfl rfl rfl rfl rfl ?_
  rintro v0 h0 ⟨rfl, rfl⟩
  rw [gg_set hg]
  show WP (d + 2) mX1_init none 4 67 70 [.ref b, vU] [.ref (b + 7), .ref b] (g ++ [.inr (1, [.ref (b + 1), .ref (b + 3), .ref (b + 5), .null, .null, .null, .null, .int 0, .int 0, .int 0, .int 0, .int 0, .int 0, .int 0, .int 0, .int 0, .int 0]), .inr (0, [.ref (b + 2), .int 3, .int 0]), .inl (18, .inl (fun _ => 0)), .inr (0, [.ref (b + 4), .int 2, .int 0]), .inl (10, .inl (fun _ => 0)), .inr (0, [.ref (b + 6), .int 4, .int 0]), .inl (40, .inl (fun _ => 0)), .inr (0, [.ref (b + 8), .int 4, .int 6]), .inl (24, .inl (fun _ => 0))]) _
  refine w_putF (pc := 70) dX1_init_70 UX1_26 rfl (gg_get0 hg) (Nat.le_of_ble_eq_true rfl) nv_o (fun _ q => by cases q) ?_
  rw [gg_set0 hg]
  show WP (d + 2) mX1_init none 4 67 73 [.ref b, vU] [] (g ++ [.inr (1, [.ref (b + 1), .ref (b + 3), .ref (b + 5), .ref (b + 7), .null, .null, .null, .int 0, .int 0, .int 0, .int 0, .int 0, .int 0, .int 0, .int 0, .int 0, .int 0]), .inr (0, [.ref (b + 2), .int 3, .int 0]), .inl (18, .inl (fun _ => 0)), .inr (0, [.ref (b + 4), .int 2, .int 0]), .inl (10, .inl (fun _ => 0)), .inr (0, [.ref (b + 6), .int 4, .int 0]), .inl (40, .inl (fun _ => 0)), .inr (0, [.ref (b + 8), .int 4, .int 6]), .inl (24, .inl (fun _ => 0))]) _
  refine w_aload_n (pc := 73) (i := 0) dX1_init_73 rfl rfl ?_
  refine w_new (pc := 74) (N := 3) (k := 3) (n := 64) dX1_init_74 NX1_9 rfl ?_
  rw [gg_len hg, List.append_assoc]
  show WP (d + 2) mX1_init none 3 64 77 [.ref b, vU] [.ref (b + 9), .ref b] (g ++ [.inr (1, [.ref (b + 1), .ref (b + 3), .ref (b + 5), .ref (b + 7), .null, .null, .null, .int 0, .int 0, .int 0, .int 0, .int 0, .int 0, .int 0, .int 0, .int 0, .int 0]), .inr (0, [.ref (b + 2), .int 3, .int 0]), .inl (18, .inl (fun _ => 0)), .inr (0, [.ref (b + 4), .int 2, .int 0]), .inl (10, .inl (fun _ => 0)), .inr (0, [.ref (b + 6), .int 4, .int 0]), .inl (40, .inl (fun _ => 0)), .inr (0, [.ref (b + 8), .int 4, .int 6]), .inl (24, .inl (fun _ => 0)), .inr (0, [.null, .int 0, .int 0])]) _
  refine w_dup (pc := 77) dX1_init_77 rfl ?_
  refine w_bipush (pc := 78) (v := 32) dX1_init_78 (by decide) ?_
  refine w_newi (pc := 80) (N := 32) (k := 2) (n := 32) dX1_init_80 rfl (by omega) ?_
  rw [gg_len hg, List.append_assoc]
  show WP (d + 2) mX1_init none 2 32 82 [.ref b, vU] [.ref (b + 10), .ref (b + 9), .ref (b + 9), .ref b] (g ++ [.inr (1, [.ref (b + 1), .ref (b + 3), .ref (b + 5), .ref (b + 7), .null, .null, .null, .int 0, .int 0, .int 0, .int 0, .int 0, .int 0, .int 0, .int 0, .int 0, .int 0]), .inr (0, [.ref (b + 2), .int 3, .int 0]), .inl (18, .inl (fun _ => 0)), .inr (0, [.ref (b + 4), .int 2, .int 0]), .inl (10, .inl (fun _ => 0)), .inr (0, [.ref (b + 6), .int 4, .int 0]), .inl (40, .inl (fun _ => 0)), .inr (0, [.ref (b + 8), .int 4, .int 6]), .inl (24, .inl (fun _ => 0)), .inr (0, [.null, .int 0, .int 0]), .inl (32, .inl (fun _ => 0))]) _
  refine w_iconst (pc := 82) (v := 4) dX1_init_82 (by decide) ?_
  refine w_iconst (pc := 83) (v := 0) dX1_init_83 (by decide) ?_
  refine w_i (k1 := 0) (n1 := 0) (k2 := 2) (n2 := 32) (pc := 84) dX1_init_84 GX1_11 (c_Table_init (tb := b + 9) 4 0 (by rw [gg_get hg]; rfl) (by omega)) rfl rfl rfl rfl rfl rfl ?_
  rintro v0 h0 ⟨rfl, rfl⟩
  rw [gg_set hg]
  show WP (d + 2) mX1_init none 2 32 87 [.ref b, vU] [.ref (b + 9), .ref b] (g ++ [.inr (1, [.ref (b + 1), .ref (b + 3), .ref (b + 5), .ref (b + 7), .null, .null, .null, .int 0, .int 0, .int 0, .int 0, .int 0, .int 0, .int 0, .int 0, .int 0, .int 0]), .inr (0, [.ref (b + 2), .int 3, .int 0]), .inl (18, .inl (fun _ => 0)), .inr (0, [.ref (b + 4), .int 2, .int 0]), .inl (10, .inl (fun _ => 0)), .inr (0, [.ref (b + 6), .int 4, .int 0]), .inl (40, .inl (fun _ => 0)), .inr (0, [.ref (b + 8), .int 4, .int 6]), .inl (24, .inl (fun _ => 0)), .inr (0, [.ref (b + 10), .int 4, .int 0]), .inl (32, .inl (fun _ => 0))]) _
  refine w_putF (pc := 87) dX1_init_87 UX1_29 rfl (gg_get0 hg) (Nat.le_of_ble_eq_true rfl) nv_o (fun _ q => by cases q) ?_
  rw [gg_set0 hg]
  show WP (d + 2) mX1_init none 2 32 90 [.ref b, vU] [] (g ++ [.inr (1, [.ref (b + 1), .ref (b + 3), .ref (b + 5), .ref (b + 7), .ref (b + 9), .null, .null, .int 0, .int 0, .int 0, .int 0, .int 0, .int 0, .int 0, .int 0, .int 0, .int 0]), .inr (0, [.ref (b + 2), .int 3, .int 0]), .inl (18, .inl (fun _ => 0)), .inr (0, [.ref (b + 4), .int 2, .int 0]), .inl (10, .inl (fun _ => 0)), .inr (0, [.ref (b + 6), .int 4, .int 0]), .inl (40, .inl (fun _ => 0)), .inr (0, [.ref (b + 8), .int 4, .int 6]), .inl (24, .inl (fun _ => 0)), .inr (0, [.ref (b + 10), .int 4, .int 0]), .inl (32, .inl (fun _ => 0))]) _
  refine w_aload_n (pc := 90) (i := 0) dX1_init_90 rfl rfl ?_
  refine w_bipush (pc := 91) (v := 7) dX1_init_91 (by decide) ?_
  refine w_newi (pc := 93) (N := 7) (k := 1) (n := 25) dX1_init_93 rfl (by omega) ?_
  rw [gg_len hg, List.append_assoc]
  show WP (d + 2) mX1_init none 1 25 95 [.ref b, vU] [.ref (b + 11), .ref b] (g ++ [.inr (1, [.ref (b + 1), .ref (b + 3), .ref (b + 5), .ref (b + 7), .ref (b + 9), .null, .null, .int 0, .int 0, .int 0, .int 0, .int 0, .int 0, .int 0, .int 0, .int 0, .int 0]), .inr (0, [.ref (b + 2), .int 3, .int 0]), .inl (18, .inl (fun _ => 0)), .inr (0, [.ref (b + 4), .int 2, .int 0]), .inl (10, .inl (fun _ => 0)), .inr (0, [.ref (b + 6), .int 4, .int 0]), .inl (40, .inl (fun _ => 0)), .inr (0, [.ref (b + 8), .int 4, .int 6]), .inl (24, .inl (fun _ => 0)), .inr (0, [.ref (b + 10), .int 4, .int 0]), .inl (32, .inl (fun _ => 0)), .inl (7, .inl (fun _ => 0))]) _
  refine w_putF (pc := 95) dX1_init_95 UX1_32 rfl (gg_get0 hg) (Nat.le_of_ble_eq_true rfl) nv_a (fun _ q => by cases q) ?_
  rw [gg_set0 hg]
  show WP (d + 2) mX1_init none 1 25 98 [.ref b, vU] [] (g ++ [.inr (1, [.ref (b + 1), .ref (b + 3), .ref (b + 5), .ref (b + 7), .ref (b + 9), .ref (b + 11), .null, .int 0, .int 0, .int 0, .int 0, .int 0, .int 0, .int 0, .int 0, .int 0, .int 0]), .inr (0, [.ref (b + 2), .int 3, .int 0]), .inl (18, .inl (fun _ => 0)), .inr (0, [.ref (b + 4), .int 2, .int 0]), .inl (10, .inl (fun _ => 0)), .inr (0, [.ref (b + 6), .int 4, .int 0]), .inl (40, .inl (fun _ => 0)), .inr (0, [.ref (b + 8), .int 4, .int 6]), .inl (24, .inl (fun _ => 0)), .inr (0, [.ref (b + 10), .int 4, .int 0]), .inl (32, .inl (fun _ => 0)), .inl (7, .inl (fun _ => 0))]) _
  refine w_aload_n (pc := 98) (i := 0) dX1_init_98 rfl rfl ?_
  refine w_bipush (pc := 99) (v := 25) dX1_init_99 (by decide) ?_
  refine w_newi (pc := 101) (N := 25) (k := 0) (n := 0) dX1_init_101 rfl (by omega) ?_
  rw [gg_len hg, List.append_assoc]
  show WP (d + 2) mX1_init none 0 0 103 [.ref b, vU] [.ref (b + 12), .ref b] (g ++ [.inr (1, [.ref (b + 1), .ref (b + 3), .ref (b + 5), .ref (b + 7), .ref (b + 9), .ref (b + 11), .null, .int 0, .int 0, .int 0, .int 0, .int 0, .int 0, .int 0, .int 0, .int 0, .int 0]), .inr (0, [.ref (b + 2), .int 3, .int 0]), .inl (18, .inl (fun _ => 0)), .inr (0, [.ref (b + 4), .int 2, .int 0]), .inl (10, .inl (fun _ => 0)), .inr (0, [.ref (b + 6), .int 4, .int 0]), .inl (40, .inl (fun _ => 0)), .inr (0, [.ref (b + 8), .int 4, .int 6]), .inl (24, .inl (fun _ => 0)), .inr (0, [.ref (b + 10), .int 4, .int 0]), .inl (32, .inl (fun _ => 0)), .inl (7, .inl (fun _ => 0)), .inl (25, .inl (fun _ => 0))]) _
  refine w_putF (pc := 103) dX1_init_103 UX1_36 rfl (gg_get0 hg) (Nat.le_of_ble_eq_true rfl) nv_a (fun _ q => by cases q) ?_
  rw [gg_set0 hg]
  show WP (d + 2) mX1_init none 0 0 106 [.ref b, vU] [] (g ++ [.inr (1, [.ref (b + 1), .ref (b + 3), .ref (b + 5), .ref (b + 7), .ref (b + 9), .ref (b + 11), .ref (b + 12), .int 0, .int 0, .int 0, .int 0, .int 0, .int 0, .int 0, .int 0, .int 0, .int 0]), .inr (0, [.ref (b + 2), .int 3, .int 0]), .inl (18, .inl (fun _ => 0)), .inr (0, [.ref (b + 4), .int 2, .int 0]), .inl (10, .inl (fun _ => 0)), .inr (0, [.ref (b + 6), .int 4, .int 0]), .inl (40, .inl (fun _ => 0)), .inr (0, [.ref (b + 8), .int 4, .int 6]), .inl (24, .inl (fun _ => 0)), .inr (0, [.ref (b + 10), .int 4, .int 0]), .inl (32, .inl (fun _ => 0)), .inl (7, .inl (fun _ => 0)), .inl (25, .inl (fun _ => 0))]) _
  refine w_iconst (pc := 106) (v := 0) dX1_init_106 (by decide) ?_
  refine w_topi (fun x107 e107 => ?_)
  refine w_istore_n (pc := 107) (i := 1) (ls' := [.ref b, .int x107]) dX1_init_107 rfl (by decide) rfl rfl rfl ?_
  subst e107
  have hL := c_Works_init_loop (d := d + 2) (h := (g ++ [.inr (1, [.ref (b + 1), .ref (b + 3), .ref (b + 5), .ref (b + 7), .ref (b + 9), .ref (b + 11), .ref (b + 12), .int 0, .int 0, .int 0, .int 0, .int 0, .int 0, .int 0, .int 0, .int 0, .int 0]), .inr (0, [.ref (b + 2), .int 3, .int 0]), .inl (18, .inl (fun _ => 0)), .inr (0, [.ref (b + 4), .int 2, .int 0]), .inl (10, .inl (fun _ => 0)), .inr (0, [.ref (b + 6), .int 4, .int 0]), .inl (40, .inl (fun _ => 0)), .inr (0, [.ref (b + 8), .int 4, .int 6]), .inl (24, .inl (fun _ => 0)), .inr (0, [.ref (b + 10), .int 4, .int 0]), .inl (32, .inl (fun _ => 0)), .inl (7, .inl (fun _ => 0)), .inl (25, .inl (fun _ => 0))])) (b := b) (c := b + 11) (P := NT (fun v h1 => v = none ∧ h1.length = b + 13 ∧ (∀ i, i < b → h1[i]? = g[i]?) ∧ Wk b kZero h1)) (gg_get0 hg) rfl (gg_get hg 11) (by omega) ?_ 7 0 rfl
  · rw [show (tOne 0) = (fun _ => 0) from rfl] at hL
    rw [gself (gg_get hg 11)] at hL
    exact hL
  rw [gg_set hg]
  show WP (d + 2) mX1_init none 0 0 130 [.ref b, .int 7] [] (g ++ [.inr (1, [.ref (b + 1), .ref (b + 3), .ref (b + 5), .ref (b + 7), .ref (b + 9), .ref (b + 11), .ref (b + 12), .int 0, .int 0, .int 0, .int 0, .int 0, .int 0, .int 0, .int 0, .int 0, .int 0]), .inr (0, [.ref (b + 2), .int 3, .int 0]), .inl (18, .inl (fun _ => 0)), .inr (0, [.ref (b + 4), .int 2, .int 0]), .inl (10, .inl (fun _ => 0)), .inr (0, [.ref (b + 6), .int 4, .int 0]), .inl (40, .inl (fun _ => 0)), .inr (0, [.ref (b + 8), .int 4, .int 6]), .inl (24, .inl (fun _ => 0)), .inr (0, [.ref (b + 10), .int 4, .int 0]), .inl (32, .inl (fun _ => 0)), .inl (7, .inl (tOne 7)), .inl (25, .inl (fun _ => 0))]) _
  refine w_aload_n (pc := 130) (i := 0) dX1_init_130 rfl rfl ?_
  refine w_sipush (pc := 131) (v := 200) dX1_init_131 (by decide) ?_
  refine w_put (pc := 134) dX1_init_134 UX1_39 (gg_get0 hg) (Nat.le_of_ble_eq_true rfl) nv_i (fun _ q => by cases q) ?_
  rw [gg_set0 hg]
  show WP (d + 2) mX1_init none 0 0 137 [.ref b, .int 7] [] (g ++ [.inr (1, [.ref (b + 1), .ref (b + 3), .ref (b + 5), .ref (b + 7), .ref (b + 9), .ref (b + 11), .ref (b + 12), .int 0, .int 200, .int 0, .int 0, .int 0, .int 0, .int 0, .int 0, .int 0, .int 0]), .inr (0, [.ref (b + 2), .int 3, .int 0]), .inl (18, .inl (fun _ => 0)), .inr (0, [.ref (b + 4), .int 2, .int 0]), .inl (10, .inl (fun _ => 0)), .inr (0, [.ref (b + 6), .int 4, .int 0]), .inl (40, .inl (fun _ => 0)), .inr (0, [.ref (b + 8), .int 4, .int 6]), .inl (24, .inl (fun _ => 0)), .inr (0, [.ref (b + 10), .int 4, .int 0]), .inl (32, .inl (fun _ => 0)), .inl (7, .inl (tOne 7)), .inl (25, .inl (fun _ => 0))]) _
  refine w_aload_n (pc := 137) (i := 0) dX1_init_137 rfl rfl ?_
  refine w_bipush (pc := 138) (v := 20) dX1_init_138 (by decide) ?_
  refine w_put (pc := 140) dX1_init_140 UX1_43 (gg_get0 hg) (Nat.le_of_ble_eq_true rfl) nv_i (fun _ q => by cases q) ?_
  rw [gg_set0 hg]
  show WP (d + 2) mX1_init none 0 0 143 [.ref b, .int 7] [] (g ++ [.inr (1, [.ref (b + 1), .ref (b + 3), .ref (b + 5), .ref (b + 7), .ref (b + 9), .ref (b + 11), .ref (b + 12), .int 0, .int 200, .int 20, .int 0, .int 0, .int 0, .int 0, .int 0, .int 0, .int 0]), .inr (0, [.ref (b + 2), .int 3, .int 0]), .inl (18, .inl (fun _ => 0)), .inr (0, [.ref (b + 4), .int 2, .int 0]), .inl (10, .inl (fun _ => 0)), .inr (0, [.ref (b + 6), .int 4, .int 0]), .inl (40, .inl (fun _ => 0)), .inr (0, [.ref (b + 8), .int 4, .int 6]), .inl (24, .inl (fun _ => 0)), .inr (0, [.ref (b + 10), .int 4, .int 0]), .inl (32, .inl (fun _ => 0)), .inl (7, .inl (tOne 7)), .inl (25, .inl (fun _ => 0))]) _
  refine w_aload_n (pc := 143) (i := 0) dX1_init_143 rfl rfl ?_
  refine w_bipush (pc := 144) (v := 30) dX1_init_144 (by decide) ?_
  refine w_put (pc := 146) dX1_init_146 UX1_46 (gg_get0 hg) (Nat.le_of_ble_eq_true rfl) nv_i (fun _ q => by cases q) ?_
  rw [gg_set0 hg]
  show WP (d + 2) mX1_init none 0 0 149 [.ref b, .int 7] [] (g ++ [.inr (1, [.ref (b + 1), .ref (b + 3), .ref (b + 5), .ref (b + 7), .ref (b + 9), .ref (b + 11), .ref (b + 12), .int 0, .int 200, .int 20, .int 30, .int 0, .int 0, .int 0, .int 0, .int 0, .int 0]), .inr (0, [.ref (b + 2), .int 3, .int 0]), .inl (18, .inl (fun _ => 0)), .inr (0, [.ref (b + 4), .int 2, .int 0]), .inl (10, .inl (fun _ => 0)), .inr (0, [.ref (b + 6), .int 4, .int 0]), .inl (40, .inl (fun _ => 0)), .inr (0, [.ref (b + 8), .int 4, .int 6]), .inl (24, .inl (fun _ => 0)), .inr (0, [.ref (b + 10), .int 4, .int 0]), .inl (32, .inl (fun _ => 0)), .inl (7, .inl (tOne 7)), .inl (25, .inl (fun _ => 0))]) _
  refine w_aload_n (pc := 149) (i := 0) dX1_init_149 rfl rfl ?_
  refine w_iconst (pc := 150) (v := -1) dX1_init_150 (by decide) ?_
  refine w_put (pc := 151) dX1_init_151 UX1_49 (gg_get0 hg) (Nat.le_of_ble_eq_true rfl) nv_i (fun _ q => by cases q) ?_
  rw [gg_set0 hg]
  show WP (d + 2) mX1_init none 0 0 154 [.ref b, .int 7] [] (g ++ [.inr (1, [.ref (b + 1), .ref (b + 3), .ref (b + 5), .ref (b + 7), .ref (b + 9), .ref (b + 11), .ref (b + 12), .int 0, .int 200, .int 20, .int 30, .int 0, .int 0, .int 0, .int 0, .int (-1), .int 0]), .inr (0, [.ref (b + 2), .int 3, .int 0]), .inl (18, .inl (fun _ => 0)), .inr (0, [.ref (b + 4), .int 2, .int 0]), .inl (10, .inl (fun _ => 0)), .inr (0, [.ref (b + 6), .int 4, .int 0]), .inl (40, .inl (fun _ => 0)), .inr (0, [.ref (b + 8), .int 4, .int 6]), .inl (24, .inl (fun _ => 0)), .inr (0, [.ref (b + 10), .int 4, .int 0]), .inl (32, .inl (fun _ => 0)), .inl (7, .inl (tOne 7)), .inl (25, .inl (fun _ => 0))]) _
  refine w_return (pc := 154) dX1_init_154 rfl ⟨none, rfl, rfl, gg_len hg, fun i hi => gg_low hg hi, gg_get0 hg, ⟨gg_get hg 1, gg_get hg 2⟩, ⟨gg_get hg 3, gg_get hg 4⟩, ⟨gg_get hg 5, gg_get hg 6⟩, ⟨gg_get hg 7, gg_get hg 8⟩, ⟨gg_get hg 9, gg_get hg 10⟩, gg_get hg 11, gg_get hg 12⟩
end WINIT
