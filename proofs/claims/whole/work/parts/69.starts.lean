/-! the two objects' starts -/
theorem Out.low {b w : Nat} {h h1 : AH} (hl : h1.length = h.length) (hh : ∀ i : Nat, (i < b ∨ b + w ≤ i) → h1[i]? = h[i]?) : Out b w h h1 := ⟨hl, hh⟩
section STARTS
variable {d : Nat} {g : AH}
set_option maxHeartbeats 4000000 in
theorem c_X2_init  : Ct (d + 3) mX2_init 26 376 [.ref 0] [.inr (2, [.null, .null])] (NT (fun v h1 => v = none ∧ h1.length = 27 ∧ Pm kZero h1)) := by
  refine Ct.of (by decide +kernel) rfl (Nat.le_of_ble_eq_true rfl) ?_
  show WP (d + 3) mX2_init none 26 376 0 [.ref 0] [] [.inr (2, [.null, .null])] _
  refine w_aload_n (pc := 0) (i := 0) dX2_init_0 rfl rfl ?_
  refine w_objInit (pc := 1) dX2_init_1 LX2_1 (by omega) rfl ?_
  refine w_aload_n (pc := 4) (i := 0) dX2_init_4 rfl rfl ?_
  refine w_new (pc := 5) (N := 17) (k := 25) (n := 359) dX2_init_5 NX2_7 rfl ?_
  refine w_dup (pc := 8) dX2_init_8 rfl ?_
  refine w_i (k1 := 12) (n1 := 171) (k2 := 13) (n2 := 188) (pc := 9) dX2_init_9 GX2_9 (c_Works_init (g := [.inr (2, [.null, .null])]) (b := 1) rfl) rfl rfl rfl rfl rfl rfl ?_
  rintro v1 h1 ⟨rfl, hl1, hlow1, hw1⟩
  have h10 : h1[0]? = some (.inr (2, [.null, .null])) := hlow1 0 (by omega)
  show WP (d + 3) mX2_init none 13 188 12 [.ref 0] [.ref 1, .ref 0] h1 _
  refine w_putF (pc := 12) dX2_init_12 UX2_10 rfl h10 (Nat.le_of_ble_eq_true rfl) nv_o (fun _ q => by cases q) ?_
  show WP (d + 3) mX2_init none 13 188 15 [.ref 0] [] (h1.set 0 (.inr (2, [.ref 1, .null]))) _
  have hw2 : Wk 1 kZero (h1.set 0 (.inr (2, [.ref 1, .null]))) := hw1.out (b := 0) (w := 1) (Out.rf.set (by omega) (by omega)) (by omega)
  have hl2 : (h1.set 0 (.inr (2, [.ref 1, .null]))).length = 14 := by rw [List.length_set]; exact hl1
  have h20 := gss (x := (.inr (2, [.ref 1, .null]) : AC)) h10
  generalize (h1.set 0 (.inr (2, [.ref 1, .null]))) = h2 at hw2 hl2 h20 ⊢
  refine w_aload_n (pc := 15) (i := 0) dX2_init_15 rfl rfl ?_
  refine w_new (pc := 16) (N := 17) (k := 12) (n := 171) dX2_init_16 NX2_7 rfl ?_
  rw [hl2]
  refine w_dup (pc := 19) dX2_init_19 rfl ?_
  refine w_i (k1 := 12) (n1 := 171) (k2 := 0) (n2 := 0) (pc := 20) dX2_init_20 GX2_9 (c_Works_init (g := h2) (b := 14) hl2) rfl rfl rfl rfl rfl rfl ?_
  rintro v3 h3 ⟨rfl, hl3, hlow3, hw3⟩
  have h30 : h3[0]? = some (.inr (2, [.ref 1, .null])) := (hlow3 0 (by omega)).trans h20
  have hw23 : Wk 1 kZero h3 := ⟨(hlow3 _ (by omega)).trans hw2.1, ⟨(hlow3 _ (by omega)).trans hw2.t0.1, (hlow3 _ (by omega)).trans hw2.t0.2⟩, ⟨(hlow3 _ (by omega)).trans hw2.t1.1, (hlow3 _ (by omega)).trans hw2.t1.2⟩, ⟨(hlow3 _ (by omega)).trans hw2.t2.1, (hlow3 _ (by omega)).trans hw2.t2.2⟩, ⟨(hlow3 _ (by omega)).trans hw2.t3.1, (hlow3 _ (by omega)).trans hw2.t3.2⟩, ⟨(hlow3 _ (by omega)).trans hw2.t4.1, (hlow3 _ (by omega)).trans hw2.t4.2⟩, (hlow3 _ (by omega)).trans hw2.dr, (hlow3 _ (by omega)).trans hw2.wh⟩
  show WP (d + 3) mX2_init none 0 0 23 [.ref 0] [.ref 14, .ref 0] h3 _
  refine w_putF (pc := 23) dX2_init_23 UX2_16 rfl h30 (Nat.le_of_ble_eq_true rfl) nv_o (fun _ q => by cases q) ?_
  exact w_return (pc := 26) dX2_init_26 rfl ⟨none, rfl, rfl, by rw [List.length_set]; exact hl3, gss h30, hw23.out (b := 0) (w := 1) (Out.rf.set (by omega) (by omega)) (by omega), kZero_B, kZero, hw3.out (b := 0) (w := 1) (Out.rf.set (by omega) (by omega)) (by omega), kZero_B⟩
set_option maxHeartbeats 4000000 in
theorem c_X4_init (hg : g.length = 27) : Ct (d + 2) mX4_init 64 389 [.ref 27] (g ++ [.inr (4, mdD)]) (NT (fun v h1 => v = none ∧ h1.length = 92 ∧ (∀ i, i < 27 → h1[i]? = g[i]?) ∧ Rm (mZero, rZero) 0 h1)) := by
  refine Ct.of (by decide +kernel) rfl (Nat.le_of_ble_eq_true rfl) ?_
  show WP (d + 2) mX4_init none 64 389 0 [.ref 27] [] (g ++ [.inr (4, [.int 0, .null, .int 0, .null, .int 0, .null, .null, .null, .null])]) _
  refine w_aload_n (pc := 0) (i := 0) dX4_init_0 rfl rfl ?_
  refine w_objInit (pc := 1) dX4_init_1 LX4_1 (by omega) rfl ?_
  refine w_aload_n (pc := 4) (i := 0) dX4_init_4 rfl rfl ?_
  refine w_bipush (pc := 5) (v := 7) dX4_init_5 (by decide) ?_
  refine w_newi (pc := 7) (N := 7) (k := 63) (n := 382) dX4_init_7 rfl (by omega) ?_
  rw [gg_len hg, List.append_assoc]
  show WP (d + 2) mX4_init none 63 382 9 [.ref 27] [.ref 28, .ref 27] (g ++ [.inr (4, [.int 0, .null, .int 0, .null, .int 0, .null, .null, .null, .null]), .inl (7, .inl (fun _ => 0))]) _
  refine w_dup (pc := 9) dX4_init_9 rfl ?_
  refine w_iconst (pc := 10) (v := 0) dX4_init_10 (by decide) ?_
  refine w_iconst (pc := 11) (v := 1) dX4_init_11 (by decide) ?_
  refine w_iast (pc := 12) dX4_init_12 (gg_get hg 1) (vp_in_nI (n := 0) (by omega) (by omega)) ?_
  show WP (d + 2) mX4_init none 63 382 13 [.ref 27] [.ref 28, .ref 27] (List.set _ (27 + 1) _) _
  rw [gg_set hg 1]
  show WP (d + 2) mX4_init none 63 382 13 [.ref 27] [.ref 28, .ref 27] (g ++ [.inr (4, [.int 0, .null, .int 0, .null, .int 0, .null, .null, .null, .null]), .inl (7, .inl (upd (fun _ => 0) 0 1))]) _
  refine w_dup (pc := 13) dX4_init_13 rfl ?_
  refine w_iconst (pc := 14) (v := 1) dX4_init_14 (by decide) ?_
  refine w_iconst (pc := 15) (v := 1) dX4_init_15 (by decide) ?_
  refine w_iast (pc := 16) dX4_init_16 (gg_get hg 1) (vp_in_nI (n := 1) (by omega) (by omega)) ?_
  show WP (d + 2) mX4_init none 63 382 17 [.ref 27] [.ref 28, .ref 27] (List.set _ (27 + 1) _) _
  rw [gg_set hg 1]
  show WP (d + 2) mX4_init none 63 382 17 [.ref 27] [.ref 28, .ref 27] (g ++ [.inr (4, [.int 0, .null, .int 0, .null, .int 0, .null, .null, .null, .null]), .inl (7, .inl (upd (upd (fun _ => 0) 0 1) 1 1))]) _
  refine w_dup (pc := 17) dX4_init_17 rfl ?_
  refine w_iconst (pc := 18) (v := 2) dX4_init_18 (by decide) ?_
  refine w_iconst (pc := 19) (v := 1) dX4_init_19 (by decide) ?_
  refine w_iast (pc := 20) dX4_init_20 (gg_get hg 1) (vp_in_nI (n := 2) (by omega) (by omega)) ?_
  show WP (d + 2) mX4_init none 63 382 21 [.ref 27] [.ref 28, .ref 27] (List.set _ (27 + 1) _) _
  rw [gg_set hg 1]
  show WP (d + 2) mX4_init none 63 382 21 [.ref 27] [.ref 28, .ref 27] (g ++ [.inr (4, [.int 0, .null, .int 0, .null, .int 0, .null, .null, .null, .null]), .inl (7, .inl (upd (upd (upd (fun _ => 0) 0 1) 1 1) 2 1))]) _
  refine w_dup (pc := 21) dX4_init_21 rfl ?_
  refine w_iconst (pc := 22) (v := 3) dX4_init_22 (by decide) ?_
  refine w_iconst (pc := 23) (v := 1) dX4_init_23 (by decide) ?_
  refine w_iast (pc := 24) dX4_init_24 (gg_get hg 1) (vp_in_nI (n := 3) (by omega) (by omega)) ?_
  show WP (d + 2) mX4_init none 63 382 25 [.ref 27] [.ref 28, .ref 27] (List.set _ (27 + 1) _) _
  rw [gg_set hg 1]
  show WP (d + 2) mX4_init none 63 382 25 [.ref 27] [.ref 28, .ref 27] (g ++ [.inr (4, [.int 0, .null, .int 0, .null, .int 0, .null, .null, .null, .null]), .inl (7, .inl (upd (upd (upd (upd (fun _ => 0) 0 1) 1 1) 2 1) 3 1))]) _
  refine w_dup (pc := 25) dX4_init_25 rfl ?_
  refine w_iconst (pc := 26) (v := 4) dX4_init_26 (by decide) ?_
  refine w_iconst (pc := 27) (v := 1) dX4_init_27 (by decide) ?_
  refine w_iast (pc := 28) dX4_init_28 (gg_get hg 1) (vp_in_nI (n := 4) (by omega) (by omega)) ?_
  show WP (d + 2) mX4_init none 63 382 29 [.ref 27] [.ref 28, .ref 27] (List.set _ (27 + 1) _) _
  rw [gg_set hg 1]
  show WP (d + 2) mX4_init none 63 382 29 [.ref 27] [.ref 28, .ref 27] (g ++ [.inr (4, [.int 0, .null, .int 0, .null, .int 0, .null, .null, .null, .null]), .inl (7, .inl (upd (upd (upd (upd (upd (fun _ => 0) 0 1) 1 1) 2 1) 3 1) 4 1))]) _
  refine w_dup (pc := 29) dX4_init_29 rfl ?_
  refine w_iconst (pc := 30) (v := 5) dX4_init_30 (by decide) ?_
  refine w_iconst (pc := 31) (v := 1) dX4_init_31 (by decide) ?_
  refine w_iast (pc := 32) dX4_init_32 (gg_get hg 1) (vp_in_nI (n := 5) (by omega) (by omega)) ?_
  show WP (d + 2) mX4_init none 63 382 33 [.ref 27] [.ref 28, .ref 27] (List.set _ (27 + 1) _) _
  rw [gg_set hg 1]
  show WP (d + 2) mX4_init none 63 382 33 [.ref 27] [.ref 28, .ref 27] (g ++ [.inr (4, [.int 0, .null, .int 0, .null, .int 0, .null, .null, .null, .null]), .inl (7, .inl (upd (upd (upd (upd (upd (upd (fun _ => 0) 0 1) 1 1) 2 1) 3 1) 4 1) 5 1))]) _
  refine w_dup (pc := 33) dX4_init_33 rfl ?_
  refine w_bipush (pc := 34) (v := 6) dX4_init_34 (by decide) ?_
  refine w_iconst (pc := 36) (v := 1) dX4_init_36 (by decide) ?_
  refine w_iast (pc := 37) dX4_init_37 (gg_get hg 1) (vp_in_nI (n := 6) (by omega) (by omega)) ?_
  show WP (d + 2) mX4_init none 63 382 38 [.ref 27] [.ref 28, .ref 27] (List.set _ (27 + 1) _) _
  rw [gg_set hg 1]
  show WP (d + 2) mX4_init none 63 382 38 [.ref 27] [.ref 28, .ref 27] (g ++ [.inr (4, [.int 0, .null, .int 0, .null, .int 0, .null, .null, .null, .null]), .inl (7, .inl (upd (upd (upd (upd (upd (upd (upd (fun _ => 0) 0 1) 1 1) 2 1) 3 1) 4 1) 5 1) 6 1))]) _
  refine w_putF (pc := 38) dX4_init_38 UX4_7 rfl (gg_get hg 0) (Nat.le_of_ble_eq_true rfl) nv_a (fun _ q => by cases q) ?_
  show WP (d + 2) mX4_init none 63 382 41 [.ref 27] [] (List.set _ (27 + 0) _) _
  rw [gg_set hg 0]
  show WP (d + 2) mX4_init none 63 382 41 [.ref 27] [] (g ++ [.inr (4, [.int 0, .ref 28, .int 0, .null, .int 0, .null, .null, .null, .null]), .inl (7, .inl (upd (upd (upd (upd (upd (upd (upd (fun _ => 0) 0 1) 1 1) 2 1) 3 1) 4 1) 5 1) 6 1))]) _
  refine w_aload_n (pc := 41) (i := 0) dX4_init_41 rfl rfl ?_
  refine w_bipush (pc := 42) (v := 6) dX4_init_42 (by decide) ?_
  refine w_newi (pc := 44) (N := 6) (k := 62) (n := 376) dX4_init_44 rfl (by omega) ?_
  rw [gg_len hg, List.append_assoc]
  show WP (d + 2) mX4_init none 62 376 46 [.ref 27] [.ref 29, .ref 27] (g ++ [.inr (4, [.int 0, .ref 28, .int 0, .null, .int 0, .null, .null, .null, .null]), .inl (7, .inl (upd (upd (upd (upd (upd (upd (upd (fun _ => 0) 0 1) 1 1) 2 1) 3 1) 4 1) 5 1) 6 1)), .inl (6, .inl (fun _ => 0))]) _
  refine w_putF (pc := 46) dX4_init_46 UX4_13 rfl (gg_get hg 0) (Nat.le_of_ble_eq_true rfl) nv_a (fun _ q => by cases q) ?_
  show WP (d + 2) mX4_init none 62 376 49 [.ref 27] [] (List.set _ (27 + 0) _) _
  rw [gg_set hg 0]
  show WP (d + 2) mX4_init none 62 376 49 [.ref 27] [] (g ++ [.inr (4, [.int 0, .ref 28, .int 0, .ref 29, .int 0, .null, .null, .null, .null]), .inl (7, .inl (upd (upd (upd (upd (upd (upd (upd (fun _ => 0) 0 1) 1 1) 2 1) 3 1) 4 1) 5 1) 6 1)), .inl (6, .inl (fun _ => 0))]) _
  refine w_aload_n (pc := 49) (i := 0) dX4_init_49 rfl rfl ?_
  refine w_iconst (pc := 50) (v := 5) dX4_init_50 (by decide) ?_
  refine w_newi (pc := 51) (N := 5) (k := 61) (n := 371) dX4_init_51 rfl (by omega) ?_
  rw [gg_len hg, List.append_assoc]
  show WP (d + 2) mX4_init none 61 371 53 [.ref 27] [.ref 30, .ref 27] (g ++ [.inr (4, [.int 0, .ref 28, .int 0, .ref 29, .int 0, .null, .null, .null, .null]), .inl (7, .inl (upd (upd (upd (upd (upd (upd (upd (fun _ => 0) 0 1) 1 1) 2 1) 3 1) 4 1) 5 1) 6 1)), .inl (6, .inl (fun _ => 0)), .inl (5, .inl (fun _ => 0))]) _
  refine w_putF (pc := 53) dX4_init_53 UX4_16 rfl (gg_get hg 0) (Nat.le_of_ble_eq_true rfl) nv_a (fun _ q => by cases q) ?_
  show WP (d + 2) mX4_init none 61 371 56 [.ref 27] [] (List.set _ (27 + 0) _) _
  rw [gg_set hg 0]
  show WP (d + 2) mX4_init none 61 371 56 [.ref 27] [] (g ++ [.inr (4, [.int 0, .ref 28, .int 0, .ref 29, .int 0, .ref 30, .null, .null, .null]), .inl (7, .inl (upd (upd (upd (upd (upd (upd (upd (fun _ => 0) 0 1) 1 1) 2 1) 3 1) 4 1) 5 1) 6 1)), .inl (6, .inl (fun _ => 0)), .inl (5, .inl (fun _ => 0))]) _
  refine w_aload_n (pc := 56) (i := 0) dX4_init_56 rfl rfl ?_
  refine w_iconst (pc := 57) (v := 5) dX4_init_57 (by decide) ?_
  refine w_newi (pc := 58) (N := 5) (k := 60) (n := 366) dX4_init_58 rfl (by omega) ?_
  rw [gg_len hg, List.append_assoc]
  show WP (d + 2) mX4_init none 60 366 60 [.ref 27] [.ref 31, .ref 27] (g ++ [.inr (4, [.int 0, .ref 28, .int 0, .ref 29, .int 0, .ref 30, .null, .null, .null]), .inl (7, .inl (upd (upd (upd (upd (upd (upd (upd (fun _ => 0) 0 1) 1 1) 2 1) 3 1) 4 1) 5 1) 6 1)), .inl (6, .inl (fun _ => 0)), .inl (5, .inl (fun _ => 0)), .inl (5, .inl (fun _ => 0))]) _
  refine w_putF (pc := 60) dX4_init_60 UX4_19 rfl (gg_get hg 0) (Nat.le_of_ble_eq_true rfl) nv_a (fun _ q => by cases q) ?_
  show WP (d + 2) mX4_init none 60 366 63 [.ref 27] [] (List.set _ (27 + 0) _) _
  rw [gg_set hg 0]
  show WP (d + 2) mX4_init none 60 366 63 [.ref 27] [] (g ++ [.inr (4, [.int 0, .ref 28, .int 0, .ref 29, .int 0, .ref 30, .ref 31, .null, .null]), .inl (7, .inl (upd (upd (upd (upd (upd (upd (upd (fun _ => 0) 0 1) 1 1) 2 1) 3 1) 4 1) 5 1) 6 1)), .inl (6, .inl (fun _ => 0)), .inl (5, .inl (fun _ => 0)), .inl (5, .inl (fun _ => 0))]) _
  obtain ⟨g1, eg1⟩ : ∃ z : AH, z = (g ++ [.inr (4, [.int 0, .ref 28, .int 0, .ref 29, .int 0, .ref 30, .ref 31, .null, .null]), .inl (7, .inl (upd (upd (upd (upd (upd (upd (upd (fun _ => 0) 0 1) 1 1) 2 1) 3 1) 4 1) 5 1) 6 1)), .inl (6, .inl (fun _ => 0)), .inl (5, .inl (fun _ => 0)), .inl (5, .inl (fun _ => 0))]) := ⟨_, rfl⟩
  rw [← eg1]
  have hl1 : g1.length = 32 := by rw [eg1]; exact gg_len hg
  refine w_aload_n (pc := 63) (i := 0) dX4_init_63 rfl rfl ?_
  refine w_new (pc := 64) (N := 18) (k := 59) (n := 348) dX4_init_64 NX4_22 rfl ?_
  rw [hl1]
  refine w_dup (pc := 67) dX4_init_67 rfl ?_
  refine w_aload_n (pc := 68) (i := 0) dX4_init_68 rfl rfl ?_
  refine w_i (k1 := 29) (n1 := 165) (k2 := 30) (n2 := 183) (pc := 69) dX4_init_69 GX4_24 (c_State_init (g := g1) (b := 32) hl1) rfl rfl rfl rfl rfl rfl ?_
  rintro v2 h2 ⟨rfl, hl2, hlow2, hw2⟩
  have h227 : h2[27]? = some (.inr (4, [.int 0, .ref 28, .int 0, .ref 29, .int 0, .ref 30, .ref 31, .null, .null])) := (hlow2 27 (by omega)).trans (by rw [eg1]; exact gg_get hg 0)
  show WP (d + 2) mX4_init none 30 183 72 [.ref 27] [.ref 32, .ref 27] h2 _
  refine w_putF (pc := 72) dX4_init_72 UX4_27 rfl h227 (Nat.le_of_ble_eq_true rfl) nv_o (fun _ q => by cases q) ?_
  show WP (d + 2) mX4_init none 30 183 75 [.ref 27] [] (h2.set 27 (.inr (4, [.int 0, .ref 28, .int 0, .ref 29, .int 0, .ref 30, .ref 31, .ref 32, .null]))) _
  obtain ⟨g3, eg3⟩ : ∃ z : AH, z = (h2.set 27 (.inr (4, [.int 0, .ref 28, .int 0, .ref 29, .int 0, .ref 30, .ref 31, .ref 32, .null]))) := ⟨_, rfl⟩
  rw [← eg3]
  have hl3 : g3.length = 62 := by rw [eg3, List.length_set]; exact hl2
  have hw3 : St 32 rZero g3 := by rw [eg3]; exact hw2.out (c := 27) (w := 1) (GOut.rf.set (by omega) (by omega)) (by omega)
  have h327 : g3[27]? = some (.inr (4, [.int 0, .ref 28, .int 0, .ref 29, .int 0, .ref 30, .ref 31, .ref 32, .null])) := by rw [eg3]; exact gss h227
  refine w_aload_n (pc := 75) (i := 0) dX4_init_75 rfl rfl ?_
  refine w_new (pc := 76) (N := 18) (k := 29) (n := 165) dX4_init_76 NX4_22 rfl ?_
  rw [hl3]
  refine w_dup (pc := 79) dX4_init_79 rfl ?_
  refine w_aload_n (pc := 80) (i := 0) dX4_init_80 rfl rfl ?_
  refine w_i (k1 := 29) (n1 := 165) (k2 := 0) (n2 := 0) (pc := 81) dX4_init_81 GX4_24 (c_State_init (g := g3) (b := 62) hl3) rfl rfl rfl rfl rfl rfl ?_
  rintro v4 h4 ⟨rfl, hl4, hlow4, hw4⟩
  have h427 : h4[27]? = some (.inr (4, [.int 0, .ref 28, .int 0, .ref 29, .int 0, .ref 30, .ref 31, .ref 32, .null])) := (hlow4 27 (by omega)).trans h327
  have hg34 : GOut 62 30 g3 h4 := fun i x hi q => by
    have hlt := (List.getElem?_eq_some_iff.mp q).1
    exact (hlow4 i (by omega)).trans q
  show WP (d + 2) mX4_init none 0 0 84 [.ref 27] [.ref 62, .ref 27] h4 _
  refine w_putF (pc := 84) dX4_init_84 UX4_31 rfl h427 (Nat.le_of_ble_eq_true rfl) nv_o (fun _ q => by cases q) ?_
  have hlow : ∀ i, i < 32 → i ≠ 27 → ∀ x : AC, (h4.set 27 x)[i]? = g1[i]? := fun i hi hn x => by rw [gsn (Ne.symm hn), hlow4 i (by omega), eg3, gsn (Ne.symm hn), hlow2 i hi]
  refine w_return (pc := 87) dX4_init_87 rfl ⟨none, rfl, rfl, by rw [List.length_set]; exact hl4, fun i hi => (hlow i (by omega) (by omega) _).trans (by rw [eg1]; exact gg_low hg hi), ⟨gss h427, (hlow 28 (by omega) (by omega) _).trans (by rw [eg1]; exact gg_get hg 1), (hlow 29 (by omega) (by omega) _).trans (by rw [eg1]; exact gg_get hg 2), (hlow 30 (by omega) (by omega) _).trans (by rw [eg1]; exact gg_get hg 3), (hlow 31 (by omega) (by omega) _).trans (by rw [eg1]; exact gg_get hg 4)⟩, ?_, rZero, ?_⟩
  · exact (hw3.out hg34 (by omega)).out (c := 27) (w := 1) (GOut.rf.set (by omega) (by omega)) (by omega)
  · exact hw4.out (c := 27) (w := 1) (GOut.rf.set (by omega) (by omega)) (by omega)
end STARTS
