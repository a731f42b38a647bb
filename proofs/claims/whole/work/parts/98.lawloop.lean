/-! the law: its loop -/
section LAWL
variable {LL : Nat} {xs : Nat → Int32} {nm : String} {hs : List (Nat × Nat × Nat × Nat)}
def PLaw : AO → AH → Prop := fun o _ => o = .inl (some (.int 1))
theorem tw_and (y : Int32) : ∃ n : Nat, n < 32 ∧ y &&& 31 = nI n := by
  refine ⟨(y &&& 31).toBitVec.toNat, ?_, ?_⟩
  · rw [Int32.toBitVec_and, BitVec.toNat_and]
    exact Nat.lt_of_le_of_lt Nat.and_le_right (by decide)
  · exact (Int32.ofNat_bitVecToNat _).symm
set_option maxHeartbeats 1000000 in
/-- the head: either the script is read, or there is one call more -/
theorem law_head {K N j : Nat} {h : AH} (hLL : LL ≤ 2560) (hj : j ≤ 512) (kk : 5 * j + 5 ≤ LL → WP 12 (mLaw nm hs) (some (LL, xs)) K N 32 [vScr, .ref 0, .ref 27, .ref 92, .int (nI (5 * j)), vU, vU, vU, vU] [] h PLaw) : WP 12 (mLaw nm hs) (some (LL, xs)) K N 23 [vScr, .ref 0, .ref 27, .ref 92, .int (nI (5 * j)), vU, vU, vU, vU] [] h PLaw := by
  refine w_iload (pc := 23) dL_law_23 rfl ?_
  refine w_aload_s (pc := 25) (i := 0) dL_law_25 rfl rfl ?_
  refine w_slen (pc := 26) rfl dL_law_26 ?_
  refine w_iconst (pc := 27) (v := nI 5) dL_law_27 (by decide) ?_
  refine w_isub (pc := 28) dL_law_28 ?_
  refine w_icmp_gt (pc := 29) (tgt := 1530) dL_law_29 (by decide) (fun _ => ?_) (fun c => kk ?_)
  · refine w_iconst (pc := 1530) (v := 1) dL_law_1530 (by decide) ?_
    exact w_ireturn (pc := 1531) dL_law_1531 ⟨_, rfl, rfl⟩ rfl
  · by_cases e : 5 * j + 5 ≤ LL
    · exact e
    · refine absurd ?_ c
      show nI LL - nI 5 < nI (5 * j)
      by_cases e5 : 5 ≤ LL
      · rw [pk_sub e5]
        exact nI_lt (by omega) (by omega)
      · exact Int32.lt_of_lt_of_le (pk_sneg (by omega) (by omega)) (nI_pos' (by omega))
set_option maxHeartbeats 4000000 in
/-- one call -/
theorem law_call {K N j D : Nat} {h : AH} (hI : LI D h) (hD : D ≤ 90000) (hL : 5 * j + 5 ≤ LL) (hLL : LL ≤ 2560) (kk : ∀ h1, LI (D + 40) h1 → WP 12 (mLaw nm hs) (some (LL, xs)) K N 1524 [vScr, .ref 0, .ref 27, .ref 92, .int (nI (5 * j)), vU, vU, vU, vU] [] h1 PLaw) : WP 12 (mLaw nm hs) (some (LL, xs)) (K + 48) (N + 360) 32 [vScr, .ref 0, .ref 27, .ref 92, .int (nI (5 * j)), vU, vU, vU, vU] [] h PLaw := by
  refine w_aload_s (pc := 32) (i := 0) dL_law_32 rfl rfl ?_
  refine w_iload (pc := 33) dL_law_33 rfl ?_
  refine w_sld (pc := 35) rfl dL_law_35 (vp_in_nI (by omega) (by omega)) ?_
  refine w_bipush (pc := 36) (v := 31) dL_law_36 (by decide) ?_
  refine w_iand (pc := 38) dL_law_38 ?_
  obtain ⟨y, hy, ey⟩ := tw_and (xs (nI (5 * j)).toNatClampNeg)
  rw [ey]
  have et : (nI y).toInt = (y : Int) := nI_toInt (by omega)
  by_cases hb : 22 < y
  · refine w_tableOut (pc := 39) (tgt := 1524) dL_law_39 (Or.inr (by rw [et]; omega)) (by decide) ?_
    exact w_room (k := K) (n := N) (by omega) (by omega) (kk _ (hI.mono (by omega)))
  · have h1 : ¬ (nI y).toInt < 0 := by rw [et]; omega
    have h2 : ¬ 22 < (nI y).toInt := by rw [et]; omega
    have h3 : ((nI y).toInt - 0).toNat = y := by rw [et]; omega
    match y, hb with
    | 0, _ => exact w_tableIn (pc := 39) (off := 105) (tgt := 144) dL_law_39 h1 h2 (by rw [h3]; rfl) (by decide) (s_mould hI hD hL hLL kk)
    | 1, _ => exact w_tableIn (pc := 39) (off := 173) (tgt := 212) dL_law_39 h1 h2 (by rw [h3]; rfl) (by decide) (s_refit hI hD hL hLL kk)
    | 2, _ => exact w_tableIn (pc := 39) (off := 229) (tgt := 268) dL_law_39 h1 h2 (by rw [h3]; rfl) (by decide) (s_maker hI hD hL hLL kk)
    | 3, _ => exact w_tableIn (pc := 39) (off := 285) (tgt := 324) dL_law_39 h1 h2 (by rw [h3]; rfl) (by decide) (s_place hI hD hL hLL kk)
    | 4, _ => exact w_tableIn (pc := 39) (off := 353) (tgt := 392) dL_law_39 h1 h2 (by rw [h3]; rfl) (by decide) (s_buy hI hD hL hLL kk)
    | 5, _ => exact w_tableIn (pc := 39) (off := 421) (tgt := 460) dL_law_39 h1 h2 (by rw [h3]; rfl) (by decide) (s_setDry hI hD hL hLL kk)
    | 6, _ => exact w_tableIn (pc := 39) (off := 489) (tgt := 528) dL_law_39 h1 h2 (by rw [h3]; rfl) (by decide) (s_pack hI hD hL hLL kk)
    | 7, _ => exact w_tableIn (pc := 39) (off := 569) (tgt := 608) dL_law_39 h1 h2 (by rw [h3]; rfl) (by decide) (s_fire hI hD hL hLL kk)
    | 8, _ => exact w_tableIn (pc := 39) (off := 625) (tgt := 664) dL_law_39 h1 h2 (by rw [h3]; rfl) (by decide) (s_order hI hD hL hLL kk)
    | 9, _ => exact w_tableIn (pc := 39) (off := 717) (tgt := 756) dL_law_39 h1 h2 (by rw [h3]; rfl) (by decide) (s_about hI hD hL hLL kk)
    | 10, _ => exact w_tableIn (pc := 39) (off := 785) (tgt := 824) dL_law_39 h1 h2 (by rw [h3]; rfl) (by decide) (s_told hI hD hL hLL kk)
    | 11, _ => exact w_tableIn (pc := 39) (off := 853) (tgt := 892) dL_law_39 h1 h2 (by rw [h3]; rfl) (by decide) (s_batch hI hD hL hLL kk)
    | 12, _ => exact w_tableIn (pc := 39) (off := 921) (tgt := 960) dL_law_39 h1 h2 (by rw [h3]; rfl) (by decide) (s_saggar hI hD hL hLL kk)
    | 13, _ => exact w_tableIn (pc := 39) (off := 989) (tgt := 1028) dL_law_39 h1 h2 (by rw [h3]; rfl) (by decide) (s_store hI hD hL hLL kk)
    | 14, _ => exact w_tableIn (pc := 39) (off := 1045) (tgt := 1084) dL_law_39 h1 h2 (by rw [h3]; rfl) (by decide) (s_waits hI hD hL hLL kk)
    | 15, _ => exact w_tableIn (pc := 39) (off := 1113) (tgt := 1152) dL_law_39 h1 h2 (by rw [h3]; rfl) (by decide) (s_count hI hD hL hLL kk)
    | 16, _ => exact w_tableIn (pc := 39) (off := 1169) (tgt := 1208) dL_law_39 h1 h2 (by rw [h3]; rfl) (by decide) (s_pass hI hD hL hLL kk)
    | 17, _ => exact w_tableIn (pc := 39) (off := 1225) (tgt := 1264) dL_law_39 h1 h2 (by rw [h3]; rfl) (by decide) (s_breaks hI hD hL hLL kk)
    | 18, _ => exact w_tableIn (pc := 39) (off := 1293) (tgt := 1332) dL_law_39 h1 h2 (by rw [h3]; rfl) (by decide) (s_advise hI hD hL hLL kk)
    | 19, _ => exact w_tableIn (pc := 39) (off := 1306) (tgt := 1345) dL_law_39 h1 h2 (by rw [h3]; rfl) (by decide) (s_ready hI hD hL hLL kk)
    | 20, _ => exact w_tableIn (pc := 39) (off := 1362) (tgt := 1401) dL_law_39 h1 h2 (by rw [h3]; rfl) (by decide) (s_foresee hI hD hL hLL kk)
    | 21, _ => exact w_tableIn (pc := 39) (off := 1430) (tgt := 1469) dL_law_39 h1 h2 (by rw [h3]; rfl) (by decide) (s_mean hI hD hL hLL kk)
    | 22, _ => exact w_tableIn (pc := 39) (off := 1471) (tgt := 1510) dL_law_39 h1 h2 (by rw [h3]; rfl) (by decide) (s_digest hI hD hL hLL kk)
    | y + 23, hb => exact absurd (show 22 < y + 23 by omega) hb
set_option maxHeartbeats 1000000 in
theorem law_loop (hLL : LL ≤ 2560) : ∀ (m j : Nat) (h : AH), j + m = 512 → LI (40 * j) h → WP 12 (mLaw nm hs) (some (LL, xs)) (48 * m) (360 * m) 23 [vScr, .ref 0, .ref 27, .ref 92, .int (nI (5 * j)), vU, vU, vU, vU] [] h PLaw
  | 0, j, h, hj, hI => law_head hLL (by omega) (fun hL => absurd hL (by omega))
  | m + 1, j, h, hj, hI => by
    refine law_head hLL (by omega) (fun hL => ?_)
    refine law_call hI (by omega) hL hLL (K := 48 * m) (N := 360 * m) (fun h1 hI1 => ?_)
    refine w_iinc (pc := 1524) (i := 4) (y := nI (5 * (j + 1))) (ls' := [vScr, .ref 0, .ref 27, .ref 92, .int (nI (5 * (j + 1))), vU, vU, vU, vU]) dL_law_1524 rfl (by rw [show Int32.ofInt 5 = nI 5 by decide, nI_add]; rfl) (Nat.le_of_ble_eq_true rfl) rfl rfl rfl ?_
    refine w_goto (pc := 1527) (tgt := 23) dL_law_1527 (by decide) ?_
    exact law_loop hLL m (j + 1) h1 (by omega) (hI1.mono (by omega))
end LAWL
/-! the two sides at the start; the world at the entry -/
theorem sim_start : Sim 0 kZero mZero rZero := by
  have z0 : ∀ (P : Nat → Prop) (m : Nat), m < 0 → P m := fun P m h => absurd h (Nat.not_lt_zero m)
  have e5 : ∀ i, i < 7 → kZero.1 5 i = nI 1 := by decide
  have m5 : ∀ i, i < 7 → mZero.1 0 i = nI 1 := by decide
  refine ⟨kZero_B, rfl, rfl, rfl, rfl, z0 _, z0 _, z0 _, fun _ _ _ => rfl, z0 _, z0 _, z0 _, z0 _, z0 _, z0 _, fun _ _ _ _ => rfl, fun k hk => ?_, fun i hi => (e5 i hi).trans (m5 i hi).symm, fun i hi => ⟨1, by omega, by omega, m5 i hi⟩, fun _ _ => rfl, fun _ _ => rfl, z0 _, z0 _, fun _ _ => rfl, ⟨0, by omega, by omega, rfl⟩, ⟨200, by omega, by omega, rfl⟩⟩
  exact ⟨⟨0, by omega, by omega, rfl⟩, ⟨0, by omega, by omega, rfl⟩, ⟨0, by omega, by omega, rfl⟩, ⟨0, by omega, by omega, rfl⟩, Or.inl rfl⟩
theorem mw_start : Mw kZero rZero := ⟨Or.inr ⟨rfl, fun k h => absurd (show k < 0 from h) (Nat.not_lt_zero k), fun r => r.elim⟩, rfl, rfl⟩
section LAWS
variable {LL : Nat} {xs : Nat → Int32} {nm : String} {hs : List (Nat × Nat × Nat × Nat)}
set_option maxHeartbeats 1000000 in
/-- the law's body from its entry -/
theorem law_body (hLL : LL ≤ 2560) : WP 12 (mLaw nm hs) (some (LL, xs)) 24669 185097 0 [vScr, vU, vU, vU, vU, vU, vU, vU, vU] [] [] PLaw := by
  refine w_new (pc := 0) (N := 2) (k := 24668) (n := 185095) dL_law_0 NL_8 rfl ?_
  show WP 12 (mLaw nm hs) (some (LL, xs)) 24668 185095 3 [vScr, vU, vU, vU, vU, vU, vU, vU, vU] [.ref 0] [.inr (2, [.null, .null])] _
  refine w_dup (pc := 3) dL_law_3 rfl ?_
  refine w_i (d := 11) (k1 := 26) (n1 := 376) (k2 := 24642) (n2 := 184719) (pc := 4) dL_law_4 GL_79 (c_X2_init (d := 8)) rfl rfl rfl rfl rfl rfl ?_
  rintro v1 h1 ⟨rfl, hl1, hp1⟩
  show WP 12 (mLaw nm hs) (some (LL, xs)) 24642 184719 7 [vScr, vU, vU, vU, vU, vU, vU, vU, vU] [.ref 0] h1 _
  refine w_astore_n (pc := 7) (i := 1) (ls' := [vScr, .ref 0, vU, vU, vU, vU, vU, vU, vU]) dL_law_7 rfl (Nat.le_of_ble_eq_true rfl) rfl rfl rfl ?_
  refine w_new (pc := 8) (N := 9) (k := 24641) (n := 184710) dL_law_8 NL_80 rfl ?_
  rw [hl1]
  refine w_dup (pc := 11) dL_law_11 rfl ?_
  refine w_i (d := 11) (k1 := 64) (n1 := 389) (k2 := 24577) (n2 := 184321) (pc := 12) dL_law_12 GL_82 (c_X4_init (d := 9) hl1) rfl rfl rfl rfl rfl rfl ?_
  rintro v2 h2 ⟨rfl, hl2, hlow2, hr2⟩
  show WP 12 (mLaw nm hs) (some (LL, xs)) 24577 184321 15 [vScr, .ref 0, vU, vU, vU, vU, vU, vU, vU] [.ref 27] h2 _
  refine w_astore_n (pc := 15) (i := 2) (ls' := [vScr, .ref 0, .ref 27, vU, vU, vU, vU, vU, vU]) dL_law_15 rfl (Nat.le_of_ble_eq_true rfl) rfl rfl rfl ?_
  refine w_iconst (pc := 16) (v := nI 1) dL_law_16 (by decide) ?_
  refine w_newl (pc := 17) (N := 1) (k := 24576) (n := 184320) dL_law_17 rfl (by omega) ?_
  rw [hl2]
  refine w_astore_n (pc := 19) (i := 3) (ls' := [vScr, .ref 0, .ref 27, .ref 92, vU, vU, vU, vU, vU]) dL_law_19 rfl (Nat.le_of_ble_eq_true rfl) rfl rfl rfl ?_
  refine w_iconst (pc := 20) (v := nI (5 * 0)) dL_law_20 (by decide) ?_
  refine w_istore (pc := 21) (i := 4) (ls' := [vScr, .ref 0, .ref 27, .ref 92, .int (nI (5 * 0)), vU, vU, vU, vU]) dL_law_21 (Nat.le_of_ble_eq_true rfl) rfl rfl rfl ?_
  have hk : ∀ (L : List AC) (i : Nat) (x : AC), h2[i]? = some x → (h2 ++ L)[i]? = some x := fun L i x e => by
    rw [List.getElem?_append_left (List.getElem?_eq_some_iff.mp e).1]; exact e
  refine law_loop hLL 512 0 _ rfl ⟨kZero, mZero, rZero, 0, fun _ => 0, (hp1.keep (fun i x hi e => (hlow2 i hi).trans e)).keep (fun i x _ e => hk _ i x e), hr2.keep (fun i x _ _ e => hk _ i x e), ?_, sim_start, mw_start⟩
  rw [← hl2, List.getElem?_append_right (Nat.le_refl _), Nat.sub_self]
  rfl
end LAWS
section WORLD
variable {s : State} {b : Nat}
abbrev A0 (s : State) : Nat → Prop := fun q => s.heap.size ≤ q
theorem ex_in1 : ∀ a ∈ exNames, ∀ b ∈ exNames, a ≠ b → Cond.not (.castable a b) ∈ flatC (Jvm.Cond.and given_1 narrow_1) := by decide +kernel
theorem ex_in2 : ∀ a ∈ exNames, Cond.castable a a ∈ lw_tbl := by decide +kernel
theorem st_in (k : Nat) (hk : k = 172 ∨ k = 177 ∨ k = 165) : Cond.exactly (.string "PipeMoulds" k) "java/lang/String" ∈ flatC (Jvm.Cond.and given_1 narrow_1) := by
  rcases hk with rfl | rfl | rfl <;> decide +kernel
theorem st_of {k : Nat} {tx : String} (hk : k = 172 ∨ k = 177 ∨ k = 165) (hts : ∀ w ∈ lw_tbl, w.before #[Value.ref b] s = true) (hgv : (Jvm.Cond.and given_1 narrow_1).before #[Value.ref b] s = true) (hin : Cond.stringRef "PipeMoulds" k tx ∈ lw_tbl) : ∃ a, vk_R RX2 k tx a s := by
  have h := flat_of_before _ hgv _ (st_in k hk)
  obtain ⟨a, c, cell, kk, e1, -⟩ := Cond.exactly_spec h
  exact ⟨a, vk_R.of (A := #[Value.ref b]) (hts _ hin) e1⟩
theorem ex_start (hts : ∀ w ∈ lw_tbl, w.before #[Value.ref b] s = true) (hgv : (Jvm.Cond.and given_1 narrow_1).before #[Value.ref b] s = true) : EX (A0 s) s s.heap := by
  have hf := flat_of_before _ hgv
  have hA : ∀ a : Nat, a < s.heap.size → ¬ A0 s a := fun a h1 h2 => by
    have h3 : s.heap.size ≤ a := h2
    omega
  have hi : (Cond.initialized Bundle.tN).before #[Value.ref b] s = true := hts _ (List.mem_of_getElem? (i := 36) (by decide +kernel))
  refine ⟨vx_Zqof (hts _ (List.mem_of_getElem? (i := 287) (by decide +kernel))) hi (hf _ (by decide +kernel)) hA, vx_Zqof (hts _ (List.mem_of_getElem? (i := 289) (by decide +kernel))) hi (hf _ (by decide +kernel)) hA,
    st_of (Or.inl rfl) hts hgv (List.mem_of_getElem? (i := 301) (by decide +kernel)), st_of (Or.inr (Or.inl rfl)) hts hgv (List.mem_of_getElem? (i := 344) (by decide +kernel)), st_of (Or.inr (Or.inr rfl)) hts hgv (List.mem_of_getElem? (i := 388) (by decide +kernel)), fun w hw => ?_, va_AOA.of (hts _ (List.mem_of_getElem? (i := 656) (by decide +kernel))), fun a ha b' hb hab => va_Nc.of (hf _ (ex_in1 a ha b' hb hab)), fun a ha => va_Nw.of rfl (hts _ (ex_in2 a ha))⟩
  obtain ⟨h1, h2⟩ := List.mem_filter.mp hw
  have h3 := hts w h1
  cases w <;> first | exact va_Nw.of rfl h3 | (exfalso; revert h2; simp [isNest])
theorem cls_inst (hts : ∀ w ∈ lw_tbl, w.before #[Value.ref b] s = true) : ∀ (k : Nat) (q : vw_C), cls5[k]? = some q → ∃ n : Nat, (Cond.instantiable q.1 n).before #[Value.ref b] s = true
  | 0, _, e => by cases e; exact ⟨3, hts _ (List.mem_of_getElem? (i := 59) (by decide +kernel))⟩
  | 1, _, e => by cases e; exact ⟨17, hts _ (List.mem_of_getElem? (i := 53) (by decide +kernel))⟩
  | 2, _, e => by cases e; exact ⟨2, hts _ (List.mem_of_getElem? (i := 45) (by decide +kernel))⟩
  | 3, _, e => by cases e; exact ⟨18, hts _ (List.mem_of_getElem? (i := 650) (by decide +kernel))⟩
  | 4, _, e => by cases e; exact ⟨9, hts _ (List.mem_of_getElem? (i := 644) (by decide +kernel))⟩
  | k + 5, _, e => by cases e
theorem arr_start {ty : FieldType} (hty : ∀ n, ty ≠ .object n) (h : (Cond.arrayClass ty).before #[Value.ref b] s = true) : ∃ c : ClassId, ArrOfT s c ty ∧ va_RA s c ty := by
  obtain ⟨c, k, comp, h1, h2, h3⟩ := Cond.arrayClass_spec h
  refine ⟨c, fun n z => ⟨fun k h => (by cases h), k, h2, comp, h3⟩, ?_⟩
  cases ty <;> first | exact h1 | exact absurd rfl (hty _)
theorem k_start (hts : ∀ w ∈ lw_tbl, w.before #[Value.ref b] s = true) : ∃ (D : va_G) (tc : TC), va_K D cls5 (tys3 tc) s := by
  have key : ∀ k : Nat, ∃ x : ClassId × (Nat → Nat), ∀ q : vw_C, cls5[k]? = some q → u_Kn s q.1 q.2.1 q.2.2 x.1 x.2 := fun k => by
    cases hq : cls5[k]? with
    | none => exact ⟨(0, fun _ => 0), fun q h => by cases h⟩
    | some q =>
      obtain ⟨n, hn⟩ := cls_inst hts k q hq
      obtain ⟨cC, iS, hk⟩ := u_known (ws := wsAll) (C := q.1) (T := q.2.1) (N := q.2.2) (fun w hw => hts w (wsAll_tbl hw)) (cls5_in k q hq) hn
      exact ⟨(cC, iS), fun q' e => by cases e; exact hk⟩
  obtain ⟨g, hg⟩ := Classical.axiomOfChoice key
  obtain ⟨c1, a1⟩ := arr_start (s := s) (b := b) (ty := .int) (fun n e => by cases e) (hts _ (List.mem_of_getElem? (i := 74) (by decide +kernel)))
  obtain ⟨c2, a2⟩ := arr_start (s := s) (b := b) (ty := .long) (fun n e => by cases e) (hts _ (List.mem_of_getElem? (i := 970) (by decide +kernel)))
  obtain ⟨comp, c3, k3, h1, h2, h3, h4⟩ := Cond.arrayOver_specA (hts (Cond.arrayOver (.array .int)) (List.mem_of_getElem? (i := 656) (by decide +kernel)))
  have a3 : ArrOfT s c3 (.array .int) ∧ va_RA s c3 (.array .int) := ⟨fun n z => ⟨fun k h => (by cases h), k3, h2, comp, h3⟩, h4⟩
  refine ⟨(fun k => (g k).1, fun k => (g k).2), (c1, c2, c3), fun k q e => hg k q e, fun k q e => ?_⟩
  match k, e with
  | 0, e => cases e; exact a1
  | 1, e => cases e; exact a2
  | 2, e => cases e; exact a3
  | k + 3, e => cases e
end WORLD
