/-! the law: its loop -/
section LAWL
variable {LL : Nat} {xs : Nat → Int32} {nm : String} {hs : List (Nat × Nat × Nat × Nat)}
def PLaw : AO → AH → Prop := fun o _ => o = .inl (some (.int 1))
theorem tw_and (y : Int32) : ∃ n : Nat, n < 32 ∧ y &&& 31 = nI n := by
  refine ⟨(y &&& 31).toBitVec.toNat, ?_, ?_⟩
  · rw [Int32.toBitVec_and, BitVec.toNat_and]
    exact Nat.lt_of_le_of_lt Nat.and_le_right (by decide)
  · exact (Int32.ofNat_bitVecToNat _).symm
set_option maxHeartbeats 1000000 in
/-- the head: either the script is read, or there is one call more -/
theorem law_head {K N j : Nat} {h : AH} (hLL : LL ≤ 2560) (hj : j ≤ 512) (kk : 5 * j + 5 ≤ LL → WP 12 (mLaw nm hs) (some (LL, xs)) K N 32 [vScr, .ref 0, .ref 27, .ref 92, .int (nI (5 * j)), vU, vU, vU, vU] [] h PLaw) : WP 12 (mLaw nm hs) (some (LL, xs)) K N 23 [vScr, .ref 0, .ref 27, .ref 92, .int (nI (5 * j)), vU, vU, vU, vU] [] h PLaw := by
  refine w_iload (pc := 23) dL_law_23 rfl ?_
  refine w_aload_s (pc := 25) (i := 0) dL_law_25 rfl rfl ?_
  refine w_slen (pc := 26) rfl dL_law_26 ?_
  refine w_iconst (pc := 27) (v := nI 5) dL_law_27 (by decide) ?_
  refine w_isub (pc := 28) dL_law_28 ?_
  refine w_icmp_gt (pc := 29) (tgt := 1530) dL_law_29 (by decide) (fun _ => ?_) (fun c => kk ?_)
  · refine w_iconst (pc := 1530) (v := 1) dL_law_1530 (by decide) ?_
    exact w_ireturn (pc := 1531) dL_law_1531 ⟨_, rfl, rfl⟩ rfl
  · by_cases e : 5 * j + 5 ≤ LL
    · exact e
    · refine absurd ?_ c
      show nI LL - nI 5 < nI (5 * j)
      by_cases e5 : 5 ≤ LL
      · rw [pk_sub e5]
        exact nI_lt (by omega) (by omega)
      · exact Int32.lt_of_lt_of_le (pk_sneg (by omega) (by omega)) (nI_pos' (by omega))
set_option maxHeartbeats 4000000 in
/-- one call -/
theorem law_call {K N j D : Nat} {h : AH} (hI : LI D h) (hD : D ≤ 90000) (hL : 5 * j + 5 ≤ LL) (hLL : LL ≤ 2560) (kk : ∀ h1, LI (D + 40) h1 → WP 12 (mLaw nm hs) (some (LL, xs)) K N 1524 [vScr, .ref 0, .ref 27, .ref 92, .int (nI (5 * j)), vU, vU, vU, vU] [] h1 PLaw) : WP 12 (mLaw nm hs) (some (LL, xs)) (K + 48) (N + 360) 32 [vScr, .ref 0, .ref 27, .ref 92, .int (nI (5 * j)), vU, vU, vU, vU] [] h PLaw := by
  refine w_aload_s (pc := 32) (i := 0) dL_law_32 rfl rfl ?_
  refine w_iload (pc := 33) dL_law_33 rfl ?_
  refine w_sld (pc := 35) rfl dL_law_35 (vp_in_nI (by omega) (by omega)) ?_
  refine w_bipush (pc := 36) (v := 31) dL_law_36 (by decide) ?_
  refine w_iand (pc := 38) dL_law_38 ?_
  obtain ⟨y, hy, ey⟩ := tw_and (xs (nI (5 * j)).toNatClampNeg)
  rw [ey]
  have et : (nI y).toInt = (y : Int) := nI_toInt (by omega)
  by_cases hb : 22 < y
  · refine w_tableOut (pc := 39) (tgt := 1524) dL_law_39 (Or.inr (by rw [et]; omega)) (by decide) ?_
    exact w_room (k := K) (n := N) (by omega) (by omega) (kk _ (hI.mono (by omega)))
  · have h1 : ¬ (nI y).toInt < 0 := by rw [et]; omega
    have h2 : ¬ 22 < (nI y).toInt := by rw [et]; omega
    have h3 : ((nI y).toInt - 0).toNat = y := by rw [et]; omega
    match y, hb with
    | 0, _ => exact w_tableIn (pc := 39) (off := 105) (tgt := 144) dL_law_39 h1 h2 (by rw [h3]; rfl) (by decide) (s_mould hI hD hL hLL kk)
    | 1, _ => exact w_tableIn (pc := 39) (off := 173) (tgt := 212) dL_law_39 h1 h2 (by rw [h3]; rfl) (by decide) (s_refit hI hD hL hLL kk)
    | 2, _ => exact w_tableIn (pc := 39) (off := 229) (tgt := 268) dL_law_39 h1 h2 (by rw [h3]; rfl) (by decide) (s_maker hI hD hL hLL kk)
    | 3, _ => exact w_tableIn (pc := 39) (off := 285) (tgt := 324) dL_law_39 h1 h2 (by rw [h3]; rfl) (by decide) (s_place hI hD hL hLL kk)
    | 4, _ => exact w_tableIn (pc := 39) (off := 353) (tgt := 392) dL_law_39 h1 h2 (by rw [h3]; rfl) (by decide) (s_buy hI hD hL hLL kk)
    | 5, _ => exact w_tableIn (pc := 39) (off := 421) (tgt := 460) dL_law_39 h1 h2 (by rw [h3]; rfl) (by decide) (s_setDry hI hD hL hLL kk)
    | 6, _ => exact w_tableIn (pc := 39) (off := 489) (tgt := 528) dL_law_39 h1 h2 (by rw [h3]; rfl) (by decide) (s_pack hI hD hL hLL kk)
    | 7, _ => exact w_tableIn (pc := 39) (off := 569) (tgt := 608) dL_law_39 h1 h2 (by rw [h3]; rfl) (by decide) (s_fire hI hD hL hLL kk)
    | 8, _ => exact w_tableIn (pc := 39) (off := 625) (tgt := 664) dL_law_39 h1 h2 (by rw [h3]; rfl) (by decide) (s_order hI hD hL hLL kk)
    | 9, _ => exact w_tableIn (pc := 39) (off := 717) (tgt := 756) dL_law_39 h1 h2 (by rw [h3]; rfl) (by decide) (s_about hI hD hL hLL kk)
    | 10, _ => exact w_tableIn (pc := 39) (off := 785) (tgt := 824) dL_law_39 h1 h2 (by rw [h3]; rfl) (by decide) (s_told hI hD hL hLL kk)
    | 11, _ => exact w_tableIn (pc := 39) (off := 853) (tgt := 892) dL_law_39 h1 h2 (by rw [h3]; rfl) (by decide) (s_batch hI hD hL hLL kk)
    | 12, _ => exact w_tableIn (pc := 39) (off := 921) (tgt := 960) dL_law_39 h1 h2 (by rw [h3]; rfl) (by decide) (s_saggar hI hD hL hLL kk)
    | 13, _ => exact w_tableIn (pc := 39) (off := 989) (tgt := 1028) dL_law_39 h1 h2 (by rw [h3]; rfl) (by decide) (s_store hI hD hL hLL kk)
    | 14, _ => exact w_tableIn (pc := 39) (off := 1045) (tgt := 1084) dL_law_39 h1 h2 (by rw [h3]; rfl) (by decide) (s_waits hI hD hL hLL kk)
    | 15, _ => exact w_tableIn (pc := 39) (off := 1113) (tgt := 1152) dL_law_39 h1 h2 (by rw [h3]; rfl) (by decide) (s_count hI hD hL hLL kk)
    | 16, _ => exact w_tableIn (pc := 39) (off := 1169) (tgt := 1208) dL_law_39 h1 h2 (by rw [h3]; rfl) (by decide) (s_pass hI hD hL hLL kk)
    | 17, _ => exact w_tableIn (pc := 39) (off := 1225) (tgt := 1264) dL_law_39 h1 h2 (by rw [h3]; rfl) (by decide) (s_breaks hI hD hL hLL kk)
    | 18, _ => exact w_tableIn (pc := 39) (off := 1293) (tgt := 1332) dL_law_39 h1 h2 (by rw [h3]; rfl) (by decide) (s_advise hI hD hL hLL kk)
    | 19, _ => exact w_tableIn (pc := 39) (off := 1306) (tgt := 1345) dL_law_39 h1 h2 (by rw [h3]; rfl) (by decide) (s_ready hI hD hL hLL kk)
    | 20, _ => exact w_tableIn (pc := 39) (off := 1362) (tgt := 1401) dL_law_39 h1 h2 (by rw [h3]; rfl) (by decide) (s_foresee hI hD hL hLL kk)
    | 21, _ => exact w_tableIn (pc := 39) (off := 1430) (tgt := 1469) dL_law_39 h1 h2 (by rw [h3]; rfl) (by decide) (s_mean hI hD hL hLL kk)
    | 22, _ => exact w_tableIn (pc := 39) (off := 1471) (tgt := 1510) dL_law_39 h1 h2 (by rw [h3]; rfl) (by decide) (s_digest hI hD hL hLL kk)
    | y + 23, hb => exact absurd (show 22 < y + 23 by omega) hb
set_option maxHeartbeats 1000000 in
theorem law_loop (hLL : LL ≤ 2560) : ∀ (m j : Nat) (h : AH), j + m = 512 → LI (40 * j) h → WP 12 (mLaw nm hs) (some (LL, xs)) (48 * m) (360 * m) 23 [vScr, .ref 0, .ref 27, .ref 92, .int (nI (5 * j)), vU, vU, vU, vU] [] h PLaw
  | 0, j, h, hj, hI => law_head hLL (by omega) (fun hL => absurd hL (by omega))
  | m + 1, j, h, hj, hI => by
    refine law_head hLL (by omega) (fun hL => ?_)
    refine law_call hI (by omega) hL hLL (K := 48 * m) (N := 360 * m) (fun h1 hI1 => ?_)
    refine w_iinc (pc := 1524) (i := 4) (y := nI (5 * (j + 1))) (ls' := [vScr, .ref 0, .ref 27, .ref 92, .int (nI (5 * (j + 1))), vU, vU, vU, vU]) dL_law_1524 rfl (by rw [show Int32.ofInt 5 = nI 5 by decide, nI_add]; rfl) (Nat.le_of_ble_eq_true rfl) rfl rfl rfl ?_
    refine w_goto (pc := 1527) (tgt := 23) dL_law_1527 (by decide) ?_
    exact law_loop hLL m (j + 1) h1 (by omega) (hI1.mono (by omega))
end LAWL
