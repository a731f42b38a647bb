/-! Table: rows of numbers in one row of cells -/
theorem gss {h : AH} {a : Nat} {c x : AC} (ha : h[a]? = some c) : (h.set a x)[a]? = some x := List.getElem?_set_self (List.getElem?_eq_some_iff.mp ha).1
theorem gsn {h : AH} {a b : Nat} {x : AC} (hab : a ≠ b) : (h.set a x)[b]? = h[b]? := List.getElem?_set_ne hab
theorem gself {h : AH} {a : Nat} {x : AC} (ha : h[a]? = some x) : h.set a x = h := by
  apply List.ext_getElem?
  intro i
  by_cases e : a = i
  · subst e; rw [gss ha, ha]
  · rw [gsn e]
def TbO (tb c N cols rows : Nat) (f : Nat → Int32) (h : AH) : Prop := h[tb]? = some (.inr (0, [.ref c, .int (nI cols), .int (nI rows)])) ∧ h[c]? = some (.inl (N, .inl f))
/-- its measures -/
def TbB (N cols rows : Nat) : Prop := rows * cols ≤ N ∧ N ≤ 100 ∧ 1 ≤ cols ∧ cols ≤ 10
theorem TbB.idx {N cols rows i j : Nat} (hB : TbB N cols rows) (hi : i < rows) (hj : j < cols) : i * cols + j < N := by
  obtain ⟨h1, h2, h3, h4⟩ := hB
  have : (i + 1) * cols ≤ rows * cols := Nat.mul_le_mul_right _ hi
  rw [Nat.add_mul] at this
  omega
theorem TbB.rows {N cols rows : Nat} (hB : TbB N cols rows) : rows ≤ 100 := by
  obtain ⟨h1, h2, h3, h4⟩ := hB
  have : rows * 1 ≤ rows * cols := Nat.mul_le_mul_left _ h3
  omega
def tSum (f : Nat → Int32) (cols j : Nat) : Nat → Int32
  | 0 => 0
  | n + 1 => tSum f cols j n + f (n * cols + j)
def tRem (f : Nat → Int32) (cols rows i : Nat) : Nat → Int32 := fun k => if i * cols ≤ k ∧ k < (rows - 1) * cols then f (k + cols) else f k
section TABLE
variable {d tb c N cols rows : Nat} {f : Nat → Int32} {h : AH}
set_option maxHeartbeats 4000000 in
theorem c_size (hT : TbO tb c N cols rows f h) : Ct d mX0_size 0 0 [.ref tb] h (RI (nI rows) h) := by
  refine Ct.of (by decide +kernel) rfl (Nat.le_of_ble_eq_true rfl) ?_
  show WP d mX0_size none 0 0 0 [.ref tb] [] h _
  refine w_aload_n (pc := 0) (i := 0) dX0_size_0 rfl rfl ?_
  refine w_get (pc := 1) dX0_size_1 FX0_19 hT.1 rfl ?_
  exact w_ireturn (pc := 4) dX0_size_4 ⟨_, rfl, rfl⟩ ⟨rfl, rfl⟩
set_option maxHeartbeats 4000000 in
theorem c_width (hT : TbO tb c N cols rows f h) : Ct d mX0_width 0 0 [.ref tb] h (RI (nI cols) h) := by
  refine Ct.of (by decide +kernel) rfl (Nat.le_of_ble_eq_true rfl) ?_
  show WP d mX0_width none 0 0 0 [.ref tb] [] h _
  refine w_aload_n (pc := 0) (i := 0) dX0_width_0 rfl rfl ?_
  refine w_get (pc := 1) dX0_width_1 FX0_15 hT.1 rfl ?_
  exact w_ireturn (pc := 4) dX0_width_4 ⟨_, rfl, rfl⟩ ⟨rfl, rfl⟩
set_option maxHeartbeats 4000000 in
theorem c_isFull (hT : TbO tb c N cols rows f h) (hB : TbB N cols rows) : Ct d mX0_isFull 0 0 [.ref tb] h (RI (if N < (rows + 1) * cols then 1 else 0) h) := by
  refine Ct.of (by decide +kernel) rfl (Nat.le_of_ble_eq_true rfl) ?_
  show WP d mX0_isFull none 0 0 0 [.ref tb] [] h _
  obtain ⟨b1, b2, b3, b4⟩ := hB
  have b5 : (rows + 1) * cols ≤ 200 := by rw [Nat.add_mul]; omega
  refine w_aload_n (pc := 0) (i := 0) dX0_isFull_0 rfl rfl ?_
  refine w_get (pc := 1) dX0_isFull_1 FX0_19 hT.1 rfl ?_
  refine w_iconst (pc := 4) (v := 1) dX0_isFull_4 (by decide) ?_
  refine w_iadd (pc := 5) dX0_isFull_5 ?_
  refine w_aload_n (pc := 6) (i := 0) dX0_isFull_6 rfl rfl ?_
  refine w_get (pc := 7) dX0_isFull_7 FX0_15 hT.1 rfl ?_
  refine w_imul (pc := 10) dX0_isFull_10 ?_
  refine w_aload_n (pc := 11) (i := 0) dX0_isFull_11 rfl rfl ?_
  refine w_get (pc := 12) dX0_isFull_12 FX0_9 hT.1 rfl ?_
  refine w_alen (pc := 15) dX0_isFull_15 hT.2 rfl ?_
  rw [nI_1, pk_mul]
  refine w_icmp_le (pc := 16) (tgt := 23) dX0_isFull_16 (by decide) (fun c16 => ?_) (fun c16 => ?_)
  · refine w_iconst (pc := 23) (v := 0) dX0_isFull_23 (by decide) ?_
    exact w_ireturn (pc := 24) dX0_isFull_24 ⟨_, rfl, rfl⟩ ⟨by rw [if_neg (Nat.not_lt.mpr ((nI_leI (by omega) (by omega)).mp c16))], rfl⟩
  · refine w_iconst (pc := 19) (v := 1) dX0_isFull_19 (by decide) ?_
    refine w_goto (pc := 20) (tgt := 24) dX0_isFull_20 (by decide) ?_
    exact w_ireturn (pc := 24) dX0_isFull_24 ⟨_, rfl, rfl⟩ ⟨by rw [if_pos (Nat.lt_of_not_le (fun q => c16 ((nI_leI (by omega) (by omega)).mpr q)))], rfl⟩
set_option maxHeartbeats 4000000 in
theorem c_hasRow (row : Int32) (hT : TbO tb c N cols rows f h) : Ct d mX0_hasRow 0 0 [.ref tb, .int row] h (RI (if row < 0 ∨ nI rows ≤ row then 0 else 1) h) := by
  refine Ct.of (by decide +kernel) rfl (Nat.le_of_ble_eq_true rfl) ?_
  show WP d mX0_hasRow none 0 0 0 [.ref tb, .int row] [] h _
  refine w_iload_n (pc := 0) (i := 1) dX0_hasRow_0 rfl rfl ?_
  refine w_if_lt (pc := 1) (tgt := 16) dX0_hasRow_1 (by decide) (fun c1 => ?_) (fun c1 => ?_)
  · refine w_iconst (pc := 16) (v := 0) dX0_hasRow_16 (by decide) ?_
    exact w_ireturn (pc := 17) dX0_hasRow_17 ⟨_, rfl, rfl⟩ ⟨by rw [if_pos (Or.inl c1)], rfl⟩
  · refine w_iload_n (pc := 4) (i := 1) dX0_hasRow_4 rfl rfl ?_
    refine w_aload_n (pc := 5) (i := 0) dX0_hasRow_5 rfl rfl ?_
    refine w_get (pc := 6) dX0_hasRow_6 FX0_19 hT.1 rfl ?_
    refine w_icmp_ge (pc := 9) (tgt := 16) dX0_hasRow_9 (by decide) (fun c9 => ?_) (fun c9 => ?_)
    · refine w_iconst (pc := 16) (v := 0) dX0_hasRow_16 (by decide) ?_
      exact w_ireturn (pc := 17) dX0_hasRow_17 ⟨_, rfl, rfl⟩ ⟨by rw [if_pos (Or.inr c9)], rfl⟩
    · refine w_iconst (pc := 12) (v := 1) dX0_hasRow_12 (by decide) ?_
      refine w_goto (pc := 13) (tgt := 17) dX0_hasRow_13 (by decide) ?_
      exact w_ireturn (pc := 17) dX0_hasRow_17 ⟨_, rfl, rfl⟩ ⟨by rw [if_neg (fun q => q.elim c1 c9)], rfl⟩
set_option maxHeartbeats 4000000 in
theorem c_hasColumn (row : Int32) (hT : TbO tb c N cols rows f h) : Ct d mX0_hasColumn 0 0 [.ref tb, .int row] h (RI (if row < 0 ∨ nI cols ≤ row then 0 else 1) h) := by
  refine Ct.of (by decide +kernel) rfl (Nat.le_of_ble_eq_true rfl) ?_
  show WP d mX0_hasColumn none 0 0 0 [.ref tb, .int row] [] h _
  refine w_iload_n (pc := 0) (i := 1) dX0_hasColumn_0 rfl rfl ?_
  refine w_if_lt (pc := 1) (tgt := 16) dX0_hasColumn_1 (by decide) (fun c1 => ?_) (fun c1 => ?_)
  · refine w_iconst (pc := 16) (v := 0) dX0_hasColumn_16 (by decide) ?_
    exact w_ireturn (pc := 17) dX0_hasColumn_17 ⟨_, rfl, rfl⟩ ⟨by rw [if_pos (Or.inl c1)], rfl⟩
  · refine w_iload_n (pc := 4) (i := 1) dX0_hasColumn_4 rfl rfl ?_
    refine w_aload_n (pc := 5) (i := 0) dX0_hasColumn_5 rfl rfl ?_
    refine w_get (pc := 6) dX0_hasColumn_6 FX0_15 hT.1 rfl ?_
    refine w_icmp_ge (pc := 9) (tgt := 16) dX0_hasColumn_9 (by decide) (fun c9 => ?_) (fun c9 => ?_)
    · refine w_iconst (pc := 16) (v := 0) dX0_hasColumn_16 (by decide) ?_
      exact w_ireturn (pc := 17) dX0_hasColumn_17 ⟨_, rfl, rfl⟩ ⟨by rw [if_pos (Or.inr c9)], rfl⟩
    · refine w_iconst (pc := 12) (v := 1) dX0_hasColumn_12 (by decide) ?_
      refine w_goto (pc := 13) (tgt := 17) dX0_hasColumn_13 (by decide) ?_
      exact w_ireturn (pc := 17) dX0_hasColumn_17 ⟨_, rfl, rfl⟩ ⟨by rw [if_neg (fun q => q.elim c1 c9)], rfl⟩
set_option maxHeartbeats 4000000 in
theorem c_at (i j : Nat) (hT : TbO tb c N cols rows f h) (hB : TbB N cols rows) (hi : i < rows) (hj : j < cols) : Ct d mX0_at 0 0 [.ref tb, .int (nI i), .int (nI j)] h (RI (f (i * cols + j)) h) := by
  refine Ct.of (by decide +kernel) rfl (Nat.le_of_ble_eq_true rfl) ?_
  show WP d mX0_at none 0 0 0 [.ref tb, .int (nI i), .int (nI j), vU] [] h _
  have hx := hB.idx hi hj
  have hr := hB.rows
  obtain ⟨b1, b2, b3, b4⟩ := hB
  refine w_iload_n (pc := 0) (i := 1) dX0_at_0 rfl rfl ?_
  refine w_aload_n (pc := 1) (i := 0) dX0_at_1 rfl rfl ?_
  refine w_get (pc := 2) dX0_at_2 FX0_15 hT.1 rfl ?_
  refine w_imul (pc := 5) dX0_at_5 ?_
  refine w_iload_n (pc := 6) (i := 2) dX0_at_6 rfl rfl ?_
  refine w_iadd (pc := 7) dX0_at_7 ?_
  refine w_topi (fun x8 e8 => ?_)
  refine w_istore_n (pc := 8) (i := 3) (ls' := [.ref tb, .int (nI i), .int (nI j), .int x8]) dX0_at_8 rfl (by decide) rfl rfl rfl ?_
  have ex : x8 = nI (i * cols + j) := by rw [e8, pk_mul, nI_add]
  refine w_iload_n (pc := 9) (i := 1) dX0_at_9 rfl rfl ?_
  refine w_if_lt (pc := 10) (tgt := 46) dX0_at_10 (by decide) (fun c10 => absurd c10 (nI_pos (by omega))) (fun c10 => ?_)
  refine w_iload_n (pc := 13) (i := 1) dX0_at_13 rfl rfl ?_
  refine w_aload_n (pc := 14) (i := 0) dX0_at_14 rfl rfl ?_
  refine w_get (pc := 15) dX0_at_15 FX0_19 hT.1 rfl ?_
  refine w_icmp_ge (pc := 18) (tgt := 46) dX0_at_18 (by decide) (fun c18 => absurd c18 (nI_ge hi (by omega))) (fun c18 => ?_)
  refine w_iload_n (pc := 21) (i := 2) dX0_at_21 rfl rfl ?_
  refine w_if_lt (pc := 22) (tgt := 46) dX0_at_22 (by decide) (fun c22 => absurd c22 (nI_pos (by omega))) (fun c22 => ?_)
  refine w_iload_n (pc := 25) (i := 2) dX0_at_25 rfl rfl ?_
  refine w_aload_n (pc := 26) (i := 0) dX0_at_26 rfl rfl ?_
  refine w_get (pc := 27) dX0_at_27 FX0_15 hT.1 rfl ?_
  refine w_icmp_ge (pc := 30) (tgt := 46) dX0_at_30 (by decide) (fun c30 => absurd c30 (nI_ge hj (by omega))) (fun c30 => ?_)
  refine w_iload_n (pc := 33) (i := 3) dX0_at_33 rfl rfl ?_
  refine w_if_lt (pc := 34) (tgt := 46) dX0_at_34 (by decide) (fun c34 => absurd c34 (by rw [ex]; exact nI_pos (by omega))) (fun c34 => ?_)
  refine w_iload_n (pc := 37) (i := 3) dX0_at_37 rfl rfl ?_
  refine w_aload_n (pc := 38) (i := 0) dX0_at_38 rfl rfl ?_
  refine w_get (pc := 39) dX0_at_39 FX0_9 hT.1 rfl ?_
  refine w_alen (pc := 42) dX0_at_42 hT.2 rfl ?_
  refine w_icmp_lt (pc := 43) (tgt := 48) dX0_at_43 (by decide) (fun c43 => ?_) (fun c43 => absurd (by rw [ex]; exact nI_lt hx (by omega)) c43)
  refine w_aload_n (pc := 48) (i := 0) dX0_at_48 rfl rfl ?_
  refine w_get (pc := 49) dX0_at_49 FX0_9 hT.1 rfl ?_
  refine w_iload_n (pc := 52) (i := 3) dX0_at_52 rfl rfl ?_
  refine w_iald (pc := 53) dX0_at_53 hT.2 (by rw [ex]; exact vp_in_nI hx (by omega)) ?_
  exact w_ireturn (pc := 54) dX0_at_54 ⟨_, rfl, rfl⟩ ⟨by rw [ex, nI_clamp (by omega)], rfl⟩
set_option maxHeartbeats 4000000 in
theorem c_put (i j : Nat) (x : Int32) (hT : TbO tb c N cols rows f h) (hB : TbB N cols rows) (hi : i < rows) (hj : j < cols) : Ct d mX0_put 0 0 [.ref tb, .int (nI i), .int (nI j), .int x] h (RV (h.set c (.inl (N, .inl (upd f (i * cols + j) x))))) := by
  refine Ct.of (by decide +kernel) rfl (Nat.le_of_ble_eq_true rfl) ?_
  show WP d mX0_put none 0 0 0 [.ref tb, .int (nI i), .int (nI j), .int x, vU] [] h _
  have hx := hB.idx hi hj
  have hr := hB.rows
  obtain ⟨b1, b2, b3, b4⟩ := hB
  refine w_iload_n (pc := 0) (i := 1) dX0_put_0 rfl rfl ?_
  refine w_aload_n (pc := 1) (i := 0) dX0_put_1 rfl rfl ?_
  refine w_get (pc := 2) dX0_put_2 FX0_15 hT.1 rfl ?_
  refine w_imul (pc := 5) dX0_put_5 ?_
  refine w_iload_n (pc := 6) (i := 2) dX0_put_6 rfl rfl ?_
  refine w_iadd (pc := 7) dX0_put_7 ?_
  refine w_topi (fun x8 e8 => ?_)
  refine w_istore (pc := 8) (i := 4) (ls' := [.ref tb, .int (nI i), .int (nI j), .int x, .int x8]) dX0_put_8 (by decide) rfl rfl rfl ?_
  have ex : x8 = nI (i * cols + j) := by rw [e8, pk_mul, nI_add]
  refine w_iload_n (pc := 10) (i := 1) dX0_put_10 rfl rfl ?_
  refine w_if_lt (pc := 11) (tgt := 49) dX0_put_11 (by decide) (fun c11 => absurd c11 (nI_pos (by omega))) (fun c11 => ?_)
  refine w_iload_n (pc := 14) (i := 1) dX0_put_14 rfl rfl ?_
  refine w_aload_n (pc := 15) (i := 0) dX0_put_15 rfl rfl ?_
  refine w_get (pc := 16) dX0_put_16 FX0_19 hT.1 rfl ?_
  refine w_icmp_ge (pc := 19) (tgt := 49) dX0_put_19 (by decide) (fun c19 => absurd c19 (nI_ge hi (by omega))) (fun c19 => ?_)
  refine w_iload_n (pc := 22) (i := 2) dX0_put_22 rfl rfl ?_
  refine w_if_lt (pc := 23) (tgt := 49) dX0_put_23 (by decide) (fun c23 => absurd c23 (nI_pos (by omega))) (fun c23 => ?_)
  refine w_iload_n (pc := 26) (i := 2) dX0_put_26 rfl rfl ?_
  refine w_aload_n (pc := 27) (i := 0) dX0_put_27 rfl rfl ?_
  refine w_get (pc := 28) dX0_put_28 FX0_15 hT.1 rfl ?_
  refine w_icmp_ge (pc := 31) (tgt := 49) dX0_put_31 (by decide) (fun c31 => absurd c31 (nI_ge hj (by omega))) (fun c31 => ?_)
  refine w_iload (pc := 34) (i := 4) dX0_put_34 rfl ?_
  refine w_if_lt (pc := 36) (tgt := 49) dX0_put_36 (by decide) (fun c36 => absurd c36 (by rw [ex]; exact nI_pos (by omega))) (fun c36 => ?_)
  refine w_iload (pc := 39) (i := 4) dX0_put_39 rfl ?_
  refine w_aload_n (pc := 41) (i := 0) dX0_put_41 rfl rfl ?_
  refine w_get (pc := 42) dX0_put_42 FX0_9 hT.1 rfl ?_
  refine w_alen (pc := 45) dX0_put_45 hT.2 rfl ?_
  refine w_icmp_lt (pc := 46) (tgt := 50) dX0_put_46 (by decide) (fun c46 => ?_) (fun c46 => absurd (by rw [ex]; exact nI_lt hx (by omega)) c46)
  refine w_aload_n (pc := 50) (i := 0) dX0_put_50 rfl rfl ?_
  refine w_get (pc := 51) dX0_put_51 FX0_9 hT.1 rfl ?_
  refine w_iload (pc := 54) (i := 4) dX0_put_54 rfl ?_
  refine w_iload_n (pc := 56) (i := 3) dX0_put_56 rfl rfl ?_
  refine w_iast (pc := 57) dX0_put_57 hT.2 (by rw [ex]; exact vp_in_nI hx (by omega)) ?_
  exact w_return (pc := 58) dX0_put_58 rfl ⟨rfl, by rw [ex, nI_clamp (by omega)]⟩
set_option maxHeartbeats 4000000 in
theorem c_addRow (hT : TbO tb c N cols rows f h) (hB : TbB N cols rows) (hnf : (rows + 1) * cols ≤ N) : Ct (d + 1) mX0_addRow 0 0 [.ref tb] h (RI (nI rows) (h.set tb (.inr (0, [.ref c, .int (nI cols), .int (nI (rows + 1))])))) := by
  refine Ct.of (by decide +kernel) rfl (Nat.le_of_ble_eq_true rfl) ?_
  show WP (d + 1) mX0_addRow none 0 0 0 [.ref tb] [] h _
  refine w_aload_n (pc := 0) (i := 0) dX0_addRow_0 rfl rfl ?_
  refine w_vI (pc := 1) dX0_addRow_1 GX0_34 hT.1 (c_isFull hT hB) rfl rfl rfl rfl ?_
  rw [if_neg (Nat.not_lt.mpr hnf)]
  refine w_if_eq (pc := 4) (tgt := 9) dX0_addRow_4 (by decide) (fun c4 => ?_) (fun c4 => absurd rfl c4)
  refine w_aload_n (pc := 9) (i := 0) dX0_addRow_9 rfl rfl ?_
  refine w_dup (pc := 10) dX0_addRow_10 rfl ?_
  refine w_get (pc := 11) dX0_addRow_11 FX0_19 hT.1 rfl ?_
  refine w_iconst (pc := 14) (v := 1) dX0_addRow_14 (by decide) ?_
  refine w_iadd (pc := 15) dX0_addRow_15 ?_
  refine w_put (pc := 16) dX0_addRow_16 UX0_19 hT.1 (Nat.le_of_ble_eq_true rfl) nv_i (fun _ q => by cases q) ?_
  refine w_aload_n (pc := 19) (i := 0) dX0_addRow_19 rfl rfl ?_
  refine w_get (pc := 20) dX0_addRow_20 FX0_19 (gss hT.1) rfl ?_
  refine w_iconst (pc := 23) (v := 1) dX0_addRow_23 (by decide) ?_
  refine w_isub (pc := 24) dX0_addRow_24 ?_
  exact w_ireturn (pc := 25) dX0_addRow_25 ⟨_, rfl, rfl⟩ ⟨by rw [nI_1, nI_pred], by rw [nI_1]; rfl⟩
set_option maxHeartbeats 4000000 in
theorem c_sum_loop (j : Nat) (hT : TbO tb c N cols rows f h) (hB : TbB N cols rows) (hj : j < cols) {P : AO → AH → Prop} (hP : P (.inl (some (.int (tSum f cols j rows)))) h) : ∀ (m k : Nat), k + m = rows → WP (d + 1) mX0_sum none 0 0 4 [.ref tb, .int (nI j), .int (tSum f cols j k), .int (nI k)] [] h P := by
  have hr := hB.rows
  intro m
  induction m with
  | zero =>
    intro k hk
    have hk : k = rows := by omega
    subst hk
    refine w_iload_n (pc := 4) (i := 3) dX0_sum_4 rfl rfl ?_
    refine w_aload_n (pc := 5) (i := 0) dX0_sum_5 rfl rfl ?_
    refine w_get (pc := 6) dX0_sum_6 FX0_19 hT.1 rfl ?_
    refine w_icmp_ge (pc := 9) (tgt := 27) dX0_sum_9 (by decide) (fun c9 => ?_) (fun c9 => absurd (nI_le (Nat.le_refl _) (by omega)) c9)
    refine w_iload_n (pc := 27) (i := 2) dX0_sum_27 rfl rfl ?_
    exact w_ireturn (pc := 28) dX0_sum_28 ⟨_, rfl, rfl⟩ hP
  | succ m ih =>
    intro k hk
    refine w_iload_n (pc := 4) (i := 3) dX0_sum_4 rfl rfl ?_
    refine w_aload_n (pc := 5) (i := 0) dX0_sum_5 rfl rfl ?_
    refine w_get (pc := 6) dX0_sum_6 FX0_19 hT.1 rfl ?_
    refine w_icmp_ge (pc := 9) (tgt := 27) dX0_sum_9 (by decide) (fun c9 => absurd c9 (nI_ge (by omega) (by omega))) (fun c9 => ?_)
    refine w_iload_n (pc := 12) (i := 2) dX0_sum_12 rfl rfl ?_
    refine w_aload_n (pc := 13) (i := 0) dX0_sum_13 rfl rfl ?_
    refine w_iload_n (pc := 14) (i := 3) dX0_sum_14 rfl rfl ?_
    refine w_iload_n (pc := 15) (i := 1) dX0_sum_15 rfl rfl ?_
    refine w_vI (pc := 16) dX0_sum_16 GX0_38 hT.1 (c_at k j hT hB (by omega) hj) rfl rfl rfl rfl ?_
    refine w_iadd (pc := 19) dX0_sum_19 ?_
    refine w_topi (fun x20 e20 => ?_)
    refine w_istore_n (pc := 20) (i := 2) (ls' := [.ref tb, .int (nI j), .int x20, .int (nI k)]) dX0_sum_20 rfl (by decide) rfl rfl rfl ?_
    obtain ⟨x21, e21⟩ : ∃ y : Int32, y = (nI k) + 1 := ⟨_, rfl⟩
    refine w_iinc (pc := 21) (i := 3) (y := x21) (ls' := [.ref tb, .int (nI j), .int x20, .int x21]) dX0_sum_21 rfl (by rw [e21]; rfl) (by decide) rfl rfl rfl ?_
    refine w_goto (pc := 24) (tgt := 4) dX0_sum_24 (by decide) ?_
    obtain rfl : x20 = tSum f cols j (k + 1) := e20
    obtain rfl : x21 = nI (k + 1) := by rw [e21]; exact nI_1 k
    exact ih (k + 1) (by omega)
set_option maxHeartbeats 4000000 in
theorem c_sum (j : Nat) (hT : TbO tb c N cols rows f h) (hB : TbB N cols rows) (hj : j < cols) : Ct (d + 1) mX0_sum 0 0 [.ref tb, .int (nI j)] h (RI (tSum f cols j rows) h) := by
  refine Ct.of (by decide +kernel) rfl (Nat.le_of_ble_eq_true rfl) ?_
  show WP (d + 1) mX0_sum none 0 0 0 [.ref tb, .int (nI j), vU, vU] [] h _
  refine w_iconst (pc := 0) (v := 0) dX0_sum_0 (by decide) ?_
  refine w_topi (fun x1 e1 => ?_)
  refine w_istore_n (pc := 1) (i := 2) (ls' := [.ref tb, .int (nI j), .int x1, vU]) dX0_sum_1 rfl (by decide) rfl rfl rfl ?_
  refine w_iconst (pc := 2) (v := 0) dX0_sum_2 (by decide) ?_
  refine w_topi (fun x3 e3 => ?_)
  refine w_istore_n (pc := 3) (i := 3) (ls' := [.ref tb, .int (nI j), .int x1, .int x3]) dX0_sum_3 rfl (by decide) rfl rfl rfl ?_
  subst e1
  subst e3
  exact c_sum_loop j hT hB hj ⟨rfl, rfl⟩ rows 0 (Nat.zero_add _)
/-- the cells while the rows behind row i move up, those below k done -/
def tMv (f : Nat → Int32) (cols i k : Nat) : Nat → Int32 := fun q => if i * cols ≤ q ∧ q < k then f (q + cols) else f q
theorem tMv_0 {f : Nat → Int32} {cols i : Nat} : tMv f cols i (i * cols) = f := by
  funext q
  unfold tMv
  rw [if_neg (by omega)]
theorem tMv_1 {f : Nat → Int32} {cols i k : Nat} (h : i * cols ≤ k) : upd (tMv f cols i k) k (f (k + cols)) = tMv f cols i (k + 1) := by
  funext q
  unfold tMv upd
  by_cases e : q = k
  · subst e
    rw [if_pos rfl, if_pos ⟨h, Nat.lt_succ_self _⟩]
  · rw [if_neg e]
    dsimp only
    by_cases e2 : i * cols ≤ q ∧ q < k
    · rw [if_pos e2, if_pos (by omega)]
    · rw [if_neg e2, if_neg (by omega)]
theorem tMv_end {f : Nat → Int32} {cols rows i : Nat} : tMv f cols i ((rows - 1) * cols) = tRem f cols rows i := rfl
set_option maxHeartbeats 4000000 in
theorem c_removeRow_loop (i : Nat) {h1 : AH} (hT0 : TbO tb c N cols (rows - 1) f h1) (hne : c ≠ tb) (hB : TbB N cols rows) (hi : i < rows) : ∀ (m k : Nat), k + m = (rows - 1) * cols → i * cols ≤ k → WP d mX0_removeRow none 0 0 53 [.ref tb, .int (nI i), .int (nI ((rows - 1) * cols)), .int (nI k)] [] (h1.set c (.inl (N, .inl (tMv f cols i k)))) (RV (h1.set c (.inl (N, .inl (tRem f cols rows i))))) := by
  obtain ⟨b1, b2, b3, b4⟩ := hB
  have hrc : (rows - 1) * cols + cols = rows * cols := by rw [← Nat.succ_mul]; congr 1; omega
  intro m
  induction m with
  | zero =>
    intro k hk hk2
    have hk : k = (rows - 1) * cols := by omega
    subst hk
    refine w_iload_n (pc := 53) (i := 3) dX0_removeRow_53 rfl rfl ?_
    refine w_iload_n (pc := 54) (i := 2) dX0_removeRow_54 rfl rfl ?_
    refine w_icmp_ge (pc := 55) (tgt := 81) dX0_removeRow_55 (by decide) (fun c55 => ?_) (fun c55 => absurd (nI_le (Nat.le_refl _) (by omega)) c55)
    exact w_return (pc := 81) dX0_removeRow_81 rfl ⟨rfl, rfl⟩
  | succ m ih =>
    intro k hk hk2
    have hT1 : TbO tb c N cols (rows - 1) (tMv f cols i k) (h1.set c (.inl (N, .inl (tMv f cols i k)))) := ⟨by rw [gsn hne]; exact hT0.1, gss hT0.2⟩
    refine w_iload_n (pc := 53) (i := 3) dX0_removeRow_53 rfl rfl ?_
    refine w_iload_n (pc := 54) (i := 2) dX0_removeRow_54 rfl rfl ?_
    refine w_icmp_ge (pc := 55) (tgt := 81) dX0_removeRow_55 (by decide) (fun c55 => absurd c55 (nI_ge (by omega) (by omega))) (fun c55 => ?_)
    refine w_aload_n (pc := 58) (i := 0) dX0_removeRow_58 rfl rfl ?_
    refine w_get (pc := 59) dX0_removeRow_59 FX0_9 hT1.1 rfl ?_
    refine w_iload_n (pc := 62) (i := 3) dX0_removeRow_62 rfl rfl ?_
    refine w_aload_n (pc := 63) (i := 0) dX0_removeRow_63 rfl rfl ?_
    refine w_get (pc := 64) dX0_removeRow_64 FX0_9 hT1.1 rfl ?_
    refine w_iload_n (pc := 67) (i := 3) dX0_removeRow_67 rfl rfl ?_
    refine w_aload_n (pc := 68) (i := 0) dX0_removeRow_68 rfl rfl ?_
    refine w_get (pc := 69) dX0_removeRow_69 FX0_15 hT1.1 rfl ?_
    refine w_iadd (pc := 72) dX0_removeRow_72 ?_
    rw [nI_add]
    refine w_iald (pc := 73) dX0_removeRow_73 hT1.2 (vp_in_nI (by omega) (by omega)) ?_
    refine w_iast (pc := 74) dX0_removeRow_74 hT1.2 (vp_in_nI (by omega) (by omega)) ?_
    rw [nI_clamp (by omega), nI_clamp (by omega), List.set_set, show tMv f cols i k (k + cols) = f (k + cols) from if_neg (by omega), tMv_1 hk2]
    obtain ⟨x75, e75⟩ : ∃ y : Int32, y = (nI k) + 1 := ⟨_, rfl⟩
    refine w_iinc (pc := 75) (i := 3) (y := x75) (ls' := [.ref tb, .int (nI i), .int (nI ((rows - 1) * cols)), .int x75]) dX0_removeRow_75 rfl (by rw [e75]; rfl) (by decide) rfl rfl rfl ?_
    refine w_goto (pc := 78) (tgt := 53) dX0_removeRow_78 (by decide) ?_
    obtain rfl : x75 = nI (k + 1) := by rw [e75]; exact nI_1 k
    exact ih (k + 1) (by omega) (by omega)
set_option maxHeartbeats 4000000 in
theorem c_removeRow (i : Nat) (hT : TbO tb c N cols rows f h) (hne : c ≠ tb) (hB : TbB N cols rows) (hi : i < rows) (hd : 1 ≤ d) : Ct d mX0_removeRow 0 0 [.ref tb, .int (nI i)] h (RV ((h.set tb (.inr (0, [.ref c, .int (nI cols), .int (nI (rows - 1))]))).set c (.inl (N, .inl (tRem f cols rows i))))) := by
  refine Ct.of (by decide +kernel) rfl (Nat.le_of_ble_eq_true rfl) ?_
  show WP d mX0_removeRow none 0 0 0 [.ref tb, .int (nI i), vU, vU] [] h _
  have hr := hB.rows
  have hB0 := hB
  obtain ⟨b1, b2, b3, b4⟩ := hB
  have hrc : (rows - 1) * cols + cols = rows * cols := by rw [← Nat.succ_mul]; congr 1; omega
  have hic : i * cols ≤ (rows - 1) * cols := Nat.mul_le_mul_right _ (by omega)
  refine w_iload_n (pc := 0) (i := 1) dX0_removeRow_0 rfl rfl ?_
  refine w_if_lt (pc := 1) (tgt := 12) dX0_removeRow_1 (by decide) (fun c1 => absurd c1 (nI_pos (by omega))) (fun c1 => ?_)
  refine w_iload_n (pc := 4) (i := 1) dX0_removeRow_4 rfl rfl ?_
  refine w_aload_n (pc := 5) (i := 0) dX0_removeRow_5 rfl rfl ?_
  refine w_get (pc := 6) dX0_removeRow_6 FX0_19 hT.1 rfl ?_
  refine w_icmp_lt (pc := 9) (tgt := 13) dX0_removeRow_9 (by decide) (fun c9 => ?_) (fun c9 => absurd (nI_lt hi (by omega)) c9)
  refine w_aload_n (pc := 13) (i := 0) dX0_removeRow_13 rfl rfl ?_
  refine w_dup (pc := 14) dX0_removeRow_14 rfl ?_
  refine w_get (pc := 15) dX0_removeRow_15 FX0_19 hT.1 rfl ?_
  refine w_iconst (pc := 18) (v := 1) dX0_removeRow_18 (by decide) ?_
  refine w_isub (pc := 19) dX0_removeRow_19 ?_
  refine w_put (pc := 20) dX0_removeRow_20 UX0_19 hT.1 (Nat.le_of_ble_eq_true rfl) nv_i (fun _ q => by cases q) ?_
  rw [show nI rows - 1 = nI (rows - 1) from pk_sub (a := rows) (b := 1) (by omega)]
  have hT1 : TbO tb c N cols (rows - 1) f (h.set tb (.inr (0, [.ref c, .int (nI cols), .int (nI (rows - 1))]))) := ⟨gss hT.1, by rw [gsn (Ne.symm hne)]; exact hT.2⟩
  show WP d mX0_removeRow none 0 0 23 _ _ (h.set tb (.inr (0, [.ref c, .int (nI cols), .int (nI (rows - 1))]))) _
  refine w_aload_n (pc := 23) (i := 0) dX0_removeRow_23 rfl rfl ?_
  refine w_get (pc := 24) dX0_removeRow_24 FX0_19 hT1.1 rfl ?_
  refine w_aload_n (pc := 27) (i := 0) dX0_removeRow_27 rfl rfl ?_
  refine w_get (pc := 28) dX0_removeRow_28 FX0_15 hT1.1 rfl ?_
  refine w_imul (pc := 31) dX0_removeRow_31 ?_
  refine w_aload_n (pc := 32) (i := 0) dX0_removeRow_32 rfl rfl ?_
  refine w_get (pc := 33) dX0_removeRow_33 FX0_9 hT1.1 rfl ?_
  refine w_alen (pc := 36) dX0_removeRow_36 hT1.2 rfl ?_
  refine w_aload_n (pc := 37) (i := 0) dX0_removeRow_37 rfl rfl ?_
  refine w_get (pc := 38) dX0_removeRow_38 FX0_15 hT1.1 rfl ?_
  refine w_isub (pc := 41) dX0_removeRow_41 ?_
  refine w_min (pc := 42) dX0_removeRow_42 LX0_22 hd rfl (Nat.le_of_ble_eq_true rfl) ?_
  rw [pk_mul, show Int32.ofNat (N, (Sum.inl f : (Nat → Int32) ⊕ _)).1 - nI cols = nI (N - cols) from pk_sub (by omega), if_neg (nI_nlt (by omega) (by omega))]
  refine w_topi (fun x45 e45 => ?_)
  refine w_istore_n (pc := 45) (i := 2) (ls' := [.ref tb, .int (nI i), .int x45, vU]) dX0_removeRow_45 rfl (by decide) rfl rfl rfl ?_
  refine w_iload_n (pc := 46) (i := 1) dX0_removeRow_46 rfl rfl ?_
  refine w_aload_n (pc := 47) (i := 0) dX0_removeRow_47 rfl rfl ?_
  refine w_get (pc := 48) dX0_removeRow_48 FX0_15 hT1.1 rfl ?_
  refine w_imul (pc := 51) dX0_removeRow_51 ?_
  rw [pk_mul]
  refine w_topi (fun x52 e52 => ?_)
  refine w_istore_n (pc := 52) (i := 3) (ls' := [.ref tb, .int (nI i), .int x45, .int x52]) dX0_removeRow_52 rfl (by decide) rfl rfl rfl ?_
  subst e45
  subst e52
  have hL := c_removeRow_loop (d := d) i hT1 hne hB0 hi ((rows - 1) * cols - i * cols) (i * cols) (by omega) (Nat.le_refl _)
  rw [tMv_0, gself hT1.2] at hL
  exact hL
set_option maxHeartbeats 4000000 in
theorem c_copyFrom {ub uc urows : Nat} {g : Nat → Int32} (hT : TbO tb c N cols rows f h) (hU : TbO ub uc N cols urows g h) (hB : TbB N cols rows) (h1 : ub ≠ c) (h2 : tb ≠ c) (hd : 2 ≤ d) : Ct d mX0_copyFrom 0 0 [.ref tb, .ref ub] h (RV ((h.set c (.inl (N, .inl (va_cpy g f 0 0 N)))).set tb (.inr (0, [.ref c, .int (nI cols), .int (nI urows)])))) := by
  refine Ct.of (by decide +kernel) rfl (Nat.le_of_ble_eq_true rfl) ?_
  show WP d mX0_copyFrom none 0 0 0 [.ref tb, .ref ub] [] h _
  have hr := hB.rows
  obtain ⟨b1, b2, b3, b4⟩ := hB
  refine w_aload_n (pc := 0) (i := 1) dX0_copyFrom_0 rfl rfl ?_
  refine w_get (pc := 1) dX0_copyFrom_1 FX0_9 hU.1 rfl ?_
  refine w_iconst (pc := 4) (v := 0) dX0_copyFrom_4 (by decide) ?_
  refine w_aload_n (pc := 5) (i := 0) dX0_copyFrom_5 rfl rfl ?_
  refine w_get (pc := 6) dX0_copyFrom_6 FX0_9 hT.1 rfl ?_
  refine w_iconst (pc := 9) (v := 0) dX0_copyFrom_9 (by decide) ?_
  refine w_aload_n (pc := 10) (i := 0) dX0_copyFrom_10 rfl rfl ?_
  refine w_get (pc := 11) dX0_copyFrom_11 FX0_9 hT.1 rfl ?_
  refine w_alen (pc := 14) dX0_copyFrom_14 hT.2 rfl ?_
  refine w_aload_n (pc := 15) (i := 1) dX0_copyFrom_15 rfl rfl ?_
  refine w_get (pc := 16) dX0_copyFrom_16 FX0_9 hU.1 rfl ?_
  refine w_alen (pc := 19) dX0_copyFrom_19 hU.2 rfl ?_
  refine w_min (pc := 20) dX0_copyFrom_20 LX0_22 (by omega) rfl (Nat.le_of_ble_eq_true rfl) ?_
  rw [if_neg (show ¬ Int32.ofNat (N, (Sum.inl g : (Nat → Int32) ⊕ _)).1 < Int32.ofNat (N, (Sum.inl f : (Nat → Int32) ⊕ _)).1 from nI_nlt (Nat.le_refl _) (by show N < 2 ^ 31; omega))]
  refine w_copy (pc := 23) (sp := 0) (dp := 0) (cn := N) dX0_copyFrom_23 LX0_28 hd rfl (Nat.le_of_ble_eq_true rfl) hU.2 hT.2 (by omega) (by omega) (by omega) (by omega) ?_
  refine w_aload_n (pc := 26) (i := 0) dX0_copyFrom_26 rfl rfl ?_
  refine w_aload_n (pc := 27) (i := 1) dX0_copyFrom_27 rfl rfl ?_
  refine w_get (pc := 28) dX0_copyFrom_28 FX0_19 (by rw [gsn (Ne.symm h1)]; exact hU.1) rfl ?_
  refine w_put (pc := 31) dX0_copyFrom_31 UX0_19 (by rw [gsn (Ne.symm h2)]; exact hT.1) (Nat.le_of_ble_eq_true rfl) nv_i (fun _ q => by cases q) ?_
  exact w_return (pc := 34) dX0_copyFrom_34 rfl ⟨rfl, rfl⟩
set_option maxHeartbeats 4000000 in
theorem c_Table_init (x y : Int32) (hh : h[tb]? = some (.inr (0, [.null, .int 0, .int 0]))) (hd : 1 ≤ d) : Ct d mX0_init 0 0 [.ref tb, .ref c, .int x, .int y] h (NT (fun v h1 => v = none ∧ h1 = h.set tb (.inr (0, [.ref c, .int x, .int y])))) := by
  refine Ct.of (by decide +kernel) rfl (Nat.le_of_ble_eq_true rfl) ?_
  show WP d mX0_init none 0 0 0 [.ref tb, .ref c, .int x, .int y] [] h _
  refine w_aload_n (pc := 0) (i := 0) dX0_init_0 rfl rfl ?_
  refine w_objInit (pc := 1) dX0_init_1 LX0_3 hd rfl ?_
  refine w_aload_n (pc := 4) (i := 0) dX0_init_4 rfl rfl ?_
  refine w_aload_n (pc := 5) (i := 1) dX0_init_5 rfl rfl ?_
  refine w_putF (pc := 6) dX0_init_6 UX0_9 rfl hh (Nat.le_of_ble_eq_true rfl) nv_a (fun _ q => by cases q) ?_
  refine w_aload_n (pc := 9) (i := 0) dX0_init_9 rfl rfl ?_
  refine w_iload_n (pc := 10) (i := 2) dX0_init_10 rfl rfl ?_
  refine w_putF (pc := 11) dX0_init_11 UX0_15 rfl (gss hh) (Nat.le_of_ble_eq_true rfl) nv_i (fun _ q => by cases q) ?_
  rw [List.set_set]
  refine w_aload_n (pc := 14) (i := 0) dX0_init_14 rfl rfl ?_
  refine w_iload_n (pc := 15) (i := 3) dX0_init_15 rfl rfl ?_
  refine w_put (pc := 16) dX0_init_16 UX0_19 (gss hh) (Nat.le_of_ble_eq_true rfl) nv_i (fun _ q => by cases q) ?_
  rw [List.set_set]
  exact w_return (pc := 19) dX0_init_19 rfl ⟨none, rfl, rfl, rfl⟩
end TABLE
