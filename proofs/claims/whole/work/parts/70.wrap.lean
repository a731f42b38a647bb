/-! the law's wrappers -/
abbrev LCell (f : Nat → Int64) : AC := .inl (1, .inr (.inl f))
def LRet (r : Res) (code : String → Int32) (f : Nat → Int64) (h : AH) : AO → AH → Prop := NT (fun v h1 => match r with
  | .inl E => v = some (.int (code E)) ∧ h1 = h
  | .inr q => v = some (.int 0) ∧ Pm q.2 h1 ∧ h1[92]? = some (LCell (vp_updL f 0 q.1.toInt64)) ∧ ∀ i, 27 ≤ i → i ≠ 92 → h1[i]? = h[i]?)
def cd3 (a b : String) (E : String) : Int32 := if E = a then 1 else if E = b then 2 else 3
theorem LRet.no {r : Res} {code : String → Int32} {f : Nat → Int64} {h : AH} {E : String} {v : Int32} (e : r = .inl E) (hv : v = code E) : LRet r code f h (.inl (some (.int v))) h := by subst e; exact ⟨_, rfl, by rw [hv], rfl⟩
theorem LRet.yes {r : Res} {code : String → Int32} {f : Nat → Int64} {h h1 : AH} {q : Int32 × WS} (e : r = .inr q) (hp : Pm q.2 h1) (ho : Out 0 27 h h1) (hf : h1[92]? = some (LCell f)) : LRet r code f h (.inl (some (.int 0))) (h1.set 92 (LCell (vp_updL f 0 q.1.toInt64))) := by
  subst e
  refine ⟨_, rfl, rfl, ?_, gss hf, fun i hi hn => by rw [gsn (Ne.symm hn)]; exact ho.2 i (by omega)⟩
  obtain ⟨p1, p2, p3, φ, p4, p5⟩ := hp
  exact ⟨by rw [gsn (by omega)]; exact p1, p2.out (b := 92) (w := 1) (Out.rf.set (by omega) (by omega)) (by omega), p3, φ, p4.out (b := 92) (w := 1) (Out.rf.set (by omega) (by omega)) (by omega), p5⟩
section WRAP
variable {d : Nat} {σ : WS} {h : AH}
theorem no_aMould {σ : WS} {x y : Int32} {E : String} : aMould σ x y = .inl E → E = IAE ∨ E = ISE := by
  unfold aMould; intro q; (repeat' split at q) <;> first | (cases q; done) | (cases q; exact Or.inl rfl) | (cases q; exact Or.inr rfl)
set_option maxHeartbeats 1000000 in
theorem c_L_mould (x y : Int32) {f : Nat → Int64} (hp : Pm σ h) (hf : h[92]? = some (LCell f)) : Ct (d + 9) mL_mould 3 18 [.ref 0, .int x, .int y, .ref 92] h (LRet (aMould σ x y) (cd3 IAE ISE) f h) := by
  refine Ct.ofH (by decide +kernel) rfl (Nat.le_of_ble_eq_true rfl) ?_
  show WP (d + 9) mL_mould none 3 18 0 [.ref 0, .int x, .int y, .ref 92, vU] [] h _
  refine w_aload_n (pc := 0) (i := 3) dL_mould_0 rfl rfl ?_
  refine w_iconst (pc := 1) (v := 0) dL_mould_1 (by decide) ?_
  refine w_aload_n (pc := 2) (i := 0) dL_mould_2 rfl rfl ?_
  refine w_iload_n (pc := 3) (i := 1) dL_mould_3 rfl rfl ?_
  refine w_iload_n (pc := 4) (i := 2) dL_mould_4 rfl rfl ?_
  refine w_v (k1 := 3) (n1 := 18) (k2 := 0) (n2 := 0) (pc := 5) dL_mould_5 GL_7 hp.1 (c_X2_mould x y hp) rfl rfl rfl rfl rfl rfl (fun av h1 q => ?_) (fun E h1 q => ?_)
  · cases er : aMould σ x y with
    | inl E => rw [er] at q; cases q.1
    | inr r =>
      rw [er] at q
      obtain ⟨q1, q2, q3⟩ := q
      injection q1 with q4
      subst q4
      have hf1 : h1[92]? = some (LCell f) := (q3.2 92 (by omega)).trans hf
      show WP (d + 9) mL_mould none 0 0 8 [.ref 0, .int x, .int y, .ref 92, vU] [.int r.1, .int (nI 0), .ref 92] h1 _
      refine w_i2l (pc := 8) dL_mould_8 ?_
      refine w_last (pc := 9) dL_mould_9 hf1 (vp_in_nI (by omega) (by omega)) ?_
      refine w_goto (pc := 10) (tgt := 21) dL_mould_10 (by decide) ?_
      refine w_iconst (pc := 21) (v := 0) dL_mould_21 (by decide) ?_
      exact w_ireturn (pc := 22) dL_mould_22 ⟨_, rfl, rfl⟩ (LRet.yes rfl q2 q3 hf1)
  · cases er : aMould σ x y with
    | inr r => rw [er] at q; cases q.1
    | inl E1 =>
      rw [er] at q
      obtain ⟨q1, rfl⟩ := q
      injection q1 with q4
      subst q4
      rcases no_aMould er with rfl | rfl
      · refine x_catch (by decide) [] ⟨0, 10, 13, 13⟩ [⟨0, 10, 17, 15⟩] rfl (fun y hy => by cases hy) (by decide) (by decide) QL_13 ?_
        refine w_astore_x (pc := 13) (i := 4) (ls' := [.ref 0, .int x, .int y, .ref 92, vX]) dL_mould_13 (by decide) rfl rfl rfl ?_
        refine w_iconst (pc := 15) (v := 1) dL_mould_15 (by decide) ?_
        exact w_ireturn (pc := 16) dL_mould_16 ⟨_, rfl, rfl⟩ (LRet.no (E := IAE) rfl (by decide))
      · refine x_catch (by decide) [⟨0, 10, 13, 13⟩] ⟨0, 10, 17, 15⟩ [] rfl (fun y hy => by rw [List.mem_singleton.mp hy]; exact ⟨by decide, _, by decide, by decide, QL_13⟩) (by decide) (by decide) QL_15 ?_
        refine w_astore_x (pc := 17) (i := 4) (ls' := [.ref 0, .int x, .int y, .ref 92, vX]) dL_mould_17 (by decide) rfl rfl rfl ?_
        refine w_iconst (pc := 19) (v := 2) dL_mould_19 (by decide) ?_
        exact w_ireturn (pc := 20) dL_mould_20 ⟨_, rfl, rfl⟩ (LRet.no (E := ISE) rfl (by decide))
theorem no_aRefit {σ : WS} {x : Int32} {E : String} : aRefit σ x = .inl E → E = IOE ∨ E = ISE := by
  unfold aRefit; intro q; (repeat' split at q) <;> first | (cases q; done) | (cases q; exact Or.inl rfl) | (cases q; exact Or.inr rfl)
set_option maxHeartbeats 1000000 in
theorem c_L_refit (x : Int32) {f : Nat → Int64} (hp : Pm σ h) (hf : h[92]? = some (LCell f)) : Ct (d + 9) mL_refit 2 12 [.ref 0, .int x, .ref 92] h (LRet (aRefit σ x) (cd3 IOE ISE) f h) := by
  refine Ct.ofH (by decide +kernel) rfl (Nat.le_of_ble_eq_true rfl) ?_
  show WP (d + 9) mL_refit none 2 12 0 [.ref 0, .int x, .ref 92, vU] [] h _
  refine w_aload_n (pc := 0) (i := 2) dL_refit_0 rfl rfl ?_
  refine w_iconst (pc := 1) (v := 0) dL_refit_1 (by decide) ?_
  refine w_aload_n (pc := 2) (i := 0) dL_refit_2 rfl rfl ?_
  refine w_iload_n (pc := 3) (i := 1) dL_refit_3 rfl rfl ?_
  refine w_v (k1 := 2) (n1 := 12) (k2 := 0) (n2 := 0) (pc := 4) dL_refit_4 GL_17 hp.1 (c_X2_refit x hp) rfl rfl rfl rfl rfl rfl (fun av h1 q => ?_) (fun E h1 q => ?_)
  · cases er : aRefit σ x with
    | inl E => rw [er] at q; cases q.1
    | inr r =>
      rw [er] at q
      obtain ⟨q1, q2, q3⟩ := q
      injection q1 with q4
      subst q4
      have hf1 : h1[92]? = some (LCell f) := (q3.2 92 (by omega)).trans hf
      show WP (d + 9) mL_refit none 0 0 7 [.ref 0, .int x, .ref 92, vU] [.int r.1, .int (nI 0), .ref 92] h1 _
      refine w_i2l (pc := 7) dL_refit_7 ?_
      refine w_last (pc := 8) dL_refit_8 hf1 (vp_in_nI (by omega) (by omega)) ?_
      refine w_goto (pc := 9) (tgt := 18) dL_refit_9 (by decide) ?_
      refine w_iconst (pc := 18) (v := 0) dL_refit_18 (by decide) ?_
      exact w_ireturn (pc := 19) dL_refit_19 ⟨_, rfl, rfl⟩ (LRet.yes rfl q2 q3 hf1)
  · cases er : aRefit σ x with
    | inr r => rw [er] at q; cases q.1
    | inl E1 =>
      rw [er] at q
      obtain ⟨q1, rfl⟩ := q
      injection q1 with q4
      subst q4
      rcases no_aRefit er with rfl | rfl
      · refine x_catch (by decide) [] ⟨0, 9, 12, 21⟩ [⟨0, 9, 15, 15⟩] rfl (fun y hy => by cases hy) (by decide) (by decide) QL_21 ?_
        refine w_astore_x_n (pc := 12) (i := 3) (ls' := [.ref 0, .int x, .ref 92, vX]) dL_refit_12 rfl (by decide) rfl rfl rfl ?_
        refine w_iconst (pc := 13) (v := 1) dL_refit_13 (by decide) ?_
        exact w_ireturn (pc := 14) dL_refit_14 ⟨_, rfl, rfl⟩ (LRet.no (E := IOE) rfl (by decide))
      · refine x_catch (by decide) [⟨0, 9, 12, 21⟩] ⟨0, 9, 15, 15⟩ [] rfl (fun y hy => by rw [List.mem_singleton.mp hy]; exact ⟨by decide, _, by decide, by decide, QL_21⟩) (by decide) (by decide) QL_15 ?_
        refine w_astore_x_n (pc := 15) (i := 3) (ls' := [.ref 0, .int x, .ref 92, vX]) dL_refit_15 rfl (by decide) rfl rfl rfl ?_
        refine w_iconst (pc := 16) (v := 2) dL_refit_16 (by decide) ?_
        exact w_ireturn (pc := 17) dL_refit_17 ⟨_, rfl, rfl⟩ (LRet.no (E := ISE) rfl (by decide))
theorem no_aMaker {σ : WS} {x : Int32} {E : String} : aMaker σ x = .inl E → E = IAE ∨ E = ISE := by
  unfold aMaker; intro q; (repeat' split at q) <;> first | (cases q; done) | (cases q; exact Or.inl rfl) | (cases q; exact Or.inr rfl)
set_option maxHeartbeats 1000000 in
theorem c_L_maker (x : Int32) {f : Nat → Int64} (hp : Pm σ h) (hf : h[92]? = some (LCell f)) : Ct (d + 9) mL_maker 2 12 [.ref 0, .int x, .ref 92] h (LRet (aMaker σ x) (cd3 IAE ISE) f h) := by
  refine Ct.ofH (by decide +kernel) rfl (Nat.le_of_ble_eq_true rfl) ?_
  show WP (d + 9) mL_maker none 2 12 0 [.ref 0, .int x, .ref 92, vU] [] h _
  refine w_aload_n (pc := 0) (i := 2) dL_maker_0 rfl rfl ?_
  refine w_iconst (pc := 1) (v := 0) dL_maker_1 (by decide) ?_
  refine w_aload_n (pc := 2) (i := 0) dL_maker_2 rfl rfl ?_
  refine w_iload_n (pc := 3) (i := 1) dL_maker_3 rfl rfl ?_
  refine w_v (k1 := 2) (n1 := 12) (k2 := 0) (n2 := 0) (pc := 4) dL_maker_4 GL_23 hp.1 (c_X2_maker x hp) rfl rfl rfl rfl rfl rfl (fun av h1 q => ?_) (fun E h1 q => ?_)
  · cases er : aMaker σ x with
    | inl E => rw [er] at q; cases q.1
    | inr r =>
      rw [er] at q
      obtain ⟨q1, q2, q3⟩ := q
      injection q1 with q4
      subst q4
      have hf1 : h1[92]? = some (LCell f) := (q3.2 92 (by omega)).trans hf
      show WP (d + 9) mL_maker none 0 0 7 [.ref 0, .int x, .ref 92, vU] [.int r.1, .int (nI 0), .ref 92] h1 _
      refine w_i2l (pc := 7) dL_maker_7 ?_
      refine w_last (pc := 8) dL_maker_8 hf1 (vp_in_nI (by omega) (by omega)) ?_
      refine w_goto (pc := 9) (tgt := 18) dL_maker_9 (by decide) ?_
      refine w_iconst (pc := 18) (v := 0) dL_maker_18 (by decide) ?_
      exact w_ireturn (pc := 19) dL_maker_19 ⟨_, rfl, rfl⟩ (LRet.yes rfl q2 q3 hf1)
  · cases er : aMaker σ x with
    | inr r => rw [er] at q; cases q.1
    | inl E1 =>
      rw [er] at q
      obtain ⟨q1, rfl⟩ := q
      injection q1 with q4
      subst q4
      rcases no_aMaker er with rfl | rfl
      · refine x_catch (by decide) [] ⟨0, 9, 12, 13⟩ [⟨0, 9, 15, 15⟩] rfl (fun y hy => by cases hy) (by decide) (by decide) QL_13 ?_
        refine w_astore_x_n (pc := 12) (i := 3) (ls' := [.ref 0, .int x, .ref 92, vX]) dL_maker_12 rfl (by decide) rfl rfl rfl ?_
        refine w_iconst (pc := 13) (v := 1) dL_maker_13 (by decide) ?_
        exact w_ireturn (pc := 14) dL_maker_14 ⟨_, rfl, rfl⟩ (LRet.no (E := IAE) rfl (by decide))
      · refine x_catch (by decide) [⟨0, 9, 12, 13⟩] ⟨0, 9, 15, 15⟩ [] rfl (fun y hy => by rw [List.mem_singleton.mp hy]; exact ⟨by decide, _, by decide, by decide, QL_13⟩) (by decide) (by decide) QL_15 ?_
        refine w_astore_x_n (pc := 15) (i := 3) (ls' := [.ref 0, .int x, .ref 92, vX]) dL_maker_15 rfl (by decide) rfl rfl rfl ?_
        refine w_iconst (pc := 16) (v := 2) dL_maker_16 (by decide) ?_
        exact w_ireturn (pc := 17) dL_maker_17 ⟨_, rfl, rfl⟩ (LRet.no (E := ISE) rfl (by decide))
theorem no_aPlace {σ : WS} {x y : Int32} {E : String} : aPlace σ x y = .inl E → E = IOE ∨ E = ISE := by
  unfold aPlace; intro q; (repeat' split at q) <;> first | (cases q; done) | (cases q; exact Or.inl rfl) | (cases q; exact Or.inr rfl)
set_option maxHeartbeats 1000000 in
theorem c_L_place (x y : Int32) {f : Nat → Int64} (hp : Pm σ h) (hf : h[92]? = some (LCell f)) : Ct (d + 9) mL_place 3 18 [.ref 0, .int x, .int y, .ref 92] h (LRet (aPlace σ x y) (cd3 IOE ISE) f h) := by
  refine Ct.ofH (by decide +kernel) rfl (Nat.le_of_ble_eq_true rfl) ?_
  show WP (d + 9) mL_place none 3 18 0 [.ref 0, .int x, .int y, .ref 92, vU] [] h _
  refine w_aload_n (pc := 0) (i := 3) dL_place_0 rfl rfl ?_
  refine w_iconst (pc := 1) (v := 0) dL_place_1 (by decide) ?_
  refine w_aload_n (pc := 2) (i := 0) dL_place_2 rfl rfl ?_
  refine w_iload_n (pc := 3) (i := 1) dL_place_3 rfl rfl ?_
  refine w_iload_n (pc := 4) (i := 2) dL_place_4 rfl rfl ?_
  refine w_v (k1 := 3) (n1 := 18) (k2 := 0) (n2 := 0) (pc := 5) dL_place_5 GL_26 hp.1 (c_X2_place x y hp) rfl rfl rfl rfl rfl rfl (fun av h1 q => ?_) (fun E h1 q => ?_)
  · cases er : aPlace σ x y with
    | inl E => rw [er] at q; cases q.1
    | inr r =>
      rw [er] at q
      obtain ⟨q1, q2, q3⟩ := q
      injection q1 with q4
      subst q4
      have hf1 : h1[92]? = some (LCell f) := (q3.2 92 (by omega)).trans hf
      show WP (d + 9) mL_place none 0 0 8 [.ref 0, .int x, .int y, .ref 92, vU] [.int r.1, .int (nI 0), .ref 92] h1 _
      refine w_i2l (pc := 8) dL_place_8 ?_
      refine w_last (pc := 9) dL_place_9 hf1 (vp_in_nI (by omega) (by omega)) ?_
      refine w_goto (pc := 10) (tgt := 21) dL_place_10 (by decide) ?_
      refine w_iconst (pc := 21) (v := 0) dL_place_21 (by decide) ?_
      exact w_ireturn (pc := 22) dL_place_22 ⟨_, rfl, rfl⟩ (LRet.yes rfl q2 q3 hf1)
  · cases er : aPlace σ x y with
    | inr r => rw [er] at q; cases q.1
    | inl E1 =>
      rw [er] at q
      obtain ⟨q1, rfl⟩ := q
      injection q1 with q4
      subst q4
      rcases no_aPlace er with rfl | rfl
      · refine x_catch (by decide) [] ⟨0, 10, 13, 21⟩ [⟨0, 10, 17, 15⟩] rfl (fun y hy => by cases hy) (by decide) (by decide) QL_21 ?_
        refine w_astore_x (pc := 13) (i := 4) (ls' := [.ref 0, .int x, .int y, .ref 92, vX]) dL_place_13 (by decide) rfl rfl rfl ?_
        refine w_iconst (pc := 15) (v := 1) dL_place_15 (by decide) ?_
        exact w_ireturn (pc := 16) dL_place_16 ⟨_, rfl, rfl⟩ (LRet.no (E := IOE) rfl (by decide))
      · refine x_catch (by decide) [⟨0, 10, 13, 21⟩] ⟨0, 10, 17, 15⟩ [] rfl (fun y hy => by rw [List.mem_singleton.mp hy]; exact ⟨by decide, _, by decide, by decide, QL_21⟩) (by decide) (by decide) QL_15 ?_
        refine w_astore_x (pc := 17) (i := 4) (ls' := [.ref 0, .int x, .int y, .ref 92, vX]) dL_place_17 (by decide) rfl rfl rfl ?_
        refine w_iconst (pc := 19) (v := 2) dL_place_19 (by decide) ?_
        exact w_ireturn (pc := 20) dL_place_20 ⟨_, rfl, rfl⟩ (LRet.no (E := ISE) rfl (by decide))
theorem no_aBuy {σ : WS} {x y : Int32} {E : String} : aBuy σ x y = .inl E → E = IOE ∨ E = IAE ∨ E = ISE := by
  unfold aBuy; intro q; (repeat' split at q) <;> first | (cases q; done) | (cases q; exact Or.inl rfl) | (cases q; exact Or.inr (Or.inl rfl)) | (cases q; exact Or.inr (Or.inr rfl))
set_option maxHeartbeats 1000000 in
theorem c_L_buy (x y : Int32) {f : Nat → Int64} (hp : Pm σ h) (hf : h[92]? = some (LCell f)) : Ct (d + 9) mL_buy 3 18 [.ref 0, .int x, .int y, .ref 92] h (LRet (aBuy σ x y) (cd3 IOE IAE) f h) := by
  refine Ct.ofH (by decide +kernel) rfl (Nat.le_of_ble_eq_true rfl) ?_
  show WP (d + 9) mL_buy none 3 18 0 [.ref 0, .int x, .int y, .ref 92, vU] [] h _
  refine w_aload_n (pc := 0) (i := 3) dL_buy_0 rfl rfl ?_
  refine w_iconst (pc := 1) (v := 0) dL_buy_1 (by decide) ?_
  refine w_aload_n (pc := 2) (i := 0) dL_buy_2 rfl rfl ?_
  refine w_iload_n (pc := 3) (i := 1) dL_buy_3 rfl rfl ?_
  refine w_iload_n (pc := 4) (i := 2) dL_buy_4 rfl rfl ?_
  refine w_v (k1 := 3) (n1 := 18) (k2 := 0) (n2 := 0) (pc := 5) dL_buy_5 GL_29 hp.1 (c_X2_buy x y hp) rfl rfl rfl rfl rfl rfl (fun av h1 q => ?_) (fun E h1 q => ?_)
  · cases er : aBuy σ x y with
    | inl E => rw [er] at q; cases q.1
    | inr r =>
      rw [er] at q
      obtain ⟨q1, q2, q3⟩ := q
      injection q1 with q4
      subst q4
      have hf1 : h1[92]? = some (LCell f) := (q3.2 92 (by omega)).trans hf
      show WP (d + 9) mL_buy none 0 0 8 [.ref 0, .int x, .int y, .ref 92, vU] [.int r.1, .int (nI 0), .ref 92] h1 _
      refine w_i2l (pc := 8) dL_buy_8 ?_
      refine w_last (pc := 9) dL_buy_9 hf1 (vp_in_nI (by omega) (by omega)) ?_
      refine w_goto (pc := 10) (tgt := 25) dL_buy_10 (by decide) ?_
      refine w_iconst (pc := 25) (v := 0) dL_buy_25 (by decide) ?_
      exact w_ireturn (pc := 26) dL_buy_26 ⟨_, rfl, rfl⟩ (LRet.yes rfl q2 q3 hf1)
  · cases er : aBuy σ x y with
    | inr r => rw [er] at q; cases q.1
    | inl E1 =>
      rw [er] at q
      obtain ⟨q1, rfl⟩ := q
      injection q1 with q4
      subst q4
      rcases no_aBuy er with rfl | rfl | rfl
      · refine x_catch (by decide) [] ⟨0, 10, 13, 21⟩ [⟨0, 10, 17, 13⟩, ⟨0, 10, 21, 15⟩] rfl (fun y hy => by cases hy) (by decide) (by decide) QL_21 ?_
        refine w_astore_x (pc := 13) (i := 4) (ls' := [.ref 0, .int x, .int y, .ref 92, vX]) dL_buy_13 (by decide) rfl rfl rfl ?_
        refine w_iconst (pc := 15) (v := 1) dL_buy_15 (by decide) ?_
        exact w_ireturn (pc := 16) dL_buy_16 ⟨_, rfl, rfl⟩ (LRet.no (E := IOE) rfl (by decide))
      · refine x_catch (by decide) [⟨0, 10, 13, 21⟩] ⟨0, 10, 17, 13⟩ [⟨0, 10, 21, 15⟩] rfl (fun y hy => by rw [List.mem_singleton.mp hy]; exact ⟨by decide, _, by decide, by decide, QL_21⟩) (by decide) (by decide) QL_13 ?_
        refine w_astore_x (pc := 17) (i := 4) (ls' := [.ref 0, .int x, .int y, .ref 92, vX]) dL_buy_17 (by decide) rfl rfl rfl ?_
        refine w_iconst (pc := 19) (v := 2) dL_buy_19 (by decide) ?_
        exact w_ireturn (pc := 20) dL_buy_20 ⟨_, rfl, rfl⟩ (LRet.no (E := IAE) rfl (by decide))
      · refine x_catch (by decide) [⟨0, 10, 13, 21⟩, ⟨0, 10, 17, 13⟩] ⟨0, 10, 21, 15⟩ [] rfl (fun y hy => by rcases List.mem_cons.mp hy with e | hy; (rw [e]; exact ⟨by decide, _, by decide, by decide, QL_21⟩); (rw [List.mem_singleton.mp hy]; exact ⟨by decide, _, by decide, by decide, QL_13⟩)) (by decide) (by decide) QL_15 ?_
        refine w_astore_x (pc := 21) (i := 4) (ls' := [.ref 0, .int x, .int y, .ref 92, vX]) dL_buy_21 (by decide) rfl rfl rfl ?_
        refine w_iconst (pc := 23) (v := 3) dL_buy_23 (by decide) ?_
        exact w_ireturn (pc := 24) dL_buy_24 ⟨_, rfl, rfl⟩ (LRet.no (E := ISE) rfl (by decide))
theorem no_aSetDry {σ : WS} {x y : Int32} {E : String} : aSetDry σ x y = .inl E → E = IOE ∨ E = IAE := by
  unfold aSetDry; intro q; (repeat' split at q) <;> first | (cases q; done) | (cases q; exact Or.inl rfl) | (cases q; exact Or.inr rfl)
set_option maxHeartbeats 1000000 in
theorem c_L_setDry (x y : Int32) {f : Nat → Int64} (hp : Pm σ h) (hf : h[92]? = some (LCell f)) : Ct (d + 9) mL_setDry 2 12 [.ref 0, .int x, .int y, .ref 92] h (LRet (aSetDry σ x y) (cd3 IOE IAE) f h) := by
  refine Ct.ofH (by decide +kernel) rfl (Nat.le_of_ble_eq_true rfl) ?_
  show WP (d + 9) mL_setDry none 2 12 0 [.ref 0, .int x, .int y, .ref 92, vU] [] h _
  refine w_aload_n (pc := 0) (i := 3) dL_setDry_0 rfl rfl ?_
  refine w_iconst (pc := 1) (v := 0) dL_setDry_1 (by decide) ?_
  refine w_aload_n (pc := 2) (i := 0) dL_setDry_2 rfl rfl ?_
  refine w_iload_n (pc := 3) (i := 1) dL_setDry_3 rfl rfl ?_
  refine w_iload_n (pc := 4) (i := 2) dL_setDry_4 rfl rfl ?_
  refine w_v (k1 := 2) (n1 := 12) (k2 := 0) (n2 := 0) (pc := 5) dL_setDry_5 GL_32 hp.1 (c_X2_setDry x y hp) rfl rfl rfl rfl rfl rfl (fun av h1 q => ?_) (fun E h1 q => ?_)
  · cases er : aSetDry σ x y with
    | inl E => rw [er] at q; cases q.1
    | inr r =>
      rw [er] at q
      obtain ⟨q1, q2, q3⟩ := q
      injection q1 with q4
      subst q4
      have hf1 : h1[92]? = some (LCell f) := (q3.2 92 (by omega)).trans hf
      show WP (d + 9) mL_setDry none 0 0 8 [.ref 0, .int x, .int y, .ref 92, vU] [.int r.1, .int (nI 0), .ref 92] h1 _
      refine w_i2l (pc := 8) dL_setDry_8 ?_
      refine w_last (pc := 9) dL_setDry_9 hf1 (vp_in_nI (by omega) (by omega)) ?_
      refine w_goto (pc := 10) (tgt := 21) dL_setDry_10 (by decide) ?_
      refine w_iconst (pc := 21) (v := 0) dL_setDry_21 (by decide) ?_
      exact w_ireturn (pc := 22) dL_setDry_22 ⟨_, rfl, rfl⟩ (LRet.yes rfl q2 q3 hf1)
  · cases er : aSetDry σ x y with
    | inr r => rw [er] at q; cases q.1
    | inl E1 =>
      rw [er] at q
      obtain ⟨q1, rfl⟩ := q
      injection q1 with q4
      subst q4
      rcases no_aSetDry er with rfl | rfl
      · refine x_catch (by decide) [] ⟨0, 10, 13, 21⟩ [⟨0, 10, 17, 13⟩] rfl (fun y hy => by cases hy) (by decide) (by decide) QL_21 ?_
        refine w_astore_x (pc := 13) (i := 4) (ls' := [.ref 0, .int x, .int y, .ref 92, vX]) dL_setDry_13 (by decide) rfl rfl rfl ?_
        refine w_iconst (pc := 15) (v := 1) dL_setDry_15 (by decide) ?_
        exact w_ireturn (pc := 16) dL_setDry_16 ⟨_, rfl, rfl⟩ (LRet.no (E := IOE) rfl (by decide))
      · refine x_catch (by decide) [⟨0, 10, 13, 21⟩] ⟨0, 10, 17, 13⟩ [] rfl (fun y hy => by rw [List.mem_singleton.mp hy]; exact ⟨by decide, _, by decide, by decide, QL_21⟩) (by decide) (by decide) QL_13 ?_
        refine w_astore_x (pc := 17) (i := 4) (ls' := [.ref 0, .int x, .int y, .ref 92, vX]) dL_setDry_17 (by decide) rfl rfl rfl ?_
        refine w_iconst (pc := 19) (v := 2) dL_setDry_19 (by decide) ?_
        exact w_ireturn (pc := 20) dL_setDry_20 ⟨_, rfl, rfl⟩ (LRet.no (E := IAE) rfl (by decide))
theorem no_aPack {σ : WS} {x y u : Int32} {E : String} : aPack σ x y u = .inl E → E = IOE ∨ E = IAE ∨ E = ISE := by
  unfold aPack; intro q; (repeat' split at q) <;> first | (cases q; done) | (cases q; exact Or.inl rfl) | (cases q; exact Or.inr (Or.inl rfl)) | (cases q; exact Or.inr (Or.inr rfl))
set_option maxHeartbeats 1000000 in
theorem c_L_pack (x y u : Int32) {f : Nat → Int64} (hp : Pm σ h) (hf : h[92]? = some (LCell f)) : Ct (d + 9) mL_pack 5 30 [.ref 0, .int x, .int y, .int u, .ref 92] h (LRet (aPack σ x y u) (cd3 IOE IAE) f h) := by
  refine Ct.ofH (by decide +kernel) rfl (Nat.le_of_ble_eq_true rfl) ?_
  show WP (d + 9) mL_pack none 5 30 0 [.ref 0, .int x, .int y, .int u, .ref 92, vU] [] h _
  refine w_aload (pc := 0) (i := 4) dL_pack_0 rfl ?_
  refine w_iconst (pc := 2) (v := 0) dL_pack_2 (by decide) ?_
  refine w_aload_n (pc := 3) (i := 0) dL_pack_3 rfl rfl ?_
  refine w_iload_n (pc := 4) (i := 1) dL_pack_4 rfl rfl ?_
  refine w_iload_n (pc := 5) (i := 2) dL_pack_5 rfl rfl ?_
  refine w_iload_n (pc := 6) (i := 3) dL_pack_6 rfl rfl ?_
  refine w_v (k1 := 5) (n1 := 30) (k2 := 0) (n2 := 0) (pc := 7) dL_pack_7 GL_35 hp.1 (c_X2_pack x y u hp) rfl rfl rfl rfl rfl rfl (fun av h1 q => ?_) (fun E h1 q => ?_)
  · cases er : aPack σ x y u with
    | inl E => rw [er] at q; cases q.1
    | inr r =>
      rw [er] at q
      obtain ⟨q1, q2, q3⟩ := q
      injection q1 with q4
      subst q4
      have hf1 : h1[92]? = some (LCell f) := (q3.2 92 (by omega)).trans hf
      show WP (d + 9) mL_pack none 0 0 10 [.ref 0, .int x, .int y, .int u, .ref 92, vU] [.int r.1, .int (nI 0), .ref 92] h1 _
      refine w_i2l (pc := 10) dL_pack_10 ?_
      refine w_last (pc := 11) dL_pack_11 hf1 (vp_in_nI (by omega) (by omega)) ?_
      refine w_goto (pc := 12) (tgt := 27) dL_pack_12 (by decide) ?_
      refine w_iconst (pc := 27) (v := 0) dL_pack_27 (by decide) ?_
      exact w_ireturn (pc := 28) dL_pack_28 ⟨_, rfl, rfl⟩ (LRet.yes rfl q2 q3 hf1)
  · cases er : aPack σ x y u with
    | inr r => rw [er] at q; cases q.1
    | inl E1 =>
      rw [er] at q
      obtain ⟨q1, rfl⟩ := q
      injection q1 with q4
      subst q4
      rcases no_aPack er with rfl | rfl | rfl
      · refine x_catch (by decide) [] ⟨0, 12, 15, 21⟩ [⟨0, 12, 19, 13⟩, ⟨0, 12, 23, 15⟩] rfl (fun y hy => by cases hy) (by decide) (by decide) QL_21 ?_
        refine w_astore_x (pc := 15) (i := 5) (ls' := [.ref 0, .int x, .int y, .int u, .ref 92, vX]) dL_pack_15 (by decide) rfl rfl rfl ?_
        refine w_iconst (pc := 17) (v := 1) dL_pack_17 (by decide) ?_
        exact w_ireturn (pc := 18) dL_pack_18 ⟨_, rfl, rfl⟩ (LRet.no (E := IOE) rfl (by decide))
      · refine x_catch (by decide) [⟨0, 12, 15, 21⟩] ⟨0, 12, 19, 13⟩ [⟨0, 12, 23, 15⟩] rfl (fun y hy => by rw [List.mem_singleton.mp hy]; exact ⟨by decide, _, by decide, by decide, QL_21⟩) (by decide) (by decide) QL_13 ?_
        refine w_astore_x (pc := 19) (i := 5) (ls' := [.ref 0, .int x, .int y, .int u, .ref 92, vX]) dL_pack_19 (by decide) rfl rfl rfl ?_
        refine w_iconst (pc := 21) (v := 2) dL_pack_21 (by decide) ?_
        exact w_ireturn (pc := 22) dL_pack_22 ⟨_, rfl, rfl⟩ (LRet.no (E := IAE) rfl (by decide))
      · refine x_catch (by decide) [⟨0, 12, 15, 21⟩, ⟨0, 12, 19, 13⟩] ⟨0, 12, 23, 15⟩ [] rfl (fun y hy => by rcases List.mem_cons.mp hy with e | hy; (rw [e]; exact ⟨by decide, _, by decide, by decide, QL_21⟩); (rw [List.mem_singleton.mp hy]; exact ⟨by decide, _, by decide, by decide, QL_13⟩)) (by decide) (by decide) QL_15 ?_
        refine w_astore_x (pc := 23) (i := 5) (ls' := [.ref 0, .int x, .int y, .int u, .ref 92, vX]) dL_pack_23 (by decide) rfl rfl rfl ?_
        refine w_iconst (pc := 25) (v := 3) dL_pack_25 (by decide) ?_
        exact w_ireturn (pc := 26) dL_pack_26 ⟨_, rfl, rfl⟩ (LRet.no (E := ISE) rfl (by decide))
theorem no_aFire {σ : WS} {x : Int32} {E : String} : aFire σ x = .inl E → E = IAE ∨ E = ISE := by
  unfold aFire; intro q; (repeat' split at q) <;> first | (cases q; done) | (cases q; exact Or.inl rfl) | (cases q; exact Or.inr rfl)
set_option maxHeartbeats 1000000 in
theorem c_L_fire (x : Int32) {f : Nat → Int64} (hp : Pm σ h) (hf : h[92]? = some (LCell f)) : Ct (d + 9) mL_fire 2 12 [.ref 0, .int x, .ref 92] h (LRet (aFire σ x) (cd3 IAE ISE) f h) := by
  refine Ct.ofH (by decide +kernel) rfl (Nat.le_of_ble_eq_true rfl) ?_
  show WP (d + 9) mL_fire none 2 12 0 [.ref 0, .int x, .ref 92, vU] [] h _
  refine w_aload_n (pc := 0) (i := 2) dL_fire_0 rfl rfl ?_
  refine w_iconst (pc := 1) (v := 0) dL_fire_1 (by decide) ?_
  refine w_aload_n (pc := 2) (i := 0) dL_fire_2 rfl rfl ?_
  refine w_iload_n (pc := 3) (i := 1) dL_fire_3 rfl rfl ?_
  refine w_v (k1 := 2) (n1 := 12) (k2 := 0) (n2 := 0) (pc := 4) dL_fire_4 GL_39 hp.1 (c_X2_fire x hp) rfl rfl rfl rfl rfl rfl (fun av h1 q => ?_) (fun E h1 q => ?_)
  · cases er : aFire σ x with
    | inl E => rw [er] at q; cases q.1
    | inr r =>
      rw [er] at q
      obtain ⟨q1, q2, q3⟩ := q
      injection q1 with q4
      subst q4
      have hf1 : h1[92]? = some (LCell f) := (q3.2 92 (by omega)).trans hf
      show WP (d + 9) mL_fire none 0 0 7 [.ref 0, .int x, .ref 92, vU] [.int r.1, .int (nI 0), .ref 92] h1 _
      refine w_i2l (pc := 7) dL_fire_7 ?_
      refine w_last (pc := 8) dL_fire_8 hf1 (vp_in_nI (by omega) (by omega)) ?_
      refine w_goto (pc := 9) (tgt := 18) dL_fire_9 (by decide) ?_
      refine w_iconst (pc := 18) (v := 0) dL_fire_18 (by decide) ?_
      exact w_ireturn (pc := 19) dL_fire_19 ⟨_, rfl, rfl⟩ (LRet.yes rfl q2 q3 hf1)
  · cases er : aFire σ x with
    | inr r => rw [er] at q; cases q.1
    | inl E1 =>
      rw [er] at q
      obtain ⟨q1, rfl⟩ := q
      injection q1 with q4
      subst q4
      rcases no_aFire er with rfl | rfl
      · refine x_catch (by decide) [] ⟨0, 9, 12, 13⟩ [⟨0, 9, 15, 15⟩] rfl (fun y hy => by cases hy) (by decide) (by decide) QL_13 ?_
        refine w_astore_x_n (pc := 12) (i := 3) (ls' := [.ref 0, .int x, .ref 92, vX]) dL_fire_12 rfl (by decide) rfl rfl rfl ?_
        refine w_iconst (pc := 13) (v := 1) dL_fire_13 (by decide) ?_
        exact w_ireturn (pc := 14) dL_fire_14 ⟨_, rfl, rfl⟩ (LRet.no (E := IAE) rfl (by decide))
      · refine x_catch (by decide) [⟨0, 9, 12, 13⟩] ⟨0, 9, 15, 15⟩ [] rfl (fun y hy => by rw [List.mem_singleton.mp hy]; exact ⟨by decide, _, by decide, by decide, QL_13⟩) (by decide) (by decide) QL_15 ?_
        refine w_astore_x_n (pc := 15) (i := 3) (ls' := [.ref 0, .int x, .ref 92, vX]) dL_fire_15 rfl (by decide) rfl rfl rfl ?_
        refine w_iconst (pc := 16) (v := 2) dL_fire_16 (by decide) ?_
        exact w_ireturn (pc := 17) dL_fire_17 ⟨_, rfl, rfl⟩ (LRet.no (E := ISE) rfl (by decide))
theorem no_aOrder {σ : WS} {x y u o : Int32} {E : String} : aOrder σ x y u o = .inl E → E = IAE ∨ E = ISE := by
  unfold aOrder; intro q; (repeat' split at q) <;> first | (cases q; done) | (cases q; exact Or.inl rfl) | (cases q; exact Or.inr rfl)
set_option maxHeartbeats 1000000 in
theorem c_L_order (x y u o : Int32) {f : Nat → Int64} (hp : Pm σ h) (hf : h[92]? = some (LCell f)) : Ct (d + 9) mL_order 5 30 [.ref 0, .int x, .int y, .int u, .int o, .ref 92] h (LRet (aOrder σ x y u o) (cd3 IAE ISE) f h) := by
  refine Ct.ofH (by decide +kernel) rfl (Nat.le_of_ble_eq_true rfl) ?_
  show WP (d + 9) mL_order none 5 30 0 [.ref 0, .int x, .int y, .int u, .int o, .ref 92, vU] [] h _
  refine w_aload (pc := 0) (i := 5) dL_order_0 rfl ?_
  refine w_iconst (pc := 2) (v := 0) dL_order_2 (by decide) ?_
  refine w_aload_n (pc := 3) (i := 0) dL_order_3 rfl rfl ?_
  refine w_iload_n (pc := 4) (i := 1) dL_order_4 rfl rfl ?_
  refine w_iload_n (pc := 5) (i := 2) dL_order_5 rfl rfl ?_
  refine w_iload_n (pc := 6) (i := 3) dL_order_6 rfl rfl ?_
  refine w_iload (pc := 7) (i := 4) dL_order_7 rfl ?_
  refine w_v (k1 := 5) (n1 := 30) (k2 := 0) (n2 := 0) (pc := 9) dL_order_9 GL_42 hp.1 (c_X2_order x y u o hp) rfl rfl rfl rfl rfl rfl (fun av h1 q => ?_) (fun E h1 q => ?_)
  · cases er : aOrder σ x y u o with
    | inl E => rw [er] at q; cases q.1
    | inr r =>
      rw [er] at q
      obtain ⟨q1, q2, q3⟩ := q
      injection q1 with q4
      subst q4
      have hf1 : h1[92]? = some (LCell f) := (q3.2 92 (by omega)).trans hf
      show WP (d + 9) mL_order none 0 0 12 [.ref 0, .int x, .int y, .int u, .int o, .ref 92, vU] [.int r.1, .int (nI 0), .ref 92] h1 _
      refine w_i2l (pc := 12) dL_order_12 ?_
      refine w_last (pc := 13) dL_order_13 hf1 (vp_in_nI (by omega) (by omega)) ?_
      refine w_goto (pc := 14) (tgt := 25) dL_order_14 (by decide) ?_
      refine w_iconst (pc := 25) (v := 0) dL_order_25 (by decide) ?_
      exact w_ireturn (pc := 26) dL_order_26 ⟨_, rfl, rfl⟩ (LRet.yes rfl q2 q3 hf1)
  · cases er : aOrder σ x y u o with
    | inr r => rw [er] at q; cases q.1
    | inl E1 =>
      rw [er] at q
      obtain ⟨q1, rfl⟩ := q
      injection q1 with q4
      subst q4
      rcases no_aOrder er with rfl | rfl
      · refine x_catch (by decide) [] ⟨0, 14, 17, 13⟩ [⟨0, 14, 21, 15⟩] rfl (fun y hy => by cases hy) (by decide) (by decide) QL_13 ?_
        refine w_astore_x (pc := 17) (i := 6) (ls' := [.ref 0, .int x, .int y, .int u, .int o, .ref 92, vX]) dL_order_17 (by decide) rfl rfl rfl ?_
        refine w_iconst (pc := 19) (v := 1) dL_order_19 (by decide) ?_
        exact w_ireturn (pc := 20) dL_order_20 ⟨_, rfl, rfl⟩ (LRet.no (E := IAE) rfl (by decide))
      · refine x_catch (by decide) [⟨0, 14, 17, 13⟩] ⟨0, 14, 21, 15⟩ [] rfl (fun y hy => by rw [List.mem_singleton.mp hy]; exact ⟨by decide, _, by decide, by decide, QL_13⟩) (by decide) (by decide) QL_15 ?_
        refine w_astore_x (pc := 21) (i := 6) (ls' := [.ref 0, .int x, .int y, .int u, .int o, .ref 92, vX]) dL_order_21 (by decide) rfl rfl rfl ?_
        refine w_iconst (pc := 23) (v := 2) dL_order_23 (by decide) ?_
        exact w_ireturn (pc := 24) dL_order_24 ⟨_, rfl, rfl⟩ (LRet.no (E := ISE) rfl (by decide))
theorem no_aAbout {σ : WS} {x y : Int32} {E : String} : aAbout σ x y = .inl E → E = IOE := by
  unfold aAbout; intro q; (repeat' split at q) <;> first | (cases q; done) | (cases q; exact rfl)
set_option maxHeartbeats 1000000 in
theorem c_L_about (x y : Int32) {f : Nat → Int64} (hp : Pm σ h) (hf : h[92]? = some (LCell f)) : Ct (d + 9) mL_about 2 12 [.ref 0, .int x, .int y, .ref 92] h (LRet (aAbout σ x y) (cd3 IOE IOE) f h) := by
  refine Ct.ofH (by decide +kernel) rfl (Nat.le_of_ble_eq_true rfl) ?_
  show WP (d + 9) mL_about none 2 12 0 [.ref 0, .int x, .int y, .ref 92, vU] [] h _
  refine w_aload_n (pc := 0) (i := 3) dL_about_0 rfl rfl ?_
  refine w_iconst (pc := 1) (v := 0) dL_about_1 (by decide) ?_
  refine w_aload_n (pc := 2) (i := 0) dL_about_2 rfl rfl ?_
  refine w_iload_n (pc := 3) (i := 1) dL_about_3 rfl rfl ?_
  refine w_iload_n (pc := 4) (i := 2) dL_about_4 rfl rfl ?_
  refine w_v (k1 := 2) (n1 := 12) (k2 := 0) (n2 := 0) (pc := 5) dL_about_5 GL_46 hp.1 (c_X2_about x y hp) rfl rfl rfl rfl rfl rfl (fun av h1 q => ?_) (fun E h1 q => ?_)
  · cases er : aAbout σ x y with
    | inl E => rw [er] at q; cases q.1
    | inr r =>
      rw [er] at q
      obtain ⟨q1, q2, q3⟩ := q
      injection q1 with q4
      subst q4
      have hf1 : h1[92]? = some (LCell f) := (q3.2 92 (by omega)).trans hf
      show WP (d + 9) mL_about none 0 0 8 [.ref 0, .int x, .int y, .ref 92, vU] [.int r.1, .int (nI 0), .ref 92] h1 _
      refine w_i2l (pc := 8) dL_about_8 ?_
      refine w_last (pc := 9) dL_about_9 hf1 (vp_in_nI (by omega) (by omega)) ?_
      refine w_goto (pc := 10) (tgt := 17) dL_about_10 (by decide) ?_
      refine w_iconst (pc := 17) (v := 0) dL_about_17 (by decide) ?_
      exact w_ireturn (pc := 18) dL_about_18 ⟨_, rfl, rfl⟩ (LRet.yes rfl q2 q3 hf1)
  · cases er : aAbout σ x y with
    | inr r => rw [er] at q; cases q.1
    | inl E1 =>
      rw [er] at q
      obtain ⟨q1, rfl⟩ := q
      injection q1 with q4
      subst q4
      rcases no_aAbout er with rfl
      · refine x_catch (by decide) [] ⟨0, 10, 13, 21⟩ [] rfl (fun y hy => by cases hy) (by decide) (by decide) QL_21 ?_
        refine w_astore_x (pc := 13) (i := 4) (ls' := [.ref 0, .int x, .int y, .ref 92, vX]) dL_about_13 (by decide) rfl rfl rfl ?_
        refine w_iconst (pc := 15) (v := 1) dL_about_15 (by decide) ?_
        exact w_ireturn (pc := 16) dL_about_16 ⟨_, rfl, rfl⟩ (LRet.no (E := IOE) rfl (by decide))
theorem no_aCellR {f : Nat → Int32} {cols rows : Nat} {x y : Int32} {σ : WS} {E : String} : aCellR f cols rows x y σ = .inl E → E = IOE := by
  unfold aCellR; intro q; split at q
  · cases q; rfl
  · cases q
set_option maxHeartbeats 1000000 in
theorem c_L_told (x y : Int32) {f : Nat → Int64} (hp : Pm σ h) (hf : h[92]? = some (LCell f)) : Ct (d + 9) mL_told 2 12 [.ref 0, .int x, .int y, .ref 92] h (LRet (aCellR (σ.1 1) 2 (σ.2.1 1) x y σ) (cd3 IOE IOE) f h) := by
  refine Ct.ofH (by decide +kernel) rfl (Nat.le_of_ble_eq_true rfl) ?_
  show WP (d + 9) mL_told none 2 12 0 [.ref 0, .int x, .int y, .ref 92, vU] [] h _
  refine w_aload_n (pc := 0) (i := 3) dL_told_0 rfl rfl ?_
  refine w_iconst (pc := 1) (v := 0) dL_told_1 (by decide) ?_
  refine w_aload_n (pc := 2) (i := 0) dL_told_2 rfl rfl ?_
  refine w_iload_n (pc := 3) (i := 1) dL_told_3 rfl rfl ?_
  refine w_iload_n (pc := 4) (i := 2) dL_told_4 rfl rfl ?_
  refine w_v (k1 := 2) (n1 := 12) (k2 := 0) (n2 := 0) (pc := 5) dL_told_5 GL_49 hp.1 (c_X2_told x y hp) rfl rfl rfl rfl rfl rfl (fun av h1 q => ?_) (fun E h1 q => ?_)
  · cases er : aCellR (σ.1 1) 2 (σ.2.1 1) x y σ with
    | inl E => rw [er] at q; cases q.1
    | inr r =>
      rw [er] at q
      obtain ⟨q1, q2, q3⟩ := q
      injection q1 with q4
      subst q4
      have hf1 : h1[92]? = some (LCell f) := (q3.2 92 (by omega)).trans hf
      show WP (d + 9) mL_told none 0 0 8 [.ref 0, .int x, .int y, .ref 92, vU] [.int r.1, .int (nI 0), .ref 92] h1 _
      refine w_i2l (pc := 8) dL_told_8 ?_
      refine w_last (pc := 9) dL_told_9 hf1 (vp_in_nI (by omega) (by omega)) ?_
      refine w_goto (pc := 10) (tgt := 17) dL_told_10 (by decide) ?_
      refine w_iconst (pc := 17) (v := 0) dL_told_17 (by decide) ?_
      exact w_ireturn (pc := 18) dL_told_18 ⟨_, rfl, rfl⟩ (LRet.yes rfl q2 q3 hf1)
  · cases er : aCellR (σ.1 1) 2 (σ.2.1 1) x y σ with
    | inr r => rw [er] at q; cases q.1
    | inl E1 =>
      rw [er] at q
      obtain ⟨q1, rfl⟩ := q
      injection q1 with q4
      subst q4
      rcases no_aCellR er with rfl
      · refine x_catch (by decide) [] ⟨0, 10, 13, 21⟩ [] rfl (fun y hy => by cases hy) (by decide) (by decide) QL_21 ?_
        refine w_astore_x (pc := 13) (i := 4) (ls' := [.ref 0, .int x, .int y, .ref 92, vX]) dL_told_13 (by decide) rfl rfl rfl ?_
        refine w_iconst (pc := 15) (v := 1) dL_told_15 (by decide) ?_
        exact w_ireturn (pc := 16) dL_told_16 ⟨_, rfl, rfl⟩ (LRet.no (E := IOE) rfl (by decide))
set_option maxHeartbeats 1000000 in
theorem c_L_batch (x y : Int32) {f : Nat → Int64} (hp : Pm σ h) (hf : h[92]? = some (LCell f)) : Ct (d + 9) mL_batch 2 12 [.ref 0, .int x, .int y, .ref 92] h (LRet (aCellR (σ.1 2) 4 (σ.2.1 2) x y σ) (cd3 IOE IOE) f h) := by
  refine Ct.ofH (by decide +kernel) rfl (Nat.le_of_ble_eq_true rfl) ?_
  show WP (d + 9) mL_batch none 2 12 0 [.ref 0, .int x, .int y, .ref 92, vU] [] h _
  refine w_aload_n (pc := 0) (i := 3) dL_batch_0 rfl rfl ?_
  refine w_iconst (pc := 1) (v := 0) dL_batch_1 (by decide) ?_
  refine w_aload_n (pc := 2) (i := 0) dL_batch_2 rfl rfl ?_
  refine w_iload_n (pc := 3) (i := 1) dL_batch_3 rfl rfl ?_
  refine w_iload_n (pc := 4) (i := 2) dL_batch_4 rfl rfl ?_
  refine w_v (k1 := 2) (n1 := 12) (k2 := 0) (n2 := 0) (pc := 5) dL_batch_5 GL_52 hp.1 (c_X2_batch x y hp) rfl rfl rfl rfl rfl rfl (fun av h1 q => ?_) (fun E h1 q => ?_)
  · cases er : aCellR (σ.1 2) 4 (σ.2.1 2) x y σ with
    | inl E => rw [er] at q; cases q.1
    | inr r =>
      rw [er] at q
      obtain ⟨q1, q2, q3⟩ := q
      injection q1 with q4
      subst q4
      have hf1 : h1[92]? = some (LCell f) := (q3.2 92 (by omega)).trans hf
      show WP (d + 9) mL_batch none 0 0 8 [.ref 0, .int x, .int y, .ref 92, vU] [.int r.1, .int (nI 0), .ref 92] h1 _
      refine w_i2l (pc := 8) dL_batch_8 ?_
      refine w_last (pc := 9) dL_batch_9 hf1 (vp_in_nI (by omega) (by omega)) ?_
      refine w_goto (pc := 10) (tgt := 17) dL_batch_10 (by decide) ?_
      refine w_iconst (pc := 17) (v := 0) dL_batch_17 (by decide) ?_
      exact w_ireturn (pc := 18) dL_batch_18 ⟨_, rfl, rfl⟩ (LRet.yes rfl q2 q3 hf1)
  · cases er : aCellR (σ.1 2) 4 (σ.2.1 2) x y σ with
    | inr r => rw [er] at q; cases q.1
    | inl E1 =>
      rw [er] at q
      obtain ⟨q1, rfl⟩ := q
      injection q1 with q4
      subst q4
      rcases no_aCellR er with rfl
      · refine x_catch (by decide) [] ⟨0, 10, 13, 21⟩ [] rfl (fun y hy => by cases hy) (by decide) (by decide) QL_21 ?_
        refine w_astore_x (pc := 13) (i := 4) (ls' := [.ref 0, .int x, .int y, .ref 92, vX]) dL_batch_13 (by decide) rfl rfl rfl ?_
        refine w_iconst (pc := 15) (v := 1) dL_batch_15 (by decide) ?_
        exact w_ireturn (pc := 16) dL_batch_16 ⟨_, rfl, rfl⟩ (LRet.no (E := IOE) rfl (by decide))
set_option maxHeartbeats 1000000 in
theorem c_L_saggar (x y : Int32) {f : Nat → Int64} (hp : Pm σ h) (hf : h[92]? = some (LCell f)) : Ct (d + 9) mL_saggar 2 12 [.ref 0, .int x, .int y, .ref 92] h (LRet (aCellR (σ.1 3) 4 (σ.2.1 3) x y σ) (cd3 IOE IOE) f h) := by
  refine Ct.ofH (by decide +kernel) rfl (Nat.le_of_ble_eq_true rfl) ?_
  show WP (d + 9) mL_saggar none 2 12 0 [.ref 0, .int x, .int y, .ref 92, vU] [] h _
  refine w_aload_n (pc := 0) (i := 3) dL_saggar_0 rfl rfl ?_
  refine w_iconst (pc := 1) (v := 0) dL_saggar_1 (by decide) ?_
  refine w_aload_n (pc := 2) (i := 0) dL_saggar_2 rfl rfl ?_
  refine w_iload_n (pc := 3) (i := 1) dL_saggar_3 rfl rfl ?_
  refine w_iload_n (pc := 4) (i := 2) dL_saggar_4 rfl rfl ?_
  refine w_v (k1 := 2) (n1 := 12) (k2 := 0) (n2 := 0) (pc := 5) dL_saggar_5 GL_55 hp.1 (c_X2_saggar x y hp) rfl rfl rfl rfl rfl rfl (fun av h1 q => ?_) (fun E h1 q => ?_)
  · cases er : aCellR (σ.1 3) 4 (σ.2.1 3) x y σ with
    | inl E => rw [er] at q; cases q.1
    | inr r =>
      rw [er] at q
      obtain ⟨q1, q2, q3⟩ := q
      injection q1 with q4
      subst q4
      have hf1 : h1[92]? = some (LCell f) := (q3.2 92 (by omega)).trans hf
      show WP (d + 9) mL_saggar none 0 0 8 [.ref 0, .int x, .int y, .ref 92, vU] [.int r.1, .int (nI 0), .ref 92] h1 _
      refine w_i2l (pc := 8) dL_saggar_8 ?_
      refine w_last (pc := 9) dL_saggar_9 hf1 (vp_in_nI (by omega) (by omega)) ?_
      refine w_goto (pc := 10) (tgt := 17) dL_saggar_10 (by decide) ?_
      refine w_iconst (pc := 17) (v := 0) dL_saggar_17 (by decide) ?_
      exact w_ireturn (pc := 18) dL_saggar_18 ⟨_, rfl, rfl⟩ (LRet.yes rfl q2 q3 hf1)
  · cases er : aCellR (σ.1 3) 4 (σ.2.1 3) x y σ with
    | inr r => rw [er] at q; cases q.1
    | inl E1 =>
      rw [er] at q
      obtain ⟨q1, rfl⟩ := q
      injection q1 with q4
      subst q4
      rcases no_aCellR er with rfl
      · refine x_catch (by decide) [] ⟨0, 10, 13, 21⟩ [] rfl (fun y hy => by cases hy) (by decide) (by decide) QL_21 ?_
        refine w_astore_x (pc := 13) (i := 4) (ls' := [.ref 0, .int x, .int y, .ref 92, vX]) dL_saggar_13 (by decide) rfl rfl rfl ?_
        refine w_iconst (pc := 15) (v := 1) dL_saggar_15 (by decide) ?_
        exact w_ireturn (pc := 16) dL_saggar_16 ⟨_, rfl, rfl⟩ (LRet.no (E := IOE) rfl (by decide))
theorem no_aStore {σ : WS} {x : Int32} {E : String} : aStore σ x = .inl E → E = IOE := by
  unfold aStore; intro q; (repeat' split at q) <;> first | (cases q; done) | (cases q; exact rfl)
set_option maxHeartbeats 1000000 in
theorem c_L_store (x : Int32) {f : Nat → Int64} (hp : Pm σ h) (hf : h[92]? = some (LCell f)) : Ct (d + 9) mL_store 1 6 [.ref 0, .int x, .ref 92] h (LRet (aStore σ x) (cd3 IOE IOE) f h) := by
  refine Ct.ofH (by decide +kernel) rfl (Nat.le_of_ble_eq_true rfl) ?_
  show WP (d + 9) mL_store none 1 6 0 [.ref 0, .int x, .ref 92, vU] [] h _
  refine w_aload_n (pc := 0) (i := 2) dL_store_0 rfl rfl ?_
  refine w_iconst (pc := 1) (v := 0) dL_store_1 (by decide) ?_
  refine w_aload_n (pc := 2) (i := 0) dL_store_2 rfl rfl ?_
  refine w_iload_n (pc := 3) (i := 1) dL_store_3 rfl rfl ?_
  refine w_v (k1 := 1) (n1 := 6) (k2 := 0) (n2 := 0) (pc := 4) dL_store_4 GL_58 hp.1 (c_X2_store x hp) rfl rfl rfl rfl rfl rfl (fun av h1 q => ?_) (fun E h1 q => ?_)
  · cases er : aStore σ x with
    | inl E => rw [er] at q; cases q.1
    | inr r =>
      rw [er] at q
      obtain ⟨q1, q2, q3⟩ := q
      injection q1 with q4
      subst q4
      have hf1 : h1[92]? = some (LCell f) := (q3.2 92 (by omega)).trans hf
      show WP (d + 9) mL_store none 0 0 7 [.ref 0, .int x, .ref 92, vU] [.int r.1, .int (nI 0), .ref 92] h1 _
      refine w_i2l (pc := 7) dL_store_7 ?_
      refine w_last (pc := 8) dL_store_8 hf1 (vp_in_nI (by omega) (by omega)) ?_
      refine w_goto (pc := 9) (tgt := 15) dL_store_9 (by decide) ?_
      refine w_iconst (pc := 15) (v := 0) dL_store_15 (by decide) ?_
      exact w_ireturn (pc := 16) dL_store_16 ⟨_, rfl, rfl⟩ (LRet.yes rfl q2 q3 hf1)
  · cases er : aStore σ x with
    | inr r => rw [er] at q; cases q.1
    | inl E1 =>
      rw [er] at q
      obtain ⟨q1, rfl⟩ := q
      injection q1 with q4
      subst q4
      rcases no_aStore er with rfl
      · refine x_catch (by decide) [] ⟨0, 9, 12, 21⟩ [] rfl (fun y hy => by cases hy) (by decide) (by decide) QL_21 ?_
        refine w_astore_x_n (pc := 12) (i := 3) (ls' := [.ref 0, .int x, .ref 92, vX]) dL_store_12 rfl (by decide) rfl rfl rfl ?_
        refine w_iconst (pc := 13) (v := 1) dL_store_13 (by decide) ?_
        exact w_ireturn (pc := 14) dL_store_14 ⟨_, rfl, rfl⟩ (LRet.no (E := IOE) rfl (by decide))
set_option maxHeartbeats 1000000 in
theorem c_L_waits (x y : Int32) {f : Nat → Int64} (hp : Pm σ h) (hf : h[92]? = some (LCell f)) : Ct (d + 9) mL_waits 2 12 [.ref 0, .int x, .int y, .ref 92] h (LRet (aCellR (σ.1 4) 4 (σ.2.1 4) x y σ) (cd3 IOE IOE) f h) := by
  refine Ct.ofH (by decide +kernel) rfl (Nat.le_of_ble_eq_true rfl) ?_
  show WP (d + 9) mL_waits none 2 12 0 [.ref 0, .int x, .int y, .ref 92, vU] [] h _
  refine w_aload_n (pc := 0) (i := 3) dL_waits_0 rfl rfl ?_
  refine w_iconst (pc := 1) (v := 0) dL_waits_1 (by decide) ?_
  refine w_aload_n (pc := 2) (i := 0) dL_waits_2 rfl rfl ?_
  refine w_iload_n (pc := 3) (i := 1) dL_waits_3 rfl rfl ?_
  refine w_iload_n (pc := 4) (i := 2) dL_waits_4 rfl rfl ?_
  refine w_v (k1 := 2) (n1 := 12) (k2 := 0) (n2 := 0) (pc := 5) dL_waits_5 GL_61 hp.1 (c_X2_waits x y hp) rfl rfl rfl rfl rfl rfl (fun av h1 q => ?_) (fun E h1 q => ?_)
  · cases er : aCellR (σ.1 4) 4 (σ.2.1 4) x y σ with
    | inl E => rw [er] at q; cases q.1
    | inr r =>
      rw [er] at q
      obtain ⟨q1, q2, q3⟩ := q
      injection q1 with q4
      subst q4
      have hf1 : h1[92]? = some (LCell f) := (q3.2 92 (by omega)).trans hf
      show WP (d + 9) mL_waits none 0 0 8 [.ref 0, .int x, .int y, .ref 92, vU] [.int r.1, .int (nI 0), .ref 92] h1 _
      refine w_i2l (pc := 8) dL_waits_8 ?_
      refine w_last (pc := 9) dL_waits_9 hf1 (vp_in_nI (by omega) (by omega)) ?_
      refine w_goto (pc := 10) (tgt := 17) dL_waits_10 (by decide) ?_
      refine w_iconst (pc := 17) (v := 0) dL_waits_17 (by decide) ?_
      exact w_ireturn (pc := 18) dL_waits_18 ⟨_, rfl, rfl⟩ (LRet.yes rfl q2 q3 hf1)
  · cases er : aCellR (σ.1 4) 4 (σ.2.1 4) x y σ with
    | inr r => rw [er] at q; cases q.1
    | inl E1 =>
      rw [er] at q
      obtain ⟨q1, rfl⟩ := q
      injection q1 with q4
      subst q4
      rcases no_aCellR er with rfl
      · refine x_catch (by decide) [] ⟨0, 10, 13, 21⟩ [] rfl (fun y hy => by cases hy) (by decide) (by decide) QL_21 ?_
        refine w_astore_x (pc := 13) (i := 4) (ls' := [.ref 0, .int x, .int y, .ref 92, vX]) dL_waits_13 (by decide) rfl rfl rfl ?_
        refine w_iconst (pc := 15) (v := 1) dL_waits_15 (by decide) ?_
        exact w_ireturn (pc := 16) dL_waits_16 ⟨_, rfl, rfl⟩ (LRet.no (E := IOE) rfl (by decide))
theorem no_aCount {σ : WS} {x : Int32} {E : String} : aCount σ x = .inl E → E = IOE := by
  unfold aCount; intro q; (repeat' split at q) <;> first | (cases q; done) | (cases q; exact rfl)
set_option maxHeartbeats 1000000 in
theorem c_L_count (x : Int32) {f : Nat → Int64} (hp : Pm σ h) (hf : h[92]? = some (LCell f)) : Ct (d + 9) mL_count 1 6 [.ref 0, .int x, .ref 92] h (LRet (aCount σ x) (cd3 IOE IOE) f h) := by
  refine Ct.ofH (by decide +kernel) rfl (Nat.le_of_ble_eq_true rfl) ?_
  show WP (d + 9) mL_count none 1 6 0 [.ref 0, .int x, .ref 92, vU] [] h _
  refine w_aload_n (pc := 0) (i := 2) dL_count_0 rfl rfl ?_
  refine w_iconst (pc := 1) (v := 0) dL_count_1 (by decide) ?_
  refine w_aload_n (pc := 2) (i := 0) dL_count_2 rfl rfl ?_
  refine w_iload_n (pc := 3) (i := 1) dL_count_3 rfl rfl ?_
  refine w_v (k1 := 1) (n1 := 6) (k2 := 0) (n2 := 0) (pc := 4) dL_count_4 GL_64 hp.1 (c_X2_count x hp) rfl rfl rfl rfl rfl rfl (fun av h1 q => ?_) (fun E h1 q => ?_)
  · cases er : aCount σ x with
    | inl E => rw [er] at q; cases q.1
    | inr r =>
      rw [er] at q
      obtain ⟨q1, q2, q3⟩ := q
      injection q1 with q4
      subst q4
      have hf1 : h1[92]? = some (LCell f) := (q3.2 92 (by omega)).trans hf
      show WP (d + 9) mL_count none 0 0 7 [.ref 0, .int x, .ref 92, vU] [.int r.1, .int (nI 0), .ref 92] h1 _
      refine w_i2l (pc := 7) dL_count_7 ?_
      refine w_last (pc := 8) dL_count_8 hf1 (vp_in_nI (by omega) (by omega)) ?_
      refine w_goto (pc := 9) (tgt := 15) dL_count_9 (by decide) ?_
      refine w_iconst (pc := 15) (v := 0) dL_count_15 (by decide) ?_
      exact w_ireturn (pc := 16) dL_count_16 ⟨_, rfl, rfl⟩ (LRet.yes rfl q2 q3 hf1)
  · cases er : aCount σ x with
    | inr r => rw [er] at q; cases q.1
    | inl E1 =>
      rw [er] at q
      obtain ⟨q1, rfl⟩ := q
      injection q1 with q4
      subst q4
      rcases no_aCount er with rfl
      · refine x_catch (by decide) [] ⟨0, 9, 12, 21⟩ [] rfl (fun y hy => by cases hy) (by decide) (by decide) QL_21 ?_
        refine w_astore_x_n (pc := 12) (i := 3) (ls' := [.ref 0, .int x, .ref 92, vX]) dL_count_12 rfl (by decide) rfl rfl rfl ?_
        refine w_iconst (pc := 13) (v := 1) dL_count_13 (by decide) ?_
        exact w_ireturn (pc := 14) dL_count_14 ⟨_, rfl, rfl⟩ (LRet.no (E := IOE) rfl (by decide))
theorem no_aPass {σ : WS} {x : Int32} {E : String} : aPass σ x = .inl E → E = IAE := by
  unfold aPass; intro q; (repeat' split at q) <;> first | (cases q; done) | (cases q; exact rfl)
set_option maxHeartbeats 1000000 in
theorem c_L_pass (x : Int32) {f : Nat → Int64} (hp : Pm σ h) (hf : h[92]? = some (LCell f)) : Ct (d + 9) mL_pass 1 6 [.ref 0, .int x, .ref 92] h (LRet (aPass σ x) (cd3 IAE IAE) f h) := by
  refine Ct.ofH (by decide +kernel) rfl (Nat.le_of_ble_eq_true rfl) ?_
  show WP (d + 9) mL_pass none 1 6 0 [.ref 0, .int x, .ref 92, vU] [] h _
  refine w_aload_n (pc := 0) (i := 2) dL_pass_0 rfl rfl ?_
  refine w_iconst (pc := 1) (v := 0) dL_pass_1 (by decide) ?_
  refine w_aload_n (pc := 2) (i := 0) dL_pass_2 rfl rfl ?_
  refine w_iload_n (pc := 3) (i := 1) dL_pass_3 rfl rfl ?_
  refine w_v (k1 := 1) (n1 := 6) (k2 := 0) (n2 := 0) (pc := 4) dL_pass_4 GL_67 hp.1 (c_X2_pass x hp) rfl rfl rfl rfl rfl rfl (fun av h1 q => ?_) (fun E h1 q => ?_)
  · cases er : aPass σ x with
    | inl E => rw [er] at q; cases q.1
    | inr r =>
      rw [er] at q
      obtain ⟨q1, q2, q3⟩ := q
      injection q1 with q4
      subst q4
      have hf1 : h1[92]? = some (LCell f) := (q3.2 92 (by omega)).trans hf
      show WP (d + 9) mL_pass none 0 0 7 [.ref 0, .int x, .ref 92, vU] [.int r.1, .int (nI 0), .ref 92] h1 _
      refine w_i2l (pc := 7) dL_pass_7 ?_
      refine w_last (pc := 8) dL_pass_8 hf1 (vp_in_nI (by omega) (by omega)) ?_
      refine w_goto (pc := 9) (tgt := 15) dL_pass_9 (by decide) ?_
      refine w_iconst (pc := 15) (v := 0) dL_pass_15 (by decide) ?_
      exact w_ireturn (pc := 16) dL_pass_16 ⟨_, rfl, rfl⟩ (LRet.yes rfl q2 q3 hf1)
  · cases er : aPass σ x with
    | inr r => rw [er] at q; cases q.1
    | inl E1 =>
      rw [er] at q
      obtain ⟨q1, rfl⟩ := q
      injection q1 with q4
      subst q4
      rcases no_aPass er with rfl
      · refine x_catch (by decide) [] ⟨0, 9, 12, 13⟩ [] rfl (fun y hy => by cases hy) (by decide) (by decide) QL_13 ?_
        refine w_astore_x_n (pc := 12) (i := 3) (ls' := [.ref 0, .int x, .ref 92, vX]) dL_pass_12 rfl (by decide) rfl rfl rfl ?_
        refine w_iconst (pc := 13) (v := 1) dL_pass_13 (by decide) ?_
        exact w_ireturn (pc := 14) dL_pass_14 ⟨_, rfl, rfl⟩ (LRet.no (E := IAE) rfl (by decide))
theorem no_aBreaks {σ : WS} {x y : Int32} {E : String} : aBreaks σ x y = .inl E → E = IOE ∨ E = IAE := by
  unfold aBreaks; intro q; (repeat' split at q) <;> first | (cases q; done) | (cases q; exact Or.inl rfl) | (cases q; exact Or.inr rfl)
set_option maxHeartbeats 1000000 in
theorem c_L_breaks (x y : Int32) {f : Nat → Int64} (hp : Pm σ h) (hf : h[92]? = some (LCell f)) : Ct (d + 9) mL_breaks 2 12 [.ref 0, .int x, .int y, .ref 92] h (LRet (aBreaks σ x y) (cd3 IOE IAE) f h) := by
  refine Ct.ofH (by decide +kernel) rfl (Nat.le_of_ble_eq_true rfl) ?_
  show WP (d + 9) mL_breaks none 2 12 0 [.ref 0, .int x, .int y, .ref 92, vU] [] h _
  refine w_aload_n (pc := 0) (i := 3) dL_breaks_0 rfl rfl ?_
  refine w_iconst (pc := 1) (v := 0) dL_breaks_1 (by decide) ?_
  refine w_aload_n (pc := 2) (i := 0) dL_breaks_2 rfl rfl ?_
  refine w_iload_n (pc := 3) (i := 1) dL_breaks_3 rfl rfl ?_
  refine w_iload_n (pc := 4) (i := 2) dL_breaks_4 rfl rfl ?_
  refine w_v (k1 := 2) (n1 := 12) (k2 := 0) (n2 := 0) (pc := 5) dL_breaks_5 GL_70 hp.1 (c_X2_breaks x y hp) rfl rfl rfl rfl rfl rfl (fun av h1 q => ?_) (fun E h1 q => ?_)
  · cases er : aBreaks σ x y with
    | inl E => rw [er] at q; cases q.1
    | inr r =>
      rw [er] at q
      obtain ⟨q1, q2, q3⟩ := q
      injection q1 with q4
      subst q4
      have hf1 : h1[92]? = some (LCell f) := (q3.2 92 (by omega)).trans hf
      show WP (d + 9) mL_breaks none 0 0 8 [.ref 0, .int x, .int y, .ref 92, vU] [.int r.1, .int (nI 0), .ref 92] h1 _
      refine w_i2l (pc := 8) dL_breaks_8 ?_
      refine w_last (pc := 9) dL_breaks_9 hf1 (vp_in_nI (by omega) (by omega)) ?_
      refine w_goto (pc := 10) (tgt := 21) dL_breaks_10 (by decide) ?_
      refine w_iconst (pc := 21) (v := 0) dL_breaks_21 (by decide) ?_
      exact w_ireturn (pc := 22) dL_breaks_22 ⟨_, rfl, rfl⟩ (LRet.yes rfl q2 q3 hf1)
  · cases er : aBreaks σ x y with
    | inr r => rw [er] at q; cases q.1
    | inl E1 =>
      rw [er] at q
      obtain ⟨q1, rfl⟩ := q
      injection q1 with q4
      subst q4
      rcases no_aBreaks er with rfl | rfl
      · refine x_catch (by decide) [] ⟨0, 10, 13, 21⟩ [⟨0, 10, 17, 13⟩] rfl (fun y hy => by cases hy) (by decide) (by decide) QL_21 ?_
        refine w_astore_x (pc := 13) (i := 4) (ls' := [.ref 0, .int x, .int y, .ref 92, vX]) dL_breaks_13 (by decide) rfl rfl rfl ?_
        refine w_iconst (pc := 15) (v := 1) dL_breaks_15 (by decide) ?_
        exact w_ireturn (pc := 16) dL_breaks_16 ⟨_, rfl, rfl⟩ (LRet.no (E := IOE) rfl (by decide))
      · refine x_catch (by decide) [⟨0, 10, 13, 21⟩] ⟨0, 10, 17, 13⟩ [] rfl (fun y hy => by rw [List.mem_singleton.mp hy]; exact ⟨by decide, _, by decide, by decide, QL_21⟩) (by decide) (by decide) QL_13 ?_
        refine w_astore_x (pc := 17) (i := 4) (ls' := [.ref 0, .int x, .int y, .ref 92, vX]) dL_breaks_17 (by decide) rfl rfl rfl ?_
        refine w_iconst (pc := 19) (v := 2) dL_breaks_19 (by decide) ?_
        exact w_ireturn (pc := 20) dL_breaks_20 ⟨_, rfl, rfl⟩ (LRet.no (E := IAE) rfl (by decide))
theorem no_aReady {σ : WS} {φ : WS} {x : Int32} {E : String} : aReady σ φ x = .inl E → E = IOE := by
  unfold aReady; intro q; (repeat' split at q) <;> first | (cases q; done) | (cases q; exact rfl)
set_option maxHeartbeats 1000000 in
theorem c_L_ready (x : Int32) {f : Nat → Int64} (hp : Pm σ h) (hf : h[92]? = some (LCell f)) : ∃ φ, Ct (d + 9) mL_ready 1 6 [.ref 0, .int x, .ref 92] h (LRet (aReady σ φ x) (cd3 IOE IOE) f h) := by
  obtain ⟨φ, hct⟩ := c_X2_ready (d := d) x hp
  refine ⟨φ, ?_⟩
  refine Ct.ofH (by decide +kernel) rfl (Nat.le_of_ble_eq_true rfl) ?_
  show WP (d + 9) mL_ready none 1 6 0 [.ref 0, .int x, .ref 92, vU] [] h _
  refine w_aload_n (pc := 0) (i := 2) dL_ready_0 rfl rfl ?_
  refine w_iconst (pc := 1) (v := 0) dL_ready_1 (by decide) ?_
  refine w_aload_n (pc := 2) (i := 0) dL_ready_2 rfl rfl ?_
  refine w_iload_n (pc := 3) (i := 1) dL_ready_3 rfl rfl ?_
  refine w_v (k1 := 1) (n1 := 6) (k2 := 0) (n2 := 0) (pc := 4) dL_ready_4 GL_73 hp.1 hct rfl rfl rfl rfl rfl rfl (fun av h1 q => ?_) (fun E h1 q => ?_)
  · cases er : aReady σ φ x with
    | inl E => rw [er] at q; cases q.1
    | inr r =>
      rw [er] at q
      obtain ⟨q1, q2, q3⟩ := q
      injection q1 with q4
      subst q4
      have hf1 : h1[92]? = some (LCell f) := (q3.2 92 (by omega)).trans hf
      show WP (d + 9) mL_ready none 0 0 7 [.ref 0, .int x, .ref 92, vU] [.int r.1, .int (nI 0), .ref 92] h1 _
      refine w_i2l (pc := 7) dL_ready_7 ?_
      refine w_last (pc := 8) dL_ready_8 hf1 (vp_in_nI (by omega) (by omega)) ?_
      refine w_goto (pc := 9) (tgt := 15) dL_ready_9 (by decide) ?_
      refine w_iconst (pc := 15) (v := 0) dL_ready_15 (by decide) ?_
      exact w_ireturn (pc := 16) dL_ready_16 ⟨_, rfl, rfl⟩ (LRet.yes rfl q2 q3 hf1)
  · cases er : aReady σ φ x with
    | inr r => rw [er] at q; cases q.1
    | inl E1 =>
      rw [er] at q
      obtain ⟨q1, rfl⟩ := q
      injection q1 with q4
      subst q4
      rcases no_aReady er with rfl
      · refine x_catch (by decide) [] ⟨0, 9, 12, 21⟩ [] rfl (fun y hy => by cases hy) (by decide) (by decide) QL_21 ?_
        refine w_astore_x_n (pc := 12) (i := 3) (ls' := [.ref 0, .int x, .ref 92, vX]) dL_ready_12 rfl (by decide) rfl rfl rfl ?_
        refine w_iconst (pc := 13) (v := 1) dL_ready_13 (by decide) ?_
        exact w_ireturn (pc := 14) dL_ready_14 ⟨_, rfl, rfl⟩ (LRet.no (E := IOE) rfl (by decide))
theorem no_aForesee {σ : WS} {φ : WS} {x y : Int32} {E : String} : aForesee σ φ x y = .inl E → E = IAE ∨ E = IOE := by
  unfold aForesee; intro q; (repeat' split at q) <;> first | (cases q; done) | (cases q; exact Or.inl rfl) | (cases q; exact Or.inr rfl)
set_option maxHeartbeats 1000000 in
theorem c_L_foresee (x y : Int32) {f : Nat → Int64} (hp : Pm σ h) (hf : h[92]? = some (LCell f)) : ∃ φ, Ct (d + 9) mL_foresee 2 12 [.ref 0, .int x, .int y, .ref 92] h (LRet (aForesee σ φ x y) (cd3 IAE IOE) f h) := by
  obtain ⟨φ, hct⟩ := c_X2_foresee (d := d) x y hp
  refine ⟨φ, ?_⟩
  refine Ct.ofH (by decide +kernel) rfl (Nat.le_of_ble_eq_true rfl) ?_
  show WP (d + 9) mL_foresee none 2 12 0 [.ref 0, .int x, .int y, .ref 92, vU] [] h _
  refine w_aload_n (pc := 0) (i := 3) dL_foresee_0 rfl rfl ?_
  refine w_iconst (pc := 1) (v := 0) dL_foresee_1 (by decide) ?_
  refine w_aload_n (pc := 2) (i := 0) dL_foresee_2 rfl rfl ?_
  refine w_iload_n (pc := 3) (i := 1) dL_foresee_3 rfl rfl ?_
  refine w_iload_n (pc := 4) (i := 2) dL_foresee_4 rfl rfl ?_
  refine w_v (k1 := 2) (n1 := 12) (k2 := 0) (n2 := 0) (pc := 5) dL_foresee_5 GL_76 hp.1 hct rfl rfl rfl rfl rfl rfl (fun av h1 q => ?_) (fun E h1 q => ?_)
  · cases er : aForesee σ φ x y with
    | inl E => rw [er] at q; cases q.1
    | inr r =>
      rw [er] at q
      obtain ⟨q1, q2, q3⟩ := q
      injection q1 with q4
      subst q4
      have hf1 : h1[92]? = some (LCell f) := (q3.2 92 (by omega)).trans hf
      show WP (d + 9) mL_foresee none 0 0 8 [.ref 0, .int x, .int y, .ref 92, vU] [.int r.1, .int (nI 0), .ref 92] h1 _
      refine w_i2l (pc := 8) dL_foresee_8 ?_
      refine w_last (pc := 9) dL_foresee_9 hf1 (vp_in_nI (by omega) (by omega)) ?_
      refine w_goto (pc := 10) (tgt := 21) dL_foresee_10 (by decide) ?_
      refine w_iconst (pc := 21) (v := 0) dL_foresee_21 (by decide) ?_
      exact w_ireturn (pc := 22) dL_foresee_22 ⟨_, rfl, rfl⟩ (LRet.yes rfl q2 q3 hf1)
  · cases er : aForesee σ φ x y with
    | inr r => rw [er] at q; cases q.1
    | inl E1 =>
      rw [er] at q
      obtain ⟨q1, rfl⟩ := q
      injection q1 with q4
      subst q4
      rcases no_aForesee er with rfl | rfl
      · refine x_catch (by decide) [] ⟨0, 10, 13, 13⟩ [⟨0, 10, 17, 21⟩] rfl (fun y hy => by cases hy) (by decide) (by decide) QL_13 ?_
        refine w_astore_x (pc := 13) (i := 4) (ls' := [.ref 0, .int x, .int y, .ref 92, vX]) dL_foresee_13 (by decide) rfl rfl rfl ?_
        refine w_iconst (pc := 15) (v := 1) dL_foresee_15 (by decide) ?_
        exact w_ireturn (pc := 16) dL_foresee_16 ⟨_, rfl, rfl⟩ (LRet.no (E := IAE) rfl (by decide))
      · refine x_catch (by decide) [⟨0, 10, 13, 13⟩] ⟨0, 10, 17, 21⟩ [] rfl (fun y hy => by rw [List.mem_singleton.mp hy]; exact ⟨by decide, _, by decide, by decide, QL_13⟩) (by decide) (by decide) QL_21 ?_
        refine w_astore_x (pc := 17) (i := 4) (ls' := [.ref 0, .int x, .int y, .ref 92, vX]) dL_foresee_17 (by decide) rfl rfl rfl ?_
        refine w_iconst (pc := 19) (v := 2) dL_foresee_19 (by decide) ?_
        exact w_ireturn (pc := 20) dL_foresee_20 ⟨_, rfl, rfl⟩ (LRet.no (E := IOE) rfl (by decide))
end WRAP
