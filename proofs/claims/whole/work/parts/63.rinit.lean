/-! the reference: becoming another state, and the start -/
def rBec1 (α τ : ST) : ST := tS (tS (tC (tC (tS (tS (tS (tS (tS (tS (tS (tS α 0 (τ.2.2.2.2 0)) 1 (τ.2.2.2.2 1)) 2 (τ.2.2.2.2 2)) 3 (τ.2.2.2.2 3)) 4 (τ.2.2.2.2 4)) 5 (τ.2.2.2.2 5)) 6 (τ.2.2.2.2 6)) 7 (τ.2.2.2.2 7)) 0 (τ.2.2.2.1 0)) 1 (τ.2.2.2.1 1)) 8 (-1)) 9 0
def rBec2 (α τ : ST) : ST := tA (tA (rBec1 α τ) 0 (va_cpy (τ.1 0) (α.1 0) 0 0 6)) 1 (va_cpy (τ.1 1) (α.1 1) 0 0 6)
def rBecW (s τ : ST) : Nat → ST
  | 0 => s
  | k + 1 => tW (rBecW s τ k) k (va_cpy (τ.2.1 k) ((rBecW s τ k).2.1 k) 0 0 4)
def rBecO1 (s τ : ST) (k : Nat) : ST := tO s k (va_cpy (τ.2.2.1 k) (s.2.2.1 k) 0 0 5)
def rBecO (s τ : ST) : Nat → ST
  | 0 => s
  | k + 1 => tO (rBecO1 (rBecO s τ k) τ k) k (upd ((rBecO1 (rBecO s τ k) τ k).2.2.1 k) 4 (nI k))
def rBec3 (α τ : ST) : ST := rBecW (rBec2 α τ) τ 16
def rBec4 (α τ : ST) : ST := tA (rBec3 α τ) 2 (va_cpy (τ.1 2) ((rBec3 α τ).1 2) 0 0 25)
def rBecome (α τ : ST) : ST := rBecO (rBec4 α τ) τ 8
def rZero : ST := (fun _ _ => 0, fun _ _ => 0, fun _ _ => 0, fun _ => 0, fun k => if k = 1 then 200 else if k = 2 then 20 else if k = 3 then 30 else if k = 8 then -1 else 0)
def mZero : MS := (fun i => if i = 0 then upd (upd (upd (upd (upd (upd (upd (fun _ => 0) 0 1) 1 1) 2 1) 3 1) 4 1) 5 1) 6 1 else fun _ => 0, fun _ => 0)
abbrev stD : List Value := [.int 0, .int 0, .int 0, .int 0, .int 0, .int 0, .int 0, .int 0, .null, .null, .int 0, .null, .null, .int 0, .null, .int 0, .int 0, .null]
abbrev mdD : List Value := [.int 0, .null, .int 0, .null, .int 0, .null, .null, .null, .null]
section RINIT
variable {d b c : Nat} {α τ : ST} {h g : AH}
set_option maxHeartbeats 4000000 in
theorem c_become_ware {s : ST} (hc : St c τ h) (hbc : c + 30 ≤ b ∨ b + 30 ≤ c) {P : AO → AH → Prop} (hK : ∀ h2, St b (rBecW s τ 16) h2 → GOut b 30 h h2 → WP (d + 2) mX3_become none 0 0 155 [.ref b, .ref c, .int (nI 16)] [] h2 P) : ∀ (m k : Nat) (h2 : AH), k + m = 16 → St b (rBecW s τ k) h2 → GOut b 30 h h2 → WP (d + 2) mX3_become none 0 0 122 [.ref b, .ref c, .int (nI k)] [] h2 P := by
  intro m
  induction m with
  | zero =>
    intro k h2 hk hw ho
    have hk : k = 16 := by omega
    subst hk
    refine w_iload_n (pc := 122) (i := 2) dX3_become_122 rfl rfl ?_
    refine w_aload_n (pc := 123) (i := 0) dX3_become_123 rfl rfl ?_
    refine w_get (pc := 124) dX3_become_124 FX3_34 hw.1 rfl ?_
    refine w_alen (pc := 127) dX3_become_127 (v := 16) hw.ware rfl ?_
    refine w_icmp_ge (pc := 128) (tgt := 155) dX3_become_128 (by decide) (fun c128 => ?_) (fun c128 => absurd (by decide) c128)
    exact hK h2 hw ho
  | succ m ih =>
    intro k h2 hk hw ho
    refine w_iload_n (pc := 122) (i := 2) dX3_become_122 rfl rfl ?_
    refine w_aload_n (pc := 123) (i := 0) dX3_become_123 rfl rfl ?_
    refine w_get (pc := 124) dX3_become_124 FX3_34 hw.1 rfl ?_
    refine w_alen (pc := 127) dX3_become_127 (v := 16) hw.ware rfl ?_
    refine w_icmp_ge (pc := 128) (tgt := 155) dX3_become_128 (by decide) (fun c128 => absurd (show nI 16 ≤ nI k from c128) (nI_ge (by omega) (by omega))) (fun c128 => ?_)
    refine w_aload_n (pc := 131) (i := 1) dX3_become_131 rfl rfl ?_
    refine w_get (pc := 132) dX3_become_132 FX3_34 (hc.out ho hbc).1 rfl ?_
    refine w_iload_n (pc := 135) (i := 2) dX3_become_135 rfl rfl ?_
    refine w_aald (pc := 136) dX3_become_136 (hc.out ho hbc).ware (vp_in_nI (by omega) (by omega)) (rowsAt_nI (by omega) (by omega)) ?_
    refine w_iconst (pc := 137) (v := 0) dX3_become_137 (by decide) ?_
    refine w_aload_n (pc := 138) (i := 0) dX3_become_138 rfl rfl ?_
    refine w_get (pc := 139) dX3_become_139 FX3_34 hw.1 rfl ?_
    refine w_iload_n (pc := 142) (i := 2) dX3_become_142 rfl rfl ?_
    refine w_aald (pc := 143) dX3_become_143 hw.ware (vp_in_nI (by omega) (by omega)) (rowsAt_nI (by omega) (by omega)) ?_
    refine w_iconst (pc := 144) (v := 0) dX3_become_144 (by decide) ?_
    refine w_iconst (pc := 145) (v := 4) dX3_become_145 (by decide) ?_
    refine w_copy (pc := 146) (sp := 0) (dp := 0) (cn := 4) dX3_become_146 LX3_70 (by omega) rfl (Nat.le_of_ble_eq_true rfl) ((hc.out ho hbc).wg (by omega)) (hw.wg (by omega)) (by omega) (by omega) (by omega) (by omega) ?_
    obtain ⟨s146, hs146⟩ : ∃ z : ST, z = tW (rBecW s τ k) (k) (va_cpy (τ.2.1 k) ((rBecW s τ k).2.1 k) 0 0 4) := ⟨_, rfl⟩
    have hw146 : St b s146 (h2.set (b + 4 + (k)) (.inl (4, .inl (va_cpy (τ.2.1 k) ((rBecW s τ k).2.1 k) 0 0 4)))) := by rw [hs146]; exact hw.w (by omega) _
    have ho146 : GOut b 30 h (h2.set (b + 4 + (k)) (.inl (4, .inl (va_cpy (τ.2.1 k) ((rBecW s τ k).2.1 k) 0 0 4)))) := ho.set (by omega) (by omega)
    show WP _ _ _ _ _ _ _ _ (h2.set (b + 4 + (k)) (.inl (4, .inl (va_cpy (τ.2.1 k) ((rBecW s τ k).2.1 k) 0 0 4)))) _
    generalize hh146 : (h2.set (b + 4 + (k)) (.inl (4, .inl (va_cpy (τ.2.1 k) ((rBecW s τ k).2.1 k) 0 0 4)))) = h146 at hw146 ho146 ⊢
    clear hh146
    obtain ⟨x149, e149⟩ : ∃ y : Int32, y = (nI k) + 1 := ⟨_, rfl⟩
    refine w_iinc (pc := 149) (i := 2) (y := x149) (ls' := [.ref b, .ref c, .int x149]) dX3_become_149 rfl (by rw [e149]; rfl) (by decide) rfl rfl rfl ?_
    refine w_goto (pc := 152) (tgt := 122) dX3_become_152 (by decide) ?_
    obtain rfl : x149 = nI (k + 1) := by rw [e149]; exact nI_1 k
    subst hs146
    exact ih (k + 1) h146 (by omega) hw146 ho146
set_option maxHeartbeats 4000000 in
theorem c_become_order {s : ST} (hc : St c τ h) (hbc : c + 30 ≤ b ∨ b + 30 ≤ c) : ∀ (m k : Nat) (h2 : AH), k + m = 8 → St b (rBecO s τ k) h2 → GOut b 30 h h2 → WP (d + 2) mX3_become none 0 0 175 [.ref b, .ref c, .int (nI k)] [] h2 (NT (fun v h1 => v = some (.ref b) ∧ St b (rBecO s τ 8) h1 ∧ GOut b 30 h h1)) := by
  intro m
  induction m with
  | zero =>
    intro k h2 hk hw ho
    have hk : k = 8 := by omega
    subst hk
    refine w_iload_n (pc := 175) (i := 2) dX3_become_175 rfl rfl ?_
    refine w_bipush (pc := 176) (v := 8) dX3_become_176 (by decide) ?_
    refine w_icmp_ge (pc := 178) (tgt := 214) dX3_become_178 (by decide) (fun c178 => ?_) (fun c178 => absurd (by decide) c178)
    refine w_aload_n (pc := 214) (i := 0) dX3_become_214 rfl rfl ?_
    exact w_areturn (pc := 215) dX3_become_215 ⟨_, rfl, Or.inl ⟨_, rfl⟩⟩ ⟨_, rfl, rfl, hw, ho⟩
  | succ m ih =>
    intro k h2 hk hw ho
    refine w_iload_n (pc := 175) (i := 2) dX3_become_175 rfl rfl ?_
    refine w_bipush (pc := 176) (v := 8) dX3_become_176 (by decide) ?_
    refine w_icmp_ge (pc := 178) (tgt := 214) dX3_become_178 (by decide) (fun c178 => absurd (show nI 8 ≤ nI k from c178) (nI_ge (by omega) (by omega))) (fun c178 => ?_)
    refine w_aload_n (pc := 181) (i := 1) dX3_become_181 rfl rfl ?_
    refine w_get (pc := 182) dX3_become_182 FX3_40 (hc.out ho hbc).1 rfl ?_
    refine w_iload_n (pc := 185) (i := 2) dX3_become_185 rfl rfl ?_
    refine w_aald (pc := 186) dX3_become_186 (hc.out ho hbc).order (vp_in_nI (by omega) (by omega)) (rowsAt_nI (by omega) (by omega)) ?_
    refine w_iconst (pc := 187) (v := 0) dX3_become_187 (by decide) ?_
    refine w_aload_n (pc := 188) (i := 0) dX3_become_188 rfl rfl ?_
    refine w_get (pc := 189) dX3_become_189 FX3_40 hw.1 rfl ?_
    refine w_iload_n (pc := 192) (i := 2) dX3_become_192 rfl rfl ?_
    refine w_aald (pc := 193) dX3_become_193 hw.order (vp_in_nI (by omega) (by omega)) (rowsAt_nI (by omega) (by omega)) ?_
    refine w_iconst (pc := 194) (v := 0) dX3_become_194 (by decide) ?_
    refine w_iconst (pc := 195) (v := 5) dX3_become_195 (by decide) ?_
    refine w_copy (pc := 196) (sp := 0) (dp := 0) (cn := 5) dX3_become_196 LX3_70 (by omega) rfl (Nat.le_of_ble_eq_true rfl) ((hc.out ho hbc).og (by omega)) (hw.og (by omega)) (by omega) (by omega) (by omega) (by omega) ?_
    obtain ⟨s196, hs196⟩ : ∃ z : ST, z = tO (rBecO s τ k) (k) (va_cpy (τ.2.2.1 k) ((rBecO s τ k).2.2.1 k) 0 0 5) := ⟨_, rfl⟩
    have hw196 : St b s196 (h2.set (b + 22 + (k)) (.inl (5, .inl (va_cpy (τ.2.2.1 k) ((rBecO s τ k).2.2.1 k) 0 0 5)))) := by rw [hs196]; exact hw.o (by omega) _
    have ho196 : GOut b 30 h (h2.set (b + 22 + (k)) (.inl (5, .inl (va_cpy (τ.2.2.1 k) ((rBecO s τ k).2.2.1 k) 0 0 5)))) := ho.set (by omega) (by omega)
    show WP _ _ _ _ _ _ _ _ (h2.set (b + 22 + (k)) (.inl (5, .inl (va_cpy (τ.2.2.1 k) ((rBecO s τ k).2.2.1 k) 0 0 5)))) _
    generalize hh196 : (h2.set (b + 22 + (k)) (.inl (5, .inl (va_cpy (τ.2.2.1 k) ((rBecO s τ k).2.2.1 k) 0 0 5)))) = h196 at hw196 ho196 ⊢
    clear hh196
    refine w_aload_n (pc := 199) (i := 0) dX3_become_199 rfl rfl ?_
    refine w_get (pc := 200) dX3_become_200 FX3_40 hw196.1 rfl ?_
    refine w_iload_n (pc := 203) (i := 2) dX3_become_203 rfl rfl ?_
    refine w_aald (pc := 204) dX3_become_204 hw196.order (vp_in_nI (by omega) (by omega)) (rowsAt_nI (by omega) (by omega)) ?_
    refine w_iconst (pc := 205) (v := 4) dX3_become_205 (by decide) ?_
    refine w_iload_n (pc := 206) (i := 2) dX3_become_206 rfl rfl ?_
    refine w_iast (pc := 207) dX3_become_207 (hw196.og (by omega)) (vp_in_nI (n := 4) (by omega) (by omega)) ?_
    obtain ⟨s207, hs207⟩ : ∃ z : ST, z = tO s196 (k) (upd (s196.2.2.1 k) 4 (nI k)) := ⟨_, rfl⟩
    have hw207 : St b s207 (h196.set (b + 22 + (k)) (.inl (5, .inl (upd (s196.2.2.1 k) 4 (nI k))))) := by rw [hs207]; exact hw196.o (by omega) _
    have ho207 : GOut b 30 h (h196.set (b + 22 + (k)) (.inl (5, .inl (upd (s196.2.2.1 k) 4 (nI k))))) := ho196.set (by omega) (by omega)
    show WP _ _ _ _ _ _ _ _ (h196.set (b + 22 + (k)) (.inl (5, .inl (upd (s196.2.2.1 k) 4 (nI k))))) _
    generalize hh207 : (h196.set (b + 22 + (k)) (.inl (5, .inl (upd (s196.2.2.1 k) 4 (nI k))))) = h207 at hw207 ho207 ⊢
    clear hh207
    obtain ⟨x208, e208⟩ : ∃ y : Int32, y = (nI k) + 1 := ⟨_, rfl⟩
    refine w_iinc (pc := 208) (i := 2) (y := x208) (ls' := [.ref b, .ref c, .int x208]) dX3_become_208 rfl (by rw [e208]; rfl) (by decide) rfl rfl rfl ?_
    refine w_goto (pc := 211) (tgt := 175) dX3_become_211 (by decide) ?_
    obtain rfl : x208 = nI (k + 1) := by rw [e208]; exact nI_1 k
    subst hs196 hs207
    exact ih (k + 1) h207 (by omega) hw207 ho207
set_option maxHeartbeats 4000000 in
theorem c_become (hw : St b α h) (hc : St c τ h) (hbc : c + 30 ≤ b ∨ b + 30 ≤ c) : Ct (d + 2) mX3_become 0 0 [.ref b, .ref c] h (NT (fun v h1 => v = some (.ref b) ∧ St b (rBecome α τ) h1 ∧ GOut b 30 h h1)) := by
  refine Ct.of (by decide +kernel) rfl (Nat.le_of_ble_eq_true rfl) ?_
  show WP (d + 2) mX3_become none 0 0 0 [.ref b, .ref c, vU] [] h _
  have ho : GOut b 30 h h := GOut.rf
  refine w_aload_n (pc := 0) (i := 0) dX3_become_0 rfl rfl ?_
  refine w_aload_n (pc := 1) (i := 1) dX3_become_1 rfl rfl ?_
  refine w_get (pc := 2) dX3_become_2 FX3_46 (hc.out ho hbc).1 rfl ?_
  refine w_put (pc := 5) dX3_become_5 UX3_46 hw.1 (Nat.le_of_ble_eq_true rfl) nv_i (fun _ q => by cases q) ?_
  obtain ⟨s5, hs5⟩ : ∃ z : ST, z = tS α 0 (τ.2.2.2.2 0) := ⟨_, rfl⟩
  have hw5 : St b s5 (h.set b (.inr (3, (stF b α).set 0 (.int (τ.2.2.2.2 0))))) := by rw [hs5]; exact hw.s0 _
  have ho5 : GOut b 30 h (h.set b (.inr (3, (stF b α).set 0 (.int (τ.2.2.2.2 0))))) := ho.set (by omega) (by omega)
  show WP _ _ _ _ _ _ _ _ (h.set b (.inr (3, (stF b α).set 0 (.int (τ.2.2.2.2 0))))) _
  generalize hh5 : (h.set b (.inr (3, (stF b α).set 0 (.int (τ.2.2.2.2 0))))) = h5 at hw5 ho5 ⊢
  clear hh5
  refine w_aload_n (pc := 8) (i := 0) dX3_become_8 rfl rfl ?_
  refine w_aload_n (pc := 9) (i := 1) dX3_become_9 rfl rfl ?_
  refine w_get (pc := 10) dX3_become_10 FX3_15 (hc.out ho5 hbc).1 rfl ?_
  refine w_put (pc := 13) dX3_become_13 UX3_15 hw5.1 (Nat.le_of_ble_eq_true rfl) nv_i (fun _ q => by cases q) ?_
  obtain ⟨s13, hs13⟩ : ∃ z : ST, z = tS s5 1 (τ.2.2.2.2 1) := ⟨_, rfl⟩
  have hw13 : St b s13 (h5.set b (.inr (3, (stF b s5).set 1 (.int (τ.2.2.2.2 1))))) := by rw [hs13]; exact hw5.s1 _
  have ho13 : GOut b 30 h (h5.set b (.inr (3, (stF b s5).set 1 (.int (τ.2.2.2.2 1))))) := ho5.set (by omega) (by omega)
  show WP _ _ _ _ _ _ _ _ (h5.set b (.inr (3, (stF b s5).set 1 (.int (τ.2.2.2.2 1))))) _
  generalize hh13 : (h5.set b (.inr (3, (stF b s5).set 1 (.int (τ.2.2.2.2 1))))) = h13 at hw13 ho13 ⊢
  clear hh13
  refine w_aload_n (pc := 16) (i := 0) dX3_become_16 rfl rfl ?_
  refine w_aload_n (pc := 17) (i := 1) dX3_become_17 rfl rfl ?_
  refine w_get (pc := 18) dX3_become_18 FX3_19 (hc.out ho13 hbc).1 rfl ?_
  refine w_put (pc := 21) dX3_become_21 UX3_19 hw13.1 (Nat.le_of_ble_eq_true rfl) nv_i (fun _ q => by cases q) ?_
  obtain ⟨s21, hs21⟩ : ∃ z : ST, z = tS s13 2 (τ.2.2.2.2 2) := ⟨_, rfl⟩
  have hw21 : St b s21 (h13.set b (.inr (3, (stF b s13).set 2 (.int (τ.2.2.2.2 2))))) := by rw [hs21]; exact hw13.s2 _
  have ho21 : GOut b 30 h (h13.set b (.inr (3, (stF b s13).set 2 (.int (τ.2.2.2.2 2))))) := ho13.set (by omega) (by omega)
  show WP _ _ _ _ _ _ _ _ (h13.set b (.inr (3, (stF b s13).set 2 (.int (τ.2.2.2.2 2))))) _
  generalize hh21 : (h13.set b (.inr (3, (stF b s13).set 2 (.int (τ.2.2.2.2 2))))) = h21 at hw21 ho21 ⊢
  clear hh21
  refine w_aload_n (pc := 24) (i := 0) dX3_become_24 rfl rfl ?_
  refine w_aload_n (pc := 25) (i := 1) dX3_become_25 rfl rfl ?_
  refine w_get (pc := 26) dX3_become_26 FX3_22 (hc.out ho21 hbc).1 rfl ?_
  refine w_put (pc := 29) dX3_become_29 UX3_22 hw21.1 (Nat.le_of_ble_eq_true rfl) nv_i (fun _ q => by cases q) ?_
  obtain ⟨s29, hs29⟩ : ∃ z : ST, z = tS s21 3 (τ.2.2.2.2 3) := ⟨_, rfl⟩
  have hw29 : St b s29 (h21.set b (.inr (3, (stF b s21).set 3 (.int (τ.2.2.2.2 3))))) := by rw [hs29]; exact hw21.s3 _
  have ho29 : GOut b 30 h (h21.set b (.inr (3, (stF b s21).set 3 (.int (τ.2.2.2.2 3))))) := ho21.set (by omega) (by omega)
  show WP _ _ _ _ _ _ _ _ (h21.set b (.inr (3, (stF b s21).set 3 (.int (τ.2.2.2.2 3))))) _
  generalize hh29 : (h21.set b (.inr (3, (stF b s21).set 3 (.int (τ.2.2.2.2 3))))) = h29 at hw29 ho29 ⊢
  clear hh29
  refine w_aload_n (pc := 32) (i := 0) dX3_become_32 rfl rfl ?_
  refine w_aload_n (pc := 33) (i := 1) dX3_become_33 rfl rfl ?_
  refine w_get (pc := 34) dX3_become_34 FX3_49 (hc.out ho29 hbc).1 rfl ?_
  refine w_put (pc := 37) dX3_become_37 UX3_49 hw29.1 (Nat.le_of_ble_eq_true rfl) nv_i (fun _ q => by cases q) ?_
  obtain ⟨s37, hs37⟩ : ∃ z : ST, z = tS s29 4 (τ.2.2.2.2 4) := ⟨_, rfl⟩
  have hw37 : St b s37 (h29.set b (.inr (3, (stF b s29).set 4 (.int (τ.2.2.2.2 4))))) := by rw [hs37]; exact hw29.s4 _
  have ho37 : GOut b 30 h (h29.set b (.inr (3, (stF b s29).set 4 (.int (τ.2.2.2.2 4))))) := ho29.set (by omega) (by omega)
  show WP _ _ _ _ _ _ _ _ (h29.set b (.inr (3, (stF b s29).set 4 (.int (τ.2.2.2.2 4))))) _
  generalize hh37 : (h29.set b (.inr (3, (stF b s29).set 4 (.int (τ.2.2.2.2 4))))) = h37 at hw37 ho37 ⊢
  clear hh37
  refine w_aload_n (pc := 40) (i := 0) dX3_become_40 rfl rfl ?_
  refine w_aload_n (pc := 41) (i := 1) dX3_become_41 rfl rfl ?_
  refine w_get (pc := 42) dX3_become_42 FX3_52 (hc.out ho37 hbc).1 rfl ?_
  refine w_put (pc := 45) dX3_become_45 UX3_52 hw37.1 (Nat.le_of_ble_eq_true rfl) nv_i (fun _ q => by cases q) ?_
  obtain ⟨s45, hs45⟩ : ∃ z : ST, z = tS s37 5 (τ.2.2.2.2 5) := ⟨_, rfl⟩
  have hw45 : St b s45 (h37.set b (.inr (3, (stF b s37).set 5 (.int (τ.2.2.2.2 5))))) := by rw [hs45]; exact hw37.s5 _
  have ho45 : GOut b 30 h (h37.set b (.inr (3, (stF b s37).set 5 (.int (τ.2.2.2.2 5))))) := ho37.set (by omega) (by omega)
  show WP _ _ _ _ _ _ _ _ (h37.set b (.inr (3, (stF b s37).set 5 (.int (τ.2.2.2.2 5))))) _
  generalize hh45 : (h37.set b (.inr (3, (stF b s37).set 5 (.int (τ.2.2.2.2 5))))) = h45 at hw45 ho45 ⊢
  clear hh45
  refine w_aload_n (pc := 48) (i := 0) dX3_become_48 rfl rfl ?_
  refine w_aload_n (pc := 49) (i := 1) dX3_become_49 rfl rfl ?_
  refine w_get (pc := 50) dX3_become_50 FX3_55 (hc.out ho45 hbc).1 rfl ?_
  refine w_put (pc := 53) dX3_become_53 UX3_55 hw45.1 (Nat.le_of_ble_eq_true rfl) nv_i (fun _ q => by cases q) ?_
  obtain ⟨s53, hs53⟩ : ∃ z : ST, z = tS s45 6 (τ.2.2.2.2 6) := ⟨_, rfl⟩
  have hw53 : St b s53 (h45.set b (.inr (3, (stF b s45).set 6 (.int (τ.2.2.2.2 6))))) := by rw [hs53]; exact hw45.s6 _
  have ho53 : GOut b 30 h (h45.set b (.inr (3, (stF b s45).set 6 (.int (τ.2.2.2.2 6))))) := ho45.set (by omega) (by omega)
  show WP _ _ _ _ _ _ _ _ (h45.set b (.inr (3, (stF b s45).set 6 (.int (τ.2.2.2.2 6))))) _
  generalize hh53 : (h45.set b (.inr (3, (stF b s45).set 6 (.int (τ.2.2.2.2 6))))) = h53 at hw53 ho53 ⊢
  clear hh53
  refine w_aload_n (pc := 56) (i := 0) dX3_become_56 rfl rfl ?_
  refine w_aload_n (pc := 57) (i := 1) dX3_become_57 rfl rfl ?_
  refine w_get (pc := 58) dX3_become_58 FX3_58 (hc.out ho53 hbc).1 rfl ?_
  refine w_put (pc := 61) dX3_become_61 UX3_58 hw53.1 (Nat.le_of_ble_eq_true rfl) nv_i (fun _ q => by cases q) ?_
  obtain ⟨s61, hs61⟩ : ∃ z : ST, z = tS s53 7 (τ.2.2.2.2 7) := ⟨_, rfl⟩
  have hw61 : St b s61 (h53.set b (.inr (3, (stF b s53).set 7 (.int (τ.2.2.2.2 7))))) := by rw [hs61]; exact hw53.s7 _
  have ho61 : GOut b 30 h (h53.set b (.inr (3, (stF b s53).set 7 (.int (τ.2.2.2.2 7))))) := ho53.set (by omega) (by omega)
  show WP _ _ _ _ _ _ _ _ (h53.set b (.inr (3, (stF b s53).set 7 (.int (τ.2.2.2.2 7))))) _
  generalize hh61 : (h53.set b (.inr (3, (stF b s53).set 7 (.int (τ.2.2.2.2 7))))) = h61 at hw61 ho61 ⊢
  clear hh61
  refine w_aload_n (pc := 64) (i := 0) dX3_become_64 rfl rfl ?_
  refine w_aload_n (pc := 65) (i := 1) dX3_become_65 rfl rfl ?_
  refine w_get (pc := 66) dX3_become_66 FX3_61 (hc.out ho61 hbc).1 rfl ?_
  refine w_put (pc := 69) dX3_become_69 UX3_61 hw61.1 (Nat.le_of_ble_eq_true rfl) nv_i (fun _ q => by cases q) ?_
  obtain ⟨s69, hs69⟩ : ∃ z : ST, z = tC s61 0 (τ.2.2.2.1 0) := ⟨_, rfl⟩
  have hw69 : St b s69 (h61.set b (.inr (3, (stF b s61).set 10 (.int (nI (τ.2.2.2.1 0)))))) := by rw [hs69]; exact hw61.c0 _
  have ho69 : GOut b 30 h (h61.set b (.inr (3, (stF b s61).set 10 (.int (nI (τ.2.2.2.1 0)))))) := ho61.set (by omega) (by omega)
  show WP _ _ _ _ _ _ _ _ (h61.set b (.inr (3, (stF b s61).set 10 (.int (nI (τ.2.2.2.1 0)))))) _
  generalize hh69 : (h61.set b (.inr (3, (stF b s61).set 10 (.int (nI (τ.2.2.2.1 0)))))) = h69 at hw69 ho69 ⊢
  clear hh69
  refine w_aload_n (pc := 72) (i := 0) dX3_become_72 rfl rfl ?_
  refine w_aload_n (pc := 73) (i := 1) dX3_become_73 rfl rfl ?_
  refine w_get (pc := 74) dX3_become_74 FX3_64 (hc.out ho69 hbc).1 rfl ?_
  refine w_put (pc := 77) dX3_become_77 UX3_64 hw69.1 (Nat.le_of_ble_eq_true rfl) nv_i (fun _ q => by cases q) ?_
  obtain ⟨s77, hs77⟩ : ∃ z : ST, z = tC s69 1 (τ.2.2.2.1 1) := ⟨_, rfl⟩
  have hw77 : St b s77 (h69.set b (.inr (3, (stF b s69).set 13 (.int (nI (τ.2.2.2.1 1)))))) := by rw [hs77]; exact hw69.c1 _
  have ho77 : GOut b 30 h (h69.set b (.inr (3, (stF b s69).set 13 (.int (nI (τ.2.2.2.1 1)))))) := ho69.set (by omega) (by omega)
  show WP _ _ _ _ _ _ _ _ (h69.set b (.inr (3, (stF b s69).set 13 (.int (nI (τ.2.2.2.1 1)))))) _
  generalize hh77 : (h69.set b (.inr (3, (stF b s69).set 13 (.int (nI (τ.2.2.2.1 1)))))) = h77 at hw77 ho77 ⊢
  clear hh77
  refine w_aload_n (pc := 80) (i := 0) dX3_become_80 rfl rfl ?_
  refine w_iconst (pc := 81) (v := -1) dX3_become_81 (by decide) ?_
  refine w_put (pc := 82) dX3_become_82 UX3_43 hw77.1 (Nat.le_of_ble_eq_true rfl) nv_i (fun _ q => by cases q) ?_
  obtain ⟨s82, hs82⟩ : ∃ z : ST, z = tS s77 8 (-1) := ⟨_, rfl⟩
  have hw82 : St b s82 (h77.set b (.inr (3, (stF b s77).set 15 (.int (-1))))) := by rw [hs82]; exact hw77.s8 _
  have ho82 : GOut b 30 h (h77.set b (.inr (3, (stF b s77).set 15 (.int (-1))))) := ho77.set (by omega) (by omega)
  show WP _ _ _ _ _ _ _ _ (h77.set b (.inr (3, (stF b s77).set 15 (.int (-1))))) _
  generalize hh82 : (h77.set b (.inr (3, (stF b s77).set 15 (.int (-1))))) = h82 at hw82 ho82 ⊢
  clear hh82
  refine w_aload_n (pc := 85) (i := 0) dX3_become_85 rfl rfl ?_
  refine w_iconst (pc := 86) (v := 0) dX3_become_86 (by decide) ?_
  refine w_put (pc := 87) dX3_become_87 UX3_67 hw82.1 (Nat.le_of_ble_eq_true rfl) nv_i (fun _ q => by cases q) ?_
  obtain ⟨s87, hs87⟩ : ∃ z : ST, z = tS s82 9 (0) := ⟨_, rfl⟩
  have hw87 : St b s87 (h82.set b (.inr (3, (stF b s82).set 16 (.int (0))))) := by rw [hs87]; exact hw82.s9 _
  have ho87 : GOut b 30 h (h82.set b (.inr (3, (stF b s82).set 16 (.int (0))))) := ho82.set (by omega) (by omega)
  show WP _ _ _ _ _ _ _ _ (h82.set b (.inr (3, (stF b s82).set 16 (.int (0))))) _
  generalize hh87 : (h82.set b (.inr (3, (stF b s82).set 16 (.int (0))))) = h87 at hw87 ho87 ⊢
  clear hh87
  have e87 : s87 = rBec1 α τ := by rw [hs87, hs82, hs77, hs69, hs61, hs53, hs45, hs37, hs29, hs21, hs13, hs5]; rfl
  have a87 : s87.1 = α.1 := by rw [e87]; rfl
  refine w_aload_n (pc := 90) (i := 1) dX3_become_90 rfl rfl ?_
  refine w_get (pc := 91) dX3_become_91 FX3_25 (hc.out ho87 hbc).1 rfl ?_
  refine w_iconst (pc := 94) (v := 0) dX3_become_94 (by decide) ?_
  refine w_aload_n (pc := 95) (i := 0) dX3_become_95 rfl rfl ?_
  refine w_get (pc := 96) dX3_become_96 FX3_25 hw87.1 rfl ?_
  refine w_iconst (pc := 99) (v := 0) dX3_become_99 (by decide) ?_
  refine w_bipush (pc := 100) (v := 6) dX3_become_100 (by decide) ?_
  refine w_copy (pc := 102) (sp := 0) (dp := 0) (cn := 6) dX3_become_102 LX3_70 (by omega) rfl (Nat.le_of_ble_eq_true rfl) (hc.out ho87 hbc).tight hw87.tight (by omega) (by omega) (by omega) (by omega) ?_
  rw [a87]
  obtain ⟨s102, hs102⟩ : ∃ z : ST, z = tA s87 0 (va_cpy (τ.1 0) (α.1 0) 0 0 6) := ⟨_, rfl⟩
  have hw102 : St b s102 (h87.set (b + 1) (.inl (6, .inl (va_cpy (τ.1 0) (α.1 0) 0 0 6)))) := by rw [hs102]; exact hw87.a0 _
  have ho102 : GOut b 30 h (h87.set (b + 1) (.inl (6, .inl (va_cpy (τ.1 0) (α.1 0) 0 0 6)))) := ho87.set (by omega) (by omega)
  show WP _ _ _ _ _ _ _ _ (h87.set (b + 1) (.inl (6, .inl (va_cpy (τ.1 0) (α.1 0) 0 0 6)))) _
  generalize hh102 : (h87.set (b + 1) (.inl (6, .inl (va_cpy (τ.1 0) (α.1 0) 0 0 6)))) = h102 at hw102 ho102 ⊢
  clear hh102
  refine w_aload_n (pc := 105) (i := 1) dX3_become_105 rfl rfl ?_
  refine w_get (pc := 106) dX3_become_106 FX3_29 (hc.out ho102 hbc).1 rfl ?_
  refine w_iconst (pc := 109) (v := 0) dX3_become_109 (by decide) ?_
  refine w_aload_n (pc := 110) (i := 0) dX3_become_110 rfl rfl ?_
  refine w_get (pc := 111) dX3_become_111 FX3_29 hw102.1 rfl ?_
  refine w_iconst (pc := 114) (v := 0) dX3_become_114 (by decide) ?_
  refine w_bipush (pc := 115) (v := 6) dX3_become_115 (by decide) ?_
  refine w_copy (pc := 117) (sp := 0) (dp := 0) (cn := 6) dX3_become_117 LX3_70 (by omega) rfl (Nat.le_of_ble_eq_true rfl) (hc.out ho102 hbc).worn hw102.worn (by omega) (by omega) (by omega) (by omega) ?_
  rw [show s102.1 1 = α.1 1 from by rw [hs102]; exact congrFun a87 1]
  obtain ⟨s117, hs117⟩ : ∃ z : ST, z = tA s102 1 (va_cpy (τ.1 1) (α.1 1) 0 0 6) := ⟨_, rfl⟩
  have hw117 : St b s117 (h102.set (b + 2) (.inl (6, .inl (va_cpy (τ.1 1) (α.1 1) 0 0 6)))) := by rw [hs117]; exact hw102.a1 _
  have ho117 : GOut b 30 h (h102.set (b + 2) (.inl (6, .inl (va_cpy (τ.1 1) (α.1 1) 0 0 6)))) := ho102.set (by omega) (by omega)
  show WP _ _ _ _ _ _ _ _ (h102.set (b + 2) (.inl (6, .inl (va_cpy (τ.1 1) (α.1 1) 0 0 6)))) _
  generalize hh117 : (h102.set (b + 2) (.inl (6, .inl (va_cpy (τ.1 1) (α.1 1) 0 0 6)))) = h117 at hw117 ho117 ⊢
  clear hh117
  have e117 : s117 = rBec2 α τ := by rw [hs117, hs102, e87]; rfl
  rw [e117] at hw117
  refine w_iconst (pc := 120) (v := 0) dX3_become_120 (by decide) ?_
  refine w_topi (fun x121 e121 => ?_)
  refine w_istore_n (pc := 121) (i := 2) (ls' := [.ref b, .ref c, .int x121]) dX3_become_121 rfl (by decide) rfl rfl rfl ?_
  subst e121
  refine c_become_ware (h := h) hc hbc (fun h2 hw2 ho2 => ?_) 16 0 h117 rfl hw117 ho117
  have hw2 : St b (rBec3 α τ) h2 := hw2
  refine w_aload_n (pc := 155) (i := 1) dX3_become_155 rfl rfl ?_
  refine w_get (pc := 156) dX3_become_156 FX3_37 (hc.out ho2 hbc).1 rfl ?_
  refine w_iconst (pc := 159) (v := 0) dX3_become_159 (by decide) ?_
  refine w_aload_n (pc := 160) (i := 0) dX3_become_160 rfl rfl ?_
  refine w_get (pc := 161) dX3_become_161 FX3_37 hw2.1 rfl ?_
  refine w_iconst (pc := 164) (v := 0) dX3_become_164 (by decide) ?_
  refine w_aload_n (pc := 165) (i := 0) dX3_become_165 rfl rfl ?_
  refine w_get (pc := 166) dX3_become_166 FX3_37 hw2.1 rfl ?_
  refine w_alen (pc := 169) dX3_become_169 (v := 25) hw2.store rfl ?_
  refine w_copy (pc := 170) (sp := 0) (dp := 0) (cn := 25) dX3_become_170 LX3_70 (by omega) rfl (Nat.le_of_ble_eq_true rfl) (hc.out ho2 hbc).store hw2.store (by omega) (by omega) (by omega) (by omega) ?_
  obtain ⟨s170, hs170⟩ : ∃ z : ST, z = tA (rBec3 α τ) 2 (va_cpy (τ.1 2) ((rBec3 α τ).1 2) 0 0 25) := ⟨_, rfl⟩
  have hw170 : St b s170 (h2.set (b + 20) (.inl (25, .inl (va_cpy (τ.1 2) ((rBec3 α τ).1 2) 0 0 25)))) := by rw [hs170]; exact hw2.a2 _
  have ho170 : GOut b 30 h (h2.set (b + 20) (.inl (25, .inl (va_cpy (τ.1 2) ((rBec3 α τ).1 2) 0 0 25)))) := ho2.set (by omega) (by omega)
  show WP _ _ _ _ _ _ _ _ (h2.set (b + 20) (.inl (25, .inl (va_cpy (τ.1 2) ((rBec3 α τ).1 2) 0 0 25)))) _
  generalize hh170 : (h2.set (b + 20) (.inl (25, .inl (va_cpy (τ.1 2) ((rBec3 α τ).1 2) 0 0 25)))) = h170 at hw170 ho170 ⊢
  clear hh170
  refine w_iconst (pc := 173) (v := 0) dX3_become_173 (by decide) ?_
  refine w_topi (fun x174 e174 => ?_)
  refine w_istore_n (pc := 174) (i := 2) (ls' := [.ref b, .ref c, .int x174]) dX3_become_174 rfl (by decide) rfl rfl rfl ?_
  subst e174
  rw [hs170] at hw170
  exact c_become_order (h := h) hc hbc 8 0 h170 rfl hw170 ho170
set_option maxHeartbeats 4000000 in
theorem c_State_init (hg : g.length = b) : Ct (d + 1) mX3_init 29 165 [.ref b, .ref 27] (g ++ [.inr (3, stD)]) (NT (fun v h1 => v = none ∧ h1.length = b + 30 ∧ (∀ i, i < b → h1[i]? = g[i]?) ∧ St b rZero h1)) := by
  refine Ct.of (by decide +kernel) rfl (Nat.le_of_ble_eq_true rfl) ?_
  show WP (d + 1) mX3_init none 29 165 0 [.ref b, .ref 27] [] (g ++ [.inr (3, [.int 0, .int 0, .int 0, .int 0, .int 0, .int 0, .int 0, .int 0, .null, .null, .int 0, .null, .null, .int 0, .null, .int 0, .int 0, .null])]) _
  refine w_aload_n (pc := 0) (i := 0) dX3_init_0 rfl rfl ?_
  refine w_aload_n (pc := 1) (i := 1) dX3_init_1 rfl rfl ?_
  refine w_putF (pc := 2) dX3_init_2 UX3_3 rfl (gg_get0 hg) (Nat.le_of_ble_eq_true rfl) nv_o (fun _ q => by cases q) ?_
  rw [gg_set0 hg]
  show WP (d + 1) mX3_init none 29 165 5 [.ref b, .ref 27] [] (g ++ [.inr (3, [.int 0, .int 0, .int 0, .int 0, .int 0, .int 0, .int 0, .int 0, .null, .null, .int 0, .null, .null, .int 0, .null, .int 0, .int 0, .ref 27])]) _
  refine w_aload_n (pc := 5) (i := 0) dX3_init_5 rfl rfl ?_
  refine w_objInit (pc := 6) dX3_init_6 LX3_9 (by omega) rfl ?_
  refine w_aload_n (pc := 9) (i := 0) dX3_init_9 rfl rfl ?_
  refine w_sipush (pc := 10) (v := 200) dX3_init_10 (by decide) ?_
  refine w_put (pc := 13) dX3_init_13 UX3_15 (gg_get0 hg) (Nat.le_of_ble_eq_true rfl) nv_i (fun _ q => by cases q) ?_
  rw [gg_set0 hg]
  show WP (d + 1) mX3_init none 29 165 16 [.ref b, .ref 27] [] (g ++ [.inr (3, [.int 0, .int 200, .int 0, .int 0, .int 0, .int 0, .int 0, .int 0, .null, .null, .int 0, .null, .null, .int 0, .null, .int 0, .int 0, .ref 27])]) _
  refine w_aload_n (pc := 16) (i := 0) dX3_init_16 rfl rfl ?_
  refine w_bipush (pc := 17) (v := 20) dX3_init_17 (by decide) ?_
  refine w_put (pc := 19) dX3_init_19 UX3_19 (gg_get0 hg) (Nat.le_of_ble_eq_true rfl) nv_i (fun _ q => by cases q) ?_
  rw [gg_set0 hg]
  show WP (d + 1) mX3_init none 29 165 22 [.ref b, .ref 27] [] (g ++ [.inr (3, [.int 0, .int 200, .int 20, .int 0, .int 0, .int 0, .int 0, .int 0, .null, .null, .int 0, .null, .null, .int 0, .null, .int 0, .int 0, .ref 27])]) _
  refine w_aload_n (pc := 22) (i := 0) dX3_init_22 rfl rfl ?_
  refine w_bipush (pc := 23) (v := 30) dX3_init_23 (by decide) ?_
  refine w_put (pc := 25) dX3_init_25 UX3_22 (gg_get0 hg) (Nat.le_of_ble_eq_true rfl) nv_i (fun _ q => by cases q) ?_
  rw [gg_set0 hg]
  show WP (d + 1) mX3_init none 29 165 28 [.ref b, .ref 27] [] (g ++ [.inr (3, [.int 0, .int 200, .int 20, .int 30, .int 0, .int 0, .int 0, .int 0, .null, .null, .int 0, .null, .null, .int 0, .null, .int 0, .int 0, .ref 27])]) _
  refine w_aload_n (pc := 28) (i := 0) dX3_init_28 rfl rfl ?_
  refine w_bipush (pc := 29) (v := 6) dX3_init_29 (by decide) ?_
  refine w_newi (pc := 31) (N := 6) (k := 28) (n := 159) dX3_init_31 rfl (by omega) ?_
  rw [gg_len hg, List.append_assoc]
  show WP (d + 1) mX3_init none 28 159 33 [.ref b, .ref 27] [.ref (b + 1), .ref b] (g ++ [.inr (3, [.int 0, .int 200, .int 20, .int 30, .int 0, .int 0, .int 0, .int 0, .null, .null, .int 0, .null, .null, .int 0, .null, .int 0, .int 0, .ref 27]), .inl (6, .inl (fun _ => 0))]) _
  refine w_putF (pc := 33) dX3_init_33 UX3_25 rfl (gg_get0 hg) (Nat.le_of_ble_eq_true rfl) nv_a (fun _ q => by cases q) ?_
  rw [gg_set0 hg]
  show WP (d + 1) mX3_init none 28 159 36 [.ref b, .ref 27] [] (g ++ [.inr (3, [.int 0, .int 200, .int 20, .int 30, .int 0, .int 0, .int 0, .int 0, .ref (b + 1), .null, .int 0, .null, .null, .int 0, .null, .int 0, .int 0, .ref 27]), .inl (6, .inl (fun _ => 0))]) _
  refine w_aload_n (pc := 36) (i := 0) dX3_init_36 rfl rfl ?_
  refine w_bipush (pc := 37) (v := 6) dX3_init_37 (by decide) ?_
  refine w_newi (pc := 39) (N := 6) (k := 27) (n := 153) dX3_init_39 rfl (by omega) ?_
  rw [gg_len hg, List.append_assoc]
  show WP (d + 1) mX3_init none 27 153 41 [.ref b, .ref 27] [.ref (b + 2), .ref b] (g ++ [.inr (3, [.int 0, .int 200, .int 20, .int 30, .int 0, .int 0, .int 0, .int 0, .ref (b + 1), .null, .int 0, .null, .null, .int 0, .null, .int 0, .int 0, .ref 27]), .inl (6, .inl (fun _ => 0)), .inl (6, .inl (fun _ => 0))]) _
  refine w_putF (pc := 41) dX3_init_41 UX3_29 rfl (gg_get0 hg) (Nat.le_of_ble_eq_true rfl) nv_a (fun _ q => by cases q) ?_
  rw [gg_set0 hg]
  show WP (d + 1) mX3_init none 27 153 44 [.ref b, .ref 27] [] (g ++ [.inr (3, [.int 0, .int 200, .int 20, .int 30, .int 0, .int 0, .int 0, .int 0, .ref (b + 1), .ref (b + 2), .int 0, .null, .null, .int 0, .null, .int 0, .int 0, .ref 27]), .inl (6, .inl (fun _ => 0)), .inl (6, .inl (fun _ => 0))]) _
  refine w_aload_n (pc := 44) (i := 0) dX3_init_44 rfl rfl ?_
  refine w_bipush (pc := 45) (v := 16) dX3_init_45 (by decide) ?_
  refine w_iconst (pc := 47) (v := 4) dX3_init_47 (by decide) ?_
  refine w_mna (pc := 48) (N := 16) (K := 4) (k := 10) (n := 73) dX3_init_48 QX3_32 (by omega) (by omega) ?_
  rw [gg_len hg, List.append_assoc, List.append_assoc]
  show WP (d + 1) mX3_init none 10 73 52 [.ref b, .ref 27] [.ref (b + 3), .ref b] (g ++ [.inr (3, [.int 0, .int 200, .int 20, .int 30, .int 0, .int 0, .int 0, .int 0, .ref (b + 1), .ref (b + 2), .int 0, .null, .null, .int 0, .null, .int 0, .int 0, .ref 27]), .inl (6, .inl (fun _ => 0)), .inl (6, .inl (fun _ => 0)), .inl (16, .inr (.inr (.inr (.inr (rowsAt (b + 4) 16))))), .inl (4, .inl (fun _ => 0)), .inl (4, .inl (fun _ => 0)), .inl (4, .inl (fun _ => 0)), .inl (4, .inl (fun _ => 0)), .inl (4, .inl (fun _ => 0)), .inl (4, .inl (fun _ => 0)), .inl (4, .inl (fun _ => 0)), .inl (4, .inl (fun _ => 0)), .inl (4, .inl (fun _ => 0)), .inl (4, .inl (fun _ => 0)), .inl (4, .inl (fun _ => 0)), .inl (4, .inl (fun _ => 0)), .inl (4, .inl (fun _ => 0)), .inl (4, .inl (fun _ => 0)), .inl (4, .inl (fun _ => 0)), .inl (4, .inl (fun _ => 0))]) _
  refine w_putF (pc := 52) dX3_init_52 UX3_34 rfl (gg_get0 hg) (Nat.le_of_ble_eq_true rfl) nv_a (fun _ q => by cases q) ?_
  rw [gg_set0 hg]
  show WP (d + 1) mX3_init none 10 73 55 [.ref b, .ref 27] [] (g ++ [.inr (3, [.int 0, .int 200, .int 20, .int 30, .int 0, .int 0, .int 0, .int 0, .ref (b + 1), .ref (b + 2), .int 0, .ref (b + 3), .null, .int 0, .null, .int 0, .int 0, .ref 27]), .inl (6, .inl (fun _ => 0)), .inl (6, .inl (fun _ => 0)), .inl (16, .inr (.inr (.inr (.inr (rowsAt (b + 4) 16))))), .inl (4, .inl (fun _ => 0)), .inl (4, .inl (fun _ => 0)), .inl (4, .inl (fun _ => 0)), .inl (4, .inl (fun _ => 0)), .inl (4, .inl (fun _ => 0)), .inl (4, .inl (fun _ => 0)), .inl (4, .inl (fun _ => 0)), .inl (4, .inl (fun _ => 0)), .inl (4, .inl (fun _ => 0)), .inl (4, .inl (fun _ => 0)), .inl (4, .inl (fun _ => 0)), .inl (4, .inl (fun _ => 0)), .inl (4, .inl (fun _ => 0)), .inl (4, .inl (fun _ => 0)), .inl (4, .inl (fun _ => 0)), .inl (4, .inl (fun _ => 0))]) _
  refine w_aload_n (pc := 55) (i := 0) dX3_init_55 rfl rfl ?_
  refine w_bipush (pc := 56) (v := 25) dX3_init_56 (by decide) ?_
  refine w_newi (pc := 58) (N := 25) (k := 9) (n := 48) dX3_init_58 rfl (by omega) ?_
  rw [gg_len hg, List.append_assoc]
  show WP (d + 1) mX3_init none 9 48 60 [.ref b, .ref 27] [.ref (b + 20), .ref b] (g ++ [.inr (3, [.int 0, .int 200, .int 20, .int 30, .int 0, .int 0, .int 0, .int 0, .ref (b + 1), .ref (b + 2), .int 0, .ref (b + 3), .null, .int 0, .null, .int 0, .int 0, .ref 27]), .inl (6, .inl (fun _ => 0)), .inl (6, .inl (fun _ => 0)), .inl (16, .inr (.inr (.inr (.inr (rowsAt (b + 4) 16))))), .inl (4, .inl (fun _ => 0)), .inl (4, .inl (fun _ => 0)), .inl (4, .inl (fun _ => 0)), .inl (4, .inl (fun _ => 0)), .inl (4, .inl (fun _ => 0)), .inl (4, .inl (fun _ => 0)), .inl (4, .inl (fun _ => 0)), .inl (4, .inl (fun _ => 0)), .inl (4, .inl (fun _ => 0)), .inl (4, .inl (fun _ => 0)), .inl (4, .inl (fun _ => 0)), .inl (4, .inl (fun _ => 0)), .inl (4, .inl (fun _ => 0)), .inl (4, .inl (fun _ => 0)), .inl (4, .inl (fun _ => 0)), .inl (4, .inl (fun _ => 0)), .inl (25, .inl (fun _ => 0))]) _
  refine w_putF (pc := 60) dX3_init_60 UX3_37 rfl (gg_get0 hg) (Nat.le_of_ble_eq_true rfl) nv_a (fun _ q => by cases q) ?_
  rw [gg_set0 hg]
  show WP (d + 1) mX3_init none 9 48 63 [.ref b, .ref 27] [] (g ++ [.inr (3, [.int 0, .int 200, .int 20, .int 30, .int 0, .int 0, .int 0, .int 0, .ref (b + 1), .ref (b + 2), .int 0, .ref (b + 3), .ref (b + 20), .int 0, .null, .int 0, .int 0, .ref 27]), .inl (6, .inl (fun _ => 0)), .inl (6, .inl (fun _ => 0)), .inl (16, .inr (.inr (.inr (.inr (rowsAt (b + 4) 16))))), .inl (4, .inl (fun _ => 0)), .inl (4, .inl (fun _ => 0)), .inl (4, .inl (fun _ => 0)), .inl (4, .inl (fun _ => 0)), .inl (4, .inl (fun _ => 0)), .inl (4, .inl (fun _ => 0)), .inl (4, .inl (fun _ => 0)), .inl (4, .inl (fun _ => 0)), .inl (4, .inl (fun _ => 0)), .inl (4, .inl (fun _ => 0)), .inl (4, .inl (fun _ => 0)), .inl (4, .inl (fun _ => 0)), .inl (4, .inl (fun _ => 0)), .inl (4, .inl (fun _ => 0)), .inl (4, .inl (fun _ => 0)), .inl (4, .inl (fun _ => 0)), .inl (25, .inl (fun _ => 0))]) _
  refine w_aload_n (pc := 63) (i := 0) dX3_init_63 rfl rfl ?_
  refine w_bipush (pc := 64) (v := 8) dX3_init_64 (by decide) ?_
  refine w_iconst (pc := 66) (v := 5) dX3_init_66 (by decide) ?_
  refine w_mna (pc := 67) (N := 8) (K := 5) (k := 0) (n := 0) dX3_init_67 QX3_32 (by omega) (by omega) ?_
  rw [gg_len hg, List.append_assoc, List.append_assoc]
  show WP (d + 1) mX3_init none 0 0 71 [.ref b, .ref 27] [.ref (b + 21), .ref b] (g ++ [.inr (3, [.int 0, .int 200, .int 20, .int 30, .int 0, .int 0, .int 0, .int 0, .ref (b + 1), .ref (b + 2), .int 0, .ref (b + 3), .ref (b + 20), .int 0, .null, .int 0, .int 0, .ref 27]), .inl (6, .inl (fun _ => 0)), .inl (6, .inl (fun _ => 0)), .inl (16, .inr (.inr (.inr (.inr (rowsAt (b + 4) 16))))), .inl (4, .inl (fun _ => 0)), .inl (4, .inl (fun _ => 0)), .inl (4, .inl (fun _ => 0)), .inl (4, .inl (fun _ => 0)), .inl (4, .inl (fun _ => 0)), .inl (4, .inl (fun _ => 0)), .inl (4, .inl (fun _ => 0)), .inl (4, .inl (fun _ => 0)), .inl (4, .inl (fun _ => 0)), .inl (4, .inl (fun _ => 0)), .inl (4, .inl (fun _ => 0)), .inl (4, .inl (fun _ => 0)), .inl (4, .inl (fun _ => 0)), .inl (4, .inl (fun _ => 0)), .inl (4, .inl (fun _ => 0)), .inl (4, .inl (fun _ => 0)), .inl (25, .inl (fun _ => 0)), .inl (8, .inr (.inr (.inr (.inr (rowsAt (b + 22) 8))))), .inl (5, .inl (fun _ => 0)), .inl (5, .inl (fun _ => 0)), .inl (5, .inl (fun _ => 0)), .inl (5, .inl (fun _ => 0)), .inl (5, .inl (fun _ => 0)), .inl (5, .inl (fun _ => 0)), .inl (5, .inl (fun _ => 0)), .inl (5, .inl (fun _ => 0))]) _
  refine w_putF (pc := 71) dX3_init_71 UX3_40 rfl (gg_get0 hg) (Nat.le_of_ble_eq_true rfl) nv_a (fun _ q => by cases q) ?_
  rw [gg_set0 hg]
  show WP (d + 1) mX3_init none 0 0 74 [.ref b, .ref 27] [] (g ++ [.inr (3, [.int 0, .int 200, .int 20, .int 30, .int 0, .int 0, .int 0, .int 0, .ref (b + 1), .ref (b + 2), .int 0, .ref (b + 3), .ref (b + 20), .int 0, .ref (b + 21), .int 0, .int 0, .ref 27]), .inl (6, .inl (fun _ => 0)), .inl (6, .inl (fun _ => 0)), .inl (16, .inr (.inr (.inr (.inr (rowsAt (b + 4) 16))))), .inl (4, .inl (fun _ => 0)), .inl (4, .inl (fun _ => 0)), .inl (4, .inl (fun _ => 0)), .inl (4, .inl (fun _ => 0)), .inl (4, .inl (fun _ => 0)), .inl (4, .inl (fun _ => 0)), .inl (4, .inl (fun _ => 0)), .inl (4, .inl (fun _ => 0)), .inl (4, .inl (fun _ => 0)), .inl (4, .inl (fun _ => 0)), .inl (4, .inl (fun _ => 0)), .inl (4, .inl (fun _ => 0)), .inl (4, .inl (fun _ => 0)), .inl (4, .inl (fun _ => 0)), .inl (4, .inl (fun _ => 0)), .inl (4, .inl (fun _ => 0)), .inl (25, .inl (fun _ => 0)), .inl (8, .inr (.inr (.inr (.inr (rowsAt (b + 22) 8))))), .inl (5, .inl (fun _ => 0)), .inl (5, .inl (fun _ => 0)), .inl (5, .inl (fun _ => 0)), .inl (5, .inl (fun _ => 0)), .inl (5, .inl (fun _ => 0)), .inl (5, .inl (fun _ => 0)), .inl (5, .inl (fun _ => 0)), .inl (5, .inl (fun _ => 0))]) _
  refine w_aload_n (pc := 74) (i := 0) dX3_init_74 rfl rfl ?_
  refine w_iconst (pc := 75) (v := -1) dX3_init_75 (by decide) ?_
  refine w_put (pc := 76) dX3_init_76 UX3_43 (gg_get0 hg) (Nat.le_of_ble_eq_true rfl) nv_i (fun _ q => by cases q) ?_
  rw [gg_set0 hg]
  show WP (d + 1) mX3_init none 0 0 79 [.ref b, .ref 27] [] (g ++ [.inr (3, [.int 0, .int 200, .int 20, .int 30, .int 0, .int 0, .int 0, .int 0, .ref (b + 1), .ref (b + 2), .int 0, .ref (b + 3), .ref (b + 20), .int 0, .ref (b + 21), .int (-1), .int 0, .ref 27]), .inl (6, .inl (fun _ => 0)), .inl (6, .inl (fun _ => 0)), .inl (16, .inr (.inr (.inr (.inr (rowsAt (b + 4) 16))))), .inl (4, .inl (fun _ => 0)), .inl (4, .inl (fun _ => 0)), .inl (4, .inl (fun _ => 0)), .inl (4, .inl (fun _ => 0)), .inl (4, .inl (fun _ => 0)), .inl (4, .inl (fun _ => 0)), .inl (4, .inl (fun _ => 0)), .inl (4, .inl (fun _ => 0)), .inl (4, .inl (fun _ => 0)), .inl (4, .inl (fun _ => 0)), .inl (4, .inl (fun _ => 0)), .inl (4, .inl (fun _ => 0)), .inl (4, .inl (fun _ => 0)), .inl (4, .inl (fun _ => 0)), .inl (4, .inl (fun _ => 0)), .inl (4, .inl (fun _ => 0)), .inl (25, .inl (fun _ => 0)), .inl (8, .inr (.inr (.inr (.inr (rowsAt (b + 22) 8))))), .inl (5, .inl (fun _ => 0)), .inl (5, .inl (fun _ => 0)), .inl (5, .inl (fun _ => 0)), .inl (5, .inl (fun _ => 0)), .inl (5, .inl (fun _ => 0)), .inl (5, .inl (fun _ => 0)), .inl (5, .inl (fun _ => 0)), .inl (5, .inl (fun _ => 0))]) _
  refine w_return (pc := 79) dX3_init_79 rfl ⟨none, rfl, rfl, gg_len hg, fun i hi => gg_low hg hi, gg_get0 hg, gg_get hg 1, gg_get hg 2, gg_get hg 3, gg_get hg 20, gg_get hg 21, fun k hk => ?_, fun k hk => ?_⟩
  · match k, hk with
    | 0, _ => exact gg_get hg 4
    | 1, _ => exact gg_get hg 5
    | 2, _ => exact gg_get hg 6
    | 3, _ => exact gg_get hg 7
    | 4, _ => exact gg_get hg 8
    | 5, _ => exact gg_get hg 9
    | 6, _ => exact gg_get hg 10
    | 7, _ => exact gg_get hg 11
    | 8, _ => exact gg_get hg 12
    | 9, _ => exact gg_get hg 13
    | 10, _ => exact gg_get hg 14
    | 11, _ => exact gg_get hg 15
    | 12, _ => exact gg_get hg 16
    | 13, _ => exact gg_get hg 17
    | 14, _ => exact gg_get hg 18
    | 15, _ => exact gg_get hg 19
    | k + 16, hk => exact absurd hk (by omega)
  · match k, hk with
    | 0, _ => exact gg_get hg 22
    | 1, _ => exact gg_get hg 23
    | 2, _ => exact gg_get hg 24
    | 3, _ => exact gg_get hg 25
    | 4, _ => exact gg_get hg 26
    | 5, _ => exact gg_get hg 27
    | 6, _ => exact gg_get hg 28
    | 7, _ => exact gg_get hg 29
end RINIT
