/-! the reference: its states -/
abbrev ST : Type := (Nat → Nat → Int32) × (Nat → Nat → Int32) × (Nat → Nat → Int32) × (Nat → Nat) × (Nat → Int32)
abbrev MS : Type := (Nat → Nat → Int32) × (Nat → Nat)
def tA (τ : ST) (i : Nat) (f : Nat → Int32) : ST := (fun a => if a = i then f else τ.1 a, τ.2)
def tW (τ : ST) (k : Nat) (f : Nat → Int32) : ST := (τ.1, fun a => if a = k then f else τ.2.1 a, τ.2.2)
def tO (τ : ST) (k : Nat) (f : Nat → Int32) : ST := (τ.1, τ.2.1, fun a => if a = k then f else τ.2.2.1 a, τ.2.2.2)
def tC (τ : ST) (i n : Nat) : ST := (τ.1, τ.2.1, τ.2.2.1, fun a => if a = i then n else τ.2.2.2.1 a, τ.2.2.2.2)
def tS (τ : ST) (i : Nat) (x : Int32) : ST := (τ.1, τ.2.1, τ.2.2.1, τ.2.2.2.1, fun a => if a = i then x else τ.2.2.2.2 a)
def rowsAt (b N : Nat) : Nat → Option Nat := fun j => if j < N then some (b + j) else none
theorem rowsAt_nI {b N k : Nat} (hk : k < N) (hN : N < 2 ^ 31) : rowsAt b N (nI k).toNatClampNeg = some (b + k) := by
  rw [nI_clamp (by omega)]
  exact if_pos hk
def stF (b : Nat) (τ : ST) : List Value := [.int (τ.2.2.2.2 0), .int (τ.2.2.2.2 1), .int (τ.2.2.2.2 2), .int (τ.2.2.2.2 3), .int (τ.2.2.2.2 4), .int (τ.2.2.2.2 5), .int (τ.2.2.2.2 6), .int (τ.2.2.2.2 7), .ref (b + 1), .ref (b + 2), .int (nI (τ.2.2.2.1 0)), .ref (b + 3), .ref (b + 20), .int (nI (τ.2.2.2.1 1)), .ref (b + 21), .int (τ.2.2.2.2 8), .int (τ.2.2.2.2 9), .ref 27]
def St (b : Nat) (τ : ST) (h : AH) : Prop :=
  h[b]? = some (.inr (3, stF b τ)) ∧ h[b + 1]? = some (.inl (6, .inl (τ.1 0))) ∧ h[b + 2]? = some (.inl (6, .inl (τ.1 1))) ∧ h[b + 3]? = some (.inl (16, .inr (.inr (.inr (.inr (rowsAt (b + 4) 16)))))) ∧ h[b + 20]? = some (.inl (25, .inl (τ.1 2))) ∧ h[b + 21]? = some (.inl (8, .inr (.inr (.inr (.inr (rowsAt (b + 22) 8)))))) ∧
  (∀ k, k < 16 → h[b + 4 + k]? = some (.inl (4, .inl (τ.2.1 k)))) ∧ (∀ k, k < 8 → h[b + 22 + k]? = some (.inl (5, .inl (τ.2.2.1 k))))
def mdF (μ : MS) (t : Int32) : List Value := [.int t, .ref 28, .int (nI (μ.2 0)), .ref 29, .int (nI (μ.2 1)), .ref 30, .ref 31, .ref 32, .ref 62]
def Md (μ : MS) (t : Int32) (h : AH) : Prop :=
  h[27]? = some (.inr (4, mdF μ t)) ∧ h[28]? = some (.inl (7, .inl (μ.1 0))) ∧ h[29]? = some (.inl (6, .inl (μ.1 1))) ∧ h[30]? = some (.inl (5, .inl (μ.1 2))) ∧ h[31]? = some (.inl (5, .inl (μ.1 3)))
def GOut (b w : Nat) (h h1 : AH) : Prop := ∀ (i : Nat) (x : AC), (i < b ∨ b + w ≤ i) → h[i]? = some x → h1[i]? = some x
theorem GOut.rf {b w : Nat} {h : AH} : GOut b w h h := fun _ _ _ q => q
theorem GOut.tr {b w : Nat} {h h1 h2 : AH} (a : GOut b w h h1) (c : GOut b w h1 h2) : GOut b w h h2 := fun i x hi q => c i x hi (a i x hi q)
theorem GOut.set {b w i : Nat} {h h1 : AH} {x : AC} (a : GOut b w h h1) (h0 : b ≤ i) (h2 : i < b + w) : GOut b w h (h1.set i x) := fun j y hj q => by rw [gsn (by omega)]; exact a j y hj q
theorem GOut.mono {b w b' w' : Nat} {h h1 : AH} (a : GOut b w h h1) (h0 : b' ≤ b) (h2 : b + w ≤ b' + w') : GOut b' w' h h1 := fun i x hi q => a i x (by omega) q
theorem GOut.grow {b w : Nat} {h h1 : AH} {L : List AC} (a : GOut b w h h1) : GOut b w h (h1 ++ L) := fun i x hi q => by
  have e := a i x hi q
  rw [List.getElem?_append_left (List.getElem?_eq_some_iff.mp e).1]
  exact e
theorem GOut.nil {b w : Nat} {h h1 : AH} (a : GOut 0 0 h h1) : GOut b w h h1 := fun i x _ q => a i x (Or.inr (Nat.zero_le _)) q
theorem Out.g {b w : Nat} {h h1 : AH} (a : Out b w h h1) : GOut b w h h1 := fun i x hi q => (a.2 i hi).trans q
theorem St.out {b c w : Nat} {τ : ST} {h h1 : AH} (hs : St b τ h) (ho : GOut c w h h1) (hb : b + 30 ≤ c ∨ c + w ≤ b) : St b τ h1 :=
  ⟨ho _ _ (by omega) hs.1, ho _ _ (by omega) hs.2.1, ho _ _ (by omega) hs.2.2.1, ho _ _ (by omega) hs.2.2.2.1, ho _ _ (by omega) hs.2.2.2.2.1, ho _ _ (by omega) hs.2.2.2.2.2.1, fun k hk => ho _ _ (by omega) (hs.2.2.2.2.2.2.1 k hk), fun k hk => ho _ _ (by omega) (hs.2.2.2.2.2.2.2 k hk)⟩
theorem St.nil {b : Nat} {τ : ST} {h h1 : AH} (hs : St b τ h) (ho : GOut 0 0 h h1) : St b τ h1 := hs.out ho (Or.inr (Nat.zero_le _))
theorem Md.out {c w : Nat} {μ : MS} {t : Int32} {h h1 : AH} (hs : Md μ t h) (ho : GOut c w h h1) (hb : 32 ≤ c) : Md μ t h1 :=
  ⟨ho _ _ (by omega) hs.1, ho _ _ (by omega) hs.2.1, ho _ _ (by omega) hs.2.2.1, ho _ _ (by omega) hs.2.2.2.1, ho _ _ (by omega) hs.2.2.2.2⟩
theorem Md.nil {μ : MS} {t : Int32} {h h1 : AH} (hs : Md μ t h) (ho : GOut 0 0 h h1) : Md μ t h1 :=
  ⟨ho _ _ (by omega) hs.1, ho _ _ (by omega) hs.2.1, ho _ _ (by omega) hs.2.2.1, ho _ _ (by omega) hs.2.2.2.1, ho _ _ (by omega) hs.2.2.2.2⟩
section STL
variable {b : Nat} {τ : ST} {h : AH}
theorem St.wg (hs : St b τ h) {k : Nat} (hk : k < 16) : h[b + 4 + k]? = some (.inl (4, .inl (τ.2.1 k))) := hs.2.2.2.2.2.2.1 k hk
theorem St.og (hs : St b τ h) {k : Nat} (hk : k < 8) : h[b + 22 + k]? = some (.inl (5, .inl (τ.2.2.1 k))) := hs.2.2.2.2.2.2.2 k hk
theorem St.s0 (hs : St b τ h) (x : Int32) : St b (tS τ 0 x) (h.set b (.inr (3, (stF b τ).set 0 (.int x)))) := ⟨gss hs.1, by rw [gsn (by omega)]; exact hs.2.1, by rw [gsn (by omega)]; exact hs.2.2.1, by rw [gsn (by omega)]; exact hs.2.2.2.1, by rw [gsn (by omega)]; exact hs.2.2.2.2.1, by rw [gsn (by omega)]; exact hs.2.2.2.2.2.1, fun k hk => by rw [gsn (by omega)]; exact hs.2.2.2.2.2.2.1 k hk, fun k hk => by rw [gsn (by omega)]; exact hs.2.2.2.2.2.2.2 k hk⟩
theorem St.s1 (hs : St b τ h) (x : Int32) : St b (tS τ 1 x) (h.set b (.inr (3, (stF b τ).set 1 (.int x)))) := ⟨gss hs.1, by rw [gsn (by omega)]; exact hs.2.1, by rw [gsn (by omega)]; exact hs.2.2.1, by rw [gsn (by omega)]; exact hs.2.2.2.1, by rw [gsn (by omega)]; exact hs.2.2.2.2.1, by rw [gsn (by omega)]; exact hs.2.2.2.2.2.1, fun k hk => by rw [gsn (by omega)]; exact hs.2.2.2.2.2.2.1 k hk, fun k hk => by rw [gsn (by omega)]; exact hs.2.2.2.2.2.2.2 k hk⟩
theorem St.s2 (hs : St b τ h) (x : Int32) : St b (tS τ 2 x) (h.set b (.inr (3, (stF b τ).set 2 (.int x)))) := ⟨gss hs.1, by rw [gsn (by omega)]; exact hs.2.1, by rw [gsn (by omega)]; exact hs.2.2.1, by rw [gsn (by omega)]; exact hs.2.2.2.1, by rw [gsn (by omega)]; exact hs.2.2.2.2.1, by rw [gsn (by omega)]; exact hs.2.2.2.2.2.1, fun k hk => by rw [gsn (by omega)]; exact hs.2.2.2.2.2.2.1 k hk, fun k hk => by rw [gsn (by omega)]; exact hs.2.2.2.2.2.2.2 k hk⟩
theorem St.s3 (hs : St b τ h) (x : Int32) : St b (tS τ 3 x) (h.set b (.inr (3, (stF b τ).set 3 (.int x)))) := ⟨gss hs.1, by rw [gsn (by omega)]; exact hs.2.1, by rw [gsn (by omega)]; exact hs.2.2.1, by rw [gsn (by omega)]; exact hs.2.2.2.1, by rw [gsn (by omega)]; exact hs.2.2.2.2.1, by rw [gsn (by omega)]; exact hs.2.2.2.2.2.1, fun k hk => by rw [gsn (by omega)]; exact hs.2.2.2.2.2.2.1 k hk, fun k hk => by rw [gsn (by omega)]; exact hs.2.2.2.2.2.2.2 k hk⟩
theorem St.s4 (hs : St b τ h) (x : Int32) : St b (tS τ 4 x) (h.set b (.inr (3, (stF b τ).set 4 (.int x)))) := ⟨gss hs.1, by rw [gsn (by omega)]; exact hs.2.1, by rw [gsn (by omega)]; exact hs.2.2.1, by rw [gsn (by omega)]; exact hs.2.2.2.1, by rw [gsn (by omega)]; exact hs.2.2.2.2.1, by rw [gsn (by omega)]; exact hs.2.2.2.2.2.1, fun k hk => by rw [gsn (by omega)]; exact hs.2.2.2.2.2.2.1 k hk, fun k hk => by rw [gsn (by omega)]; exact hs.2.2.2.2.2.2.2 k hk⟩
theorem St.s5 (hs : St b τ h) (x : Int32) : St b (tS τ 5 x) (h.set b (.inr (3, (stF b τ).set 5 (.int x)))) := ⟨gss hs.1, by rw [gsn (by omega)]; exact hs.2.1, by rw [gsn (by omega)]; exact hs.2.2.1, by rw [gsn (by omega)]; exact hs.2.2.2.1, by rw [gsn (by omega)]; exact hs.2.2.2.2.1, by rw [gsn (by omega)]; exact hs.2.2.2.2.2.1, fun k hk => by rw [gsn (by omega)]; exact hs.2.2.2.2.2.2.1 k hk, fun k hk => by rw [gsn (by omega)]; exact hs.2.2.2.2.2.2.2 k hk⟩
theorem St.s6 (hs : St b τ h) (x : Int32) : St b (tS τ 6 x) (h.set b (.inr (3, (stF b τ).set 6 (.int x)))) := ⟨gss hs.1, by rw [gsn (by omega)]; exact hs.2.1, by rw [gsn (by omega)]; exact hs.2.2.1, by rw [gsn (by omega)]; exact hs.2.2.2.1, by rw [gsn (by omega)]; exact hs.2.2.2.2.1, by rw [gsn (by omega)]; exact hs.2.2.2.2.2.1, fun k hk => by rw [gsn (by omega)]; exact hs.2.2.2.2.2.2.1 k hk, fun k hk => by rw [gsn (by omega)]; exact hs.2.2.2.2.2.2.2 k hk⟩
theorem St.s7 (hs : St b τ h) (x : Int32) : St b (tS τ 7 x) (h.set b (.inr (3, (stF b τ).set 7 (.int x)))) := ⟨gss hs.1, by rw [gsn (by omega)]; exact hs.2.1, by rw [gsn (by omega)]; exact hs.2.2.1, by rw [gsn (by omega)]; exact hs.2.2.2.1, by rw [gsn (by omega)]; exact hs.2.2.2.2.1, by rw [gsn (by omega)]; exact hs.2.2.2.2.2.1, fun k hk => by rw [gsn (by omega)]; exact hs.2.2.2.2.2.2.1 k hk, fun k hk => by rw [gsn (by omega)]; exact hs.2.2.2.2.2.2.2 k hk⟩
theorem St.s8 (hs : St b τ h) (x : Int32) : St b (tS τ 8 x) (h.set b (.inr (3, (stF b τ).set 15 (.int x)))) := ⟨gss hs.1, by rw [gsn (by omega)]; exact hs.2.1, by rw [gsn (by omega)]; exact hs.2.2.1, by rw [gsn (by omega)]; exact hs.2.2.2.1, by rw [gsn (by omega)]; exact hs.2.2.2.2.1, by rw [gsn (by omega)]; exact hs.2.2.2.2.2.1, fun k hk => by rw [gsn (by omega)]; exact hs.2.2.2.2.2.2.1 k hk, fun k hk => by rw [gsn (by omega)]; exact hs.2.2.2.2.2.2.2 k hk⟩
theorem St.s9 (hs : St b τ h) (x : Int32) : St b (tS τ 9 x) (h.set b (.inr (3, (stF b τ).set 16 (.int x)))) := ⟨gss hs.1, by rw [gsn (by omega)]; exact hs.2.1, by rw [gsn (by omega)]; exact hs.2.2.1, by rw [gsn (by omega)]; exact hs.2.2.2.1, by rw [gsn (by omega)]; exact hs.2.2.2.2.1, by rw [gsn (by omega)]; exact hs.2.2.2.2.2.1, fun k hk => by rw [gsn (by omega)]; exact hs.2.2.2.2.2.2.1 k hk, fun k hk => by rw [gsn (by omega)]; exact hs.2.2.2.2.2.2.2 k hk⟩
theorem St.c0 (hs : St b τ h) (n : Nat) : St b (tC τ 0 n) (h.set b (.inr (3, (stF b τ).set 10 (.int (nI n))))) := ⟨gss hs.1, by rw [gsn (by omega)]; exact hs.2.1, by rw [gsn (by omega)]; exact hs.2.2.1, by rw [gsn (by omega)]; exact hs.2.2.2.1, by rw [gsn (by omega)]; exact hs.2.2.2.2.1, by rw [gsn (by omega)]; exact hs.2.2.2.2.2.1, fun k hk => by rw [gsn (by omega)]; exact hs.2.2.2.2.2.2.1 k hk, fun k hk => by rw [gsn (by omega)]; exact hs.2.2.2.2.2.2.2 k hk⟩
theorem St.c1 (hs : St b τ h) (n : Nat) : St b (tC τ 1 n) (h.set b (.inr (3, (stF b τ).set 13 (.int (nI n))))) := ⟨gss hs.1, by rw [gsn (by omega)]; exact hs.2.1, by rw [gsn (by omega)]; exact hs.2.2.1, by rw [gsn (by omega)]; exact hs.2.2.2.1, by rw [gsn (by omega)]; exact hs.2.2.2.2.1, by rw [gsn (by omega)]; exact hs.2.2.2.2.2.1, fun k hk => by rw [gsn (by omega)]; exact hs.2.2.2.2.2.2.1 k hk, fun k hk => by rw [gsn (by omega)]; exact hs.2.2.2.2.2.2.2 k hk⟩
theorem St.a0 (hs : St b τ h) (f : Nat → Int32) : St b (tA τ 0 f) (h.set (b + 1) (.inl (6, .inl f))) := ⟨by rw [gsn (by omega)]; exact hs.1, gss hs.2.1, by rw [gsn (by omega)]; exact hs.2.2.1, by rw [gsn (by omega)]; exact hs.2.2.2.1, by rw [gsn (by omega)]; exact hs.2.2.2.2.1, by rw [gsn (by omega)]; exact hs.2.2.2.2.2.1, fun k hk => by rw [gsn (by omega)]; exact hs.2.2.2.2.2.2.1 k hk, fun k hk => by rw [gsn (by omega)]; exact hs.2.2.2.2.2.2.2 k hk⟩
theorem St.a1 (hs : St b τ h) (f : Nat → Int32) : St b (tA τ 1 f) (h.set (b + 2) (.inl (6, .inl f))) := ⟨by rw [gsn (by omega)]; exact hs.1, by rw [gsn (by omega)]; exact hs.2.1, gss hs.2.2.1, by rw [gsn (by omega)]; exact hs.2.2.2.1, by rw [gsn (by omega)]; exact hs.2.2.2.2.1, by rw [gsn (by omega)]; exact hs.2.2.2.2.2.1, fun k hk => by rw [gsn (by omega)]; exact hs.2.2.2.2.2.2.1 k hk, fun k hk => by rw [gsn (by omega)]; exact hs.2.2.2.2.2.2.2 k hk⟩
theorem St.a2 (hs : St b τ h) (f : Nat → Int32) : St b (tA τ 2 f) (h.set (b + 20) (.inl (25, .inl f))) := ⟨by rw [gsn (by omega)]; exact hs.1, by rw [gsn (by omega)]; exact hs.2.1, by rw [gsn (by omega)]; exact hs.2.2.1, by rw [gsn (by omega)]; exact hs.2.2.2.1, gss hs.2.2.2.2.1, by rw [gsn (by omega)]; exact hs.2.2.2.2.2.1, fun k hk => by rw [gsn (by omega)]; exact hs.2.2.2.2.2.2.1 k hk, fun k hk => by rw [gsn (by omega)]; exact hs.2.2.2.2.2.2.2 k hk⟩
theorem St.w (hs : St b τ h) {k : Nat} (hk : k < 16) (f : Nat → Int32) : St b (tW τ k f) (h.set (b + 4 + k) (.inl (4, .inl f))) := ⟨by rw [gsn (by omega)]; exact hs.1, by rw [gsn (by omega)]; exact hs.2.1, by rw [gsn (by omega)]; exact hs.2.2.1, by rw [gsn (by omega)]; exact hs.2.2.2.1, by rw [gsn (by omega)]; exact hs.2.2.2.2.1, by rw [gsn (by omega)]; exact hs.2.2.2.2.2.1, fun a ha => by
    show (_ : Option AC) = some (.inl (4, .inl (if a = k then f else τ.2.1 a)))
    by_cases e : a = k
    · subst e; rw [if_pos rfl]; exact gss (hs.wg ha)
    · rw [if_neg e, gsn (by omega)]; exact hs.wg ha, fun k hk => by rw [gsn (by omega)]; exact hs.2.2.2.2.2.2.2 k hk⟩
theorem St.o (hs : St b τ h) {k : Nat} (hk : k < 8) (f : Nat → Int32) : St b (tO τ k f) (h.set (b + 22 + k) (.inl (5, .inl f))) := ⟨by rw [gsn (by omega)]; exact hs.1, by rw [gsn (by omega)]; exact hs.2.1, by rw [gsn (by omega)]; exact hs.2.2.1, by rw [gsn (by omega)]; exact hs.2.2.2.1, by rw [gsn (by omega)]; exact hs.2.2.2.2.1, by rw [gsn (by omega)]; exact hs.2.2.2.2.2.1, fun k hk => by rw [gsn (by omega)]; exact hs.2.2.2.2.2.2.1 k hk, fun a ha => by
    show (_ : Option AC) = some (.inl (5, .inl (if a = k then f else τ.2.2.1 a)))
    by_cases e : a = k
    · subst e; rw [if_pos rfl]; exact gss (hs.og ha)
    · rw [if_neg e, gsn (by omega)]; exact hs.og ha⟩
theorem St.tight (hs : St b τ h) : h[b + 1]? = some (.inl (6, .inl (τ.1 0))) := hs.2.1
theorem St.worn (hs : St b τ h) : h[b + 2]? = some (.inl (6, .inl (τ.1 1))) := hs.2.2.1
theorem St.ware (hs : St b τ h) : h[b + 3]? = some (.inl (16, .inr (.inr (.inr (.inr (rowsAt (b + 4) 16)))))) := hs.2.2.2.1
theorem St.store (hs : St b τ h) : h[b + 20]? = some (.inl (25, .inl (τ.1 2))) := hs.2.2.2.2.1
theorem St.order (hs : St b τ h) : h[b + 21]? = some (.inl (8, .inr (.inr (.inr (.inr (rowsAt (b + 22) 8)))))) := hs.2.2.2.2.2.1
theorem Md.s0 {μ : MS} {t : Int32} (hs : Md μ t h) (x : Int32) : Md μ x (h.set 27 (.inr (4, (mdF μ t).set 0 (.int x)))) := ⟨gss hs.1, by rw [gsn (by omega)]; exact hs.2.1, by rw [gsn (by omega)]; exact hs.2.2.1, by rw [gsn (by omega)]; exact hs.2.2.2.1, by rw [gsn (by omega)]; exact hs.2.2.2.2⟩
end STL
def rFlaw (τ : ST) (m : Nat) : Int32 := τ.1 1 m / 10 + 9 - τ.1 0 m
def rClay (μ : MS) (m : Nat) : Int32 := (μ.1 1 m + 7) / 8
def pF (f : Nat → Int32) (x y u o : Int32) : Nat → Int32 := upd (upd (upd (upd f 0 x) 1 y) 2 u) 3 o
def rOff (len y : Int32) : Int32 := (if 0 ≤ 4 * y - 20 - 2 * len then 4 * y - 20 - 2 * len else 0 - (4 * y - 20 - 2 * len)) / 2
def rShare (f : Nat → Int32) (k : Nat) (y : Int32) : Int32 := 8 * f 2 + 2 * f 3 + rOff (f 0) y + (if k = 0 ∨ k = 5 then 5 else 0)
def rBreaks (τ : ST) (k : Nat) (y : Int32) : Int32 := (τ.2.1 (10 + k) 1 * (if rShare (τ.2.1 (10 + k)) k y < 100 then rShare (τ.2.1 (10 + k)) k y else 100) + 99) / 100
def rPipes (τ : ST) (a : Nat) : Nat → Int32
  | 0 => 0
  | n + 1 => rPipes τ a n + τ.2.1 (a + n) 1
def rStore (f : Nat → Int32) : Nat → Int32
  | 0 => 0
  | n + 1 => rStore f n + f n
def rCount (τ : ST) (j : Nat) : Int32 := match j with
  | 0 => τ.2.2.2.2 0
  | 1 => τ.2.2.2.2 1
  | 2 => τ.2.2.2.2 2
  | 3 => τ.2.2.2.2 3
  | 4 => τ.2.2.2.2 4
  | 5 => τ.2.2.2.2 5
  | 6 => rPipes τ 0 (τ.2.2.2.1 0)
  | 7 => rPipes τ 10 6
  | 8 => rStore (τ.1 2) 25
  | 9 => nI (τ.2.2.2.1 1)
  | 10 => τ.2.2.2.2 6
  | _ => τ.2.2.2.2 7
def TB (τ : ST) : Prop := τ.2.2.2.1 0 ≤ 10 ∧ τ.2.2.2.1 1 ≤ 8
section RST
variable {d b : Nat} {τ : ST} {μ : MS} {t : Int32} {h : AH}
set_option maxHeartbeats 1000000 in
theorem c_flaw (m : Nat) (hw : St b τ h) (hm : m < 6) : Ct d mX3_flaw 0 0 [.ref b, .int (nI m)] h (RI (rFlaw τ m) h) := by
  refine Ct.of (by decide +kernel) rfl (Nat.le_of_ble_eq_true rfl) ?_
  show WP d mX3_flaw none 0 0 0 [.ref b, .int (nI m)] [] h _
  refine w_aload_n (pc := 0) (i := 0) dX3_flaw_0 rfl rfl ?_
  refine w_get (pc := 1) dX3_flaw_1 FX3_29 hw.1 rfl ?_
  refine w_iload_n (pc := 4) (i := 1) dX3_flaw_4 rfl rfl ?_
  refine w_iald (pc := 5) dX3_flaw_5 hw.worn (vp_in_nI hm (by omega)) ?_
  refine w_bipush (pc := 6) (v := 10) dX3_flaw_6 (by decide) ?_
  refine w_idiv (pc := 8) dX3_flaw_8 (by decide) ?_
  refine w_bipush (pc := 9) (v := 9) dX3_flaw_9 (by decide) ?_
  refine w_iadd (pc := 11) dX3_flaw_11 ?_
  refine w_aload_n (pc := 12) (i := 0) dX3_flaw_12 rfl rfl ?_
  refine w_get (pc := 13) dX3_flaw_13 FX3_25 hw.1 rfl ?_
  refine w_iload_n (pc := 16) (i := 1) dX3_flaw_16 rfl rfl ?_
  refine w_iald (pc := 17) dX3_flaw_17 hw.tight (vp_in_nI hm (by omega)) ?_
  rw [nI_clamp (by omega)]
  refine w_isub (pc := 18) dX3_flaw_18 ?_
  exact w_ireturn (pc := 19) dX3_flaw_19 ⟨_, rfl, rfl⟩ ⟨rfl, rfl⟩
set_option maxHeartbeats 1000000 in
theorem c_saggar (k : Nat) (hw : St b τ h) (hk : k < 6) : Ct d mX3_saggar 0 0 [.ref b, .int (nI k)] h (RO (.ref (b + 4 + (10 + k))) h) := by
  refine Ct.of (by decide +kernel) rfl (Nat.le_of_ble_eq_true rfl) ?_
  show WP d mX3_saggar none 0 0 0 [.ref b, .int (nI k)] [] h _
  refine w_aload_n (pc := 0) (i := 0) dX3_saggar_0 rfl rfl ?_
  refine w_get (pc := 1) dX3_saggar_1 FX3_34 hw.1 rfl ?_
  refine w_bipush (pc := 4) (v := 10) dX3_saggar_4 (by decide) ?_
  refine w_iload_n (pc := 6) (i := 1) dX3_saggar_6 rfl rfl ?_
  refine w_iadd (pc := 7) dX3_saggar_7 ?_
  rw [show (10 : Int32) + nI k = nI (10 + k) from (nI_add (a := 10) (b := k))]
  refine w_aald (pc := 8) dX3_saggar_8 hw.ware (vp_in_nI (by omega) (by omega)) (rowsAt_nI (by omega) (by omega)) ?_
  exact w_areturn (pc := 9) dX3_saggar_9 ⟨_, rfl, Or.inr ⟨_, rfl⟩⟩ ⟨rfl, rfl⟩
set_option maxHeartbeats 1000000 in
theorem c_put3 {r : Nat} {f : Nat → Int32} (x y u o : Int32) (hr : h[r]? = some (.inl (4, .inl f))) : Ct d mX3_put 0 0 [.ref b, .ref r, .int x, .int y, .int u, .int o] h (RV (h.set r (.inl (4, .inl (pF f x y u o))))) := by
  refine Ct.of (by decide +kernel) rfl (Nat.le_of_ble_eq_true rfl) ?_
  show WP d mX3_put none 0 0 0 [.ref b, .ref r, .int x, .int y, .int u, .int o] [] h _
  refine w_aload_n (pc := 0) (i := 1) dX3_put_0 rfl rfl ?_
  refine w_iconst (pc := 1) (v := 0) dX3_put_1 (by decide) ?_
  refine w_iload_n (pc := 2) (i := 2) dX3_put_2 rfl rfl ?_
  refine w_iast (pc := 3) dX3_put_3 hr (vp_in_nI (n := 0) (by omega) (by omega)) ?_
  refine w_aload_n (pc := 4) (i := 1) dX3_put_4 rfl rfl ?_
  refine w_iconst (pc := 5) (v := 1) dX3_put_5 (by decide) ?_
  refine w_iload_n (pc := 6) (i := 3) dX3_put_6 rfl rfl ?_
  refine w_iast (pc := 7) dX3_put_7 (gss hr) (vp_in_nI (n := 1) (by omega) (by omega)) ?_
  rw [List.set_set]
  refine w_aload_n (pc := 8) (i := 1) dX3_put_8 rfl rfl ?_
  refine w_iconst (pc := 9) (v := 2) dX3_put_9 (by decide) ?_
  refine w_iload (pc := 10) (i := 4) dX3_put_10 rfl ?_
  refine w_iast (pc := 12) dX3_put_12 (gss hr) (vp_in_nI (n := 2) (by omega) (by omega)) ?_
  rw [List.set_set]
  refine w_aload_n (pc := 13) (i := 1) dX3_put_13 rfl rfl ?_
  refine w_iconst (pc := 14) (v := 3) dX3_put_14 (by decide) ?_
  refine w_iload (pc := 15) (i := 5) dX3_put_15 rfl ?_
  refine w_iast (pc := 17) dX3_put_17 (gss hr) (vp_in_nI (n := 3) (by omega) (by omega)) ?_
  rw [List.set_set]
  exact w_return (pc := 18) dX3_put_18 rfl ⟨rfl, rfl⟩
set_option maxHeartbeats 1000000 in
theorem c_breaks (k : Nat) (y : Int32) (hw : St b τ h) (hk : k < 6) : Ct (d + 1) mX3_breaks 0 0 [.ref b, .int (nI k), .int y] h (RI (rBreaks τ k y) h) := by
  refine Ct.of (by decide +kernel) rfl (Nat.le_of_ble_eq_true rfl) ?_
  show WP (d + 1) mX3_breaks none 0 0 0 [.ref b, .int (nI k), .int y, vU, vU, vU] [] h _
  refine w_aload_n (pc := 0) (i := 0) dX3_breaks_0 rfl rfl ?_
  refine w_iload_n (pc := 1) (i := 1) dX3_breaks_1 rfl rfl ?_
  refine w_vO (pc := 2) dX3_breaks_2 GX3_121 hw.1 (c_saggar k hw hk) rfl rfl rfl rfl ?_
  refine w_topa (fun x5 e5 => ?_)
  refine w_astore_n (pc := 5) (i := 3) (ls' := [.ref b, .int (nI k), .int y, .ref x5, vU, vU]) dX3_breaks_5 rfl (by decide) rfl rfl rfl ?_
  subst e5
  refine w_iconst (pc := 6) (v := 4) dX3_breaks_6 (by decide) ?_
  refine w_iload_n (pc := 7) (i := 2) dX3_breaks_7 rfl rfl ?_
  refine w_imul (pc := 8) dX3_breaks_8 ?_
  refine w_bipush (pc := 9) (v := 20) dX3_breaks_9 (by decide) ?_
  refine w_isub (pc := 11) dX3_breaks_11 ?_
  refine w_iconst (pc := 12) (v := 2) dX3_breaks_12 (by decide) ?_
  refine w_aload_n (pc := 13) (i := 3) dX3_breaks_13 rfl rfl ?_
  refine w_iconst (pc := 14) (v := 0) dX3_breaks_14 (by decide) ?_
  refine w_iald (pc := 15) dX3_breaks_15 (hw.wg (by omega)) (vp_in_nI (n := 0) (by omega) (by omega)) ?_
  refine w_imul (pc := 16) dX3_breaks_16 ?_
  refine w_isub (pc := 17) dX3_breaks_17 ?_
  refine w_abs (pc := 18) dX3_breaks_18 LX3_125 (by omega) rfl (Nat.le_of_ble_eq_true rfl) ?_
  refine w_iconst (pc := 21) (v := 2) dX3_breaks_21 (by decide) ?_
  refine w_idiv (pc := 22) dX3_breaks_22 (by decide) ?_
  refine w_topi (fun x23 e23 => ?_)
  refine w_istore (pc := 23) (i := 4) (ls' := [.ref b, .int (nI k), .int y, .ref (b + 4 + (10 + k)), .int x23, vU]) dX3_breaks_23 (by decide) rfl rfl rfl ?_
  have e23 : x23 = rOff (τ.2.1 (10 + k) 0) y := e23
  refine w_bipush (pc := 25) (v := 100) dX3_breaks_25 (by decide) ?_
  refine w_bipush (pc := 27) (v := 8) dX3_breaks_27 (by decide) ?_
  refine w_aload_n (pc := 29) (i := 3) dX3_breaks_29 rfl rfl ?_
  refine w_iconst (pc := 30) (v := 2) dX3_breaks_30 (by decide) ?_
  refine w_iald (pc := 31) dX3_breaks_31 (hw.wg (by omega)) (vp_in_nI (n := 2) (by omega) (by omega)) ?_
  refine w_imul (pc := 32) dX3_breaks_32 ?_
  refine w_iconst (pc := 33) (v := 2) dX3_breaks_33 (by decide) ?_
  refine w_aload_n (pc := 34) (i := 3) dX3_breaks_34 rfl rfl ?_
  refine w_iconst (pc := 35) (v := 3) dX3_breaks_35 (by decide) ?_
  refine w_iald (pc := 36) dX3_breaks_36 (hw.wg (by omega)) (vp_in_nI (n := 3) (by omega) (by omega)) ?_
  refine w_imul (pc := 37) dX3_breaks_37 ?_
  refine w_iadd (pc := 38) dX3_breaks_38 ?_
  refine w_iload (pc := 39) (i := 4) dX3_breaks_39 rfl ?_
  refine w_iadd (pc := 41) dX3_breaks_41 ?_
  have hK : ∀ y0 : Int32, y0 = (if k = 0 ∨ k = 5 then 5 else 0) → WP (d + 1) mX3_breaks none 0 0 56 [.ref b, .int (nI k), .int y, .ref (b + 4 + (10 + k)), .int x23, vU] [.int y0, .int (8 * τ.2.1 (10 + k) 2 + 2 * τ.2.1 (10 + k) 3 + x23), .int 100] h (RI (rBreaks τ k y) h) := by
    intro y0 hy0
    refine w_iadd (pc := 56) dX3_breaks_56 ?_
    refine w_min (pc := 57) dX3_breaks_57 LX3_86 (by omega) rfl (Nat.le_of_ble_eq_true rfl) ?_
    refine w_topi (fun x60 e60 => ?_)
    refine w_istore (pc := 60) (i := 5) (ls' := [.ref b, .int (nI k), .int y, .ref (b + 4 + (10 + k)), .int x23, .int x60]) dX3_breaks_60 (by decide) rfl rfl rfl ?_
    refine w_aload_n (pc := 62) (i := 3) dX3_breaks_62 rfl rfl ?_
    refine w_iconst (pc := 63) (v := 1) dX3_breaks_63 (by decide) ?_
    refine w_iald (pc := 64) dX3_breaks_64 (hw.wg (by omega)) (vp_in_nI (n := 1) (by omega) (by omega)) ?_
    refine w_iload (pc := 65) (i := 5) dX3_breaks_65 rfl ?_
    refine w_imul (pc := 67) dX3_breaks_67 ?_
    refine w_bipush (pc := 68) (v := 99) dX3_breaks_68 (by decide) ?_
    refine w_iadd (pc := 70) dX3_breaks_70 ?_
    refine w_bipush (pc := 71) (v := 100) dX3_breaks_71 (by decide) ?_
    refine w_idiv (pc := 73) dX3_breaks_73 (by decide) ?_
    exact w_ireturn (pc := 74) dX3_breaks_74 ⟨_, rfl, rfl⟩ ⟨by rw [e60, hy0, e23]; rfl, rfl⟩
  refine w_iload_n (pc := 42) (i := 1) dX3_breaks_42 rfl rfl ?_
  refine w_if_eq (pc := 43) (tgt := 51) dX3_breaks_43 (by decide) (fun c43 => ?_) (fun c43 => ?_)
  · have hk0 : k = 0 := by
      have := congrArg Int32.toNatClampNeg c43
      rw [nI_clamp (by omega)] at this
      exact this
    refine w_iconst (pc := 51) (v := 5) dX3_breaks_51 (by decide) ?_
    refine w_goto (pc := 52) (tgt := 56) dX3_breaks_52 (by decide) ?_
    exact hK 5 (by rw [if_pos (Or.inl hk0)])
  · refine w_iload_n (pc := 46) (i := 1) dX3_breaks_46 rfl rfl ?_
    refine w_iconst (pc := 47) (v := 5) dX3_breaks_47 (by decide) ?_
    refine w_icmp_ne (pc := 48) (tgt := 55) dX3_breaks_48 (by decide) (fun c48 => ?_) (fun c48 => ?_)
    · refine w_iconst (pc := 55) (v := 0) dX3_breaks_55 (by decide) ?_
      exact hK 0 (by rw [if_neg (fun q => q.elim (fun e => c43 (by rw [e]; rfl)) (fun e => c48 (by rw [e]; rfl)))])
    · have hk5 : k = 5 := by
        have := congrArg Int32.toNatClampNeg c48
        rw [nI_clamp (by omega)] at this
        exact this
      refine w_iconst (pc := 51) (v := 5) dX3_breaks_51 (by decide) ?_
      refine w_goto (pc := 52) (tgt := 56) dX3_breaks_52 (by decide) ?_
      exact hK 5 (by rw [if_pos (Or.inr hk5)])
set_option maxHeartbeats 1000000 in
theorem c_pipes_loop {a c : Nat} (hw : St b τ h) (hc : c ≤ 16) : ∀ (m n : Nat), a + n + m = c → WP d mX3_pipes none 0 0 5 [.ref b, .int (nI a), .int (nI c), .int (rPipes τ a n), .int (nI (a + n))] [] h (RI (rPipes τ a (c - a)) h) := by
  intro m
  induction m with
  | zero =>
    intro n hn
    have hn : a + n = c := by omega
    refine w_iload (pc := 5) (i := 4) dX3_pipes_5 rfl ?_
    refine w_iload_n (pc := 7) (i := 2) dX3_pipes_7 rfl rfl ?_
    refine w_icmp_ge (pc := 8) (tgt := 29) dX3_pipes_8 (by decide) (fun c8 => ?_) (fun c8 => absurd (nI_le (show c ≤ a + n by omega) (by omega)) c8)
    refine w_iload_n (pc := 29) (i := 3) dX3_pipes_29 rfl rfl ?_
    exact w_ireturn (pc := 30) dX3_pipes_30 ⟨_, rfl, rfl⟩ ⟨by rw [show c - a = n by omega], rfl⟩
  | succ m ih =>
    intro n hn
    refine w_iload (pc := 5) (i := 4) dX3_pipes_5 rfl ?_
    refine w_iload_n (pc := 7) (i := 2) dX3_pipes_7 rfl rfl ?_
    refine w_icmp_ge (pc := 8) (tgt := 29) dX3_pipes_8 (by decide) (fun c8 => absurd c8 (nI_ge (by omega) (by omega))) (fun c8 => ?_)
    refine w_iload_n (pc := 11) (i := 3) dX3_pipes_11 rfl rfl ?_
    refine w_aload_n (pc := 12) (i := 0) dX3_pipes_12 rfl rfl ?_
    refine w_get (pc := 13) dX3_pipes_13 FX3_34 hw.1 rfl ?_
    refine w_iload (pc := 16) (i := 4) dX3_pipes_16 rfl ?_
    refine w_aald (pc := 18) dX3_pipes_18 hw.ware (vp_in_nI (by omega) (by omega)) (rowsAt_nI (by omega) (by omega)) ?_
    refine w_iconst (pc := 19) (v := 1) dX3_pipes_19 (by decide) ?_
    refine w_iald (pc := 20) dX3_pipes_20 (hw.wg (by omega)) (vp_in_nI (n := 1) (by omega) (by omega)) ?_
    refine w_iadd (pc := 21) dX3_pipes_21 ?_
    refine w_topi (fun x22 e22 => ?_)
    refine w_istore_n (pc := 22) (i := 3) (ls' := [.ref b, .int (nI a), .int (nI c), .int x22, .int (nI (a + n))]) dX3_pipes_22 rfl (by decide) rfl rfl rfl ?_
    obtain ⟨x23, e23⟩ : ∃ y : Int32, y = (nI (a + n)) + 1 := ⟨_, rfl⟩
    refine w_iinc (pc := 23) (i := 4) (y := x23) (ls' := [.ref b, .int (nI a), .int (nI c), .int x22, .int x23]) dX3_pipes_23 rfl (by rw [e23]; rfl) (by decide) rfl rfl rfl ?_
    refine w_goto (pc := 26) (tgt := 5) dX3_pipes_26 (by decide) ?_
    obtain rfl : x23 = nI (a + (n + 1)) := by rw [e23]; exact nI_1 _
    subst e22
    exact ih (n + 1) (by omega)
set_option maxHeartbeats 1000000 in
theorem c_pipes (a c : Nat) (hw : St b τ h) (hac : a ≤ c) (hc : c ≤ 16) : Ct d mX3_pipes 0 0 [.ref b, .int (nI a), .int (nI c)] h (RI (rPipes τ a (c - a)) h) := by
  refine Ct.of (by decide +kernel) rfl (Nat.le_of_ble_eq_true rfl) ?_
  show WP d mX3_pipes none 0 0 0 [.ref b, .int (nI a), .int (nI c), vU, vU] [] h _
  refine w_iconst (pc := 0) (v := 0) dX3_pipes_0 (by decide) ?_
  refine w_topi (fun x1 e1 => ?_)
  refine w_istore_n (pc := 1) (i := 3) (ls' := [.ref b, .int (nI a), .int (nI c), .int x1, vU]) dX3_pipes_1 rfl (by decide) rfl rfl rfl ?_
  refine w_iload_n (pc := 2) (i := 1) dX3_pipes_2 rfl rfl ?_
  refine w_topi (fun x3 e3 => ?_)
  refine w_istore (pc := 3) (i := 4) (ls' := [.ref b, .int (nI a), .int (nI c), .int x1, .int x3]) dX3_pipes_3 (by decide) rfl rfl rfl ?_
  subst e1
  subst e3
  exact c_pipes_loop hw hc (c - a) 0 (by omega)
set_option maxHeartbeats 1000000 in
theorem c_inSaggars (hw : St b τ h) : Ct (d + 1) mX3_inSaggars 0 0 [.ref b] h (RI (rPipes τ 10 6) h) := by
  refine Ct.of (by decide +kernel) rfl (Nat.le_of_ble_eq_true rfl) ?_
  show WP (d + 1) mX3_inSaggars none 0 0 0 [.ref b] [] h _
  refine w_aload_n (pc := 0) (i := 0) dX3_inSaggars_0 rfl rfl ?_
  refine w_bipush (pc := 1) (v := 10) dX3_inSaggars_1 (by decide) ?_
  refine w_bipush (pc := 3) (v := 16) dX3_inSaggars_3 (by decide) ?_
  refine w_vI (pc := 5) dX3_inSaggars_5 GX3_128 hw.1 (c_pipes 10 16 hw (by omega) (by omega)) rfl rfl rfl rfl ?_
  exact w_ireturn (pc := 8) dX3_inSaggars_8 ⟨_, rfl, rfl⟩ ⟨rfl, rfl⟩
set_option maxHeartbeats 1000000 in
theorem c_stored_loop (hw : St b τ h) : ∀ (m n : Nat), n + m = 25 → WP d mX3_stored none 0 0 13 [.ref b, .int (rStore (τ.1 2) n), .ref (b + 20), .int 25, .int (nI n), vU] [] h (RI (rStore (τ.1 2) 25) h) := by
  intro m
  induction m with
  | zero =>
    intro n hn
    have hn : n = 25 := by omega
    subst hn
    refine w_iload (pc := 13) (i := 4) dX3_stored_13 rfl ?_
    refine w_iload_n (pc := 15) (i := 3) dX3_stored_15 rfl rfl ?_
    refine w_icmp_ge (pc := 16) (tgt := 36) dX3_stored_16 (by decide) (fun c16 => ?_) (fun c16 => absurd (by decide) c16)
    refine w_iload_n (pc := 36) (i := 1) dX3_stored_36 rfl rfl ?_
    exact w_ireturn (pc := 37) dX3_stored_37 ⟨_, rfl, rfl⟩ ⟨rfl, rfl⟩
  | succ m ih =>
    intro n hn
    refine w_iload (pc := 13) (i := 4) dX3_stored_13 rfl ?_
    refine w_iload_n (pc := 15) (i := 3) dX3_stored_15 rfl rfl ?_
    refine w_icmp_ge (pc := 16) (tgt := 36) dX3_stored_16 (by decide) (fun c16 => absurd (show nI 25 ≤ nI n from c16) (nI_ge (by omega) (by omega))) (fun c16 => ?_)
    refine w_aload_n (pc := 19) (i := 2) dX3_stored_19 rfl rfl ?_
    refine w_iload (pc := 20) (i := 4) dX3_stored_20 rfl ?_
    refine w_iald (pc := 22) dX3_stored_22 hw.store (vp_in_nI (by omega) (by omega)) ?_
    rw [nI_clamp (by omega)]
    refine w_topi (fun x23 e23 => ?_)
    refine w_istore (pc := 23) (i := 5) (ls' := [.ref b, .int (rStore (τ.1 2) n), .ref (b + 20), .int 25, .int (nI n), .int x23]) dX3_stored_23 (by decide) rfl rfl rfl ?_
    refine w_iload_n (pc := 25) (i := 1) dX3_stored_25 rfl rfl ?_
    refine w_iload (pc := 26) (i := 5) dX3_stored_26 rfl ?_
    refine w_iadd (pc := 28) dX3_stored_28 ?_
    refine w_topi (fun x29 e29 => ?_)
    refine w_istore_n (pc := 29) (i := 1) (ls' := [.ref b, .int x29, .ref (b + 20), .int 25, .int (nI n), .int x23]) dX3_stored_29 rfl (by decide) rfl rfl rfl ?_
    obtain ⟨x30, e30⟩ : ∃ y : Int32, y = (nI n) + 1 := ⟨_, rfl⟩
    refine w_iinc (pc := 30) (i := 4) (y := x30) (ls' := [.ref b, .int x29, .ref (b + 20), .int 25, .int x30, .int x23]) dX3_stored_30 rfl (by rw [e30]; rfl) (by decide) rfl rfl rfl ?_
    refine w_goto (pc := 33) (tgt := 13) dX3_stored_33 (by decide) ?_
    obtain rfl : x30 = nI (n + 1) := by rw [e30]; exact nI_1 _
    subst e29
    subst e23
    exact w_forget 5 rfl (ih (n + 1) (by omega))
set_option maxHeartbeats 1000000 in
theorem c_stored (hw : St b τ h) : Ct d mX3_stored 0 0 [.ref b] h (RI (rStore (τ.1 2) 25) h) := by
  refine Ct.of (by decide +kernel) rfl (Nat.le_of_ble_eq_true rfl) ?_
  show WP d mX3_stored none 0 0 0 [.ref b, vU, vU, vU, vU, vU] [] h _
  refine w_iconst (pc := 0) (v := 0) dX3_stored_0 (by decide) ?_
  refine w_topi (fun x1 e1 => ?_)
  refine w_istore_n (pc := 1) (i := 1) (ls' := [.ref b, .int x1, vU, vU, vU, vU]) dX3_stored_1 rfl (by decide) rfl rfl rfl ?_
  refine w_aload_n (pc := 2) (i := 0) dX3_stored_2 rfl rfl ?_
  refine w_get (pc := 3) dX3_stored_3 FX3_37 hw.1 rfl ?_
  refine w_topa (fun x6 e6 => ?_)
  refine w_astore_n (pc := 6) (i := 2) (ls' := [.ref b, .int x1, .ref x6, vU, vU, vU]) dX3_stored_6 rfl (by decide) rfl rfl rfl ?_
  subst e6
  refine w_aload_n (pc := 7) (i := 2) dX3_stored_7 rfl rfl ?_
  refine w_alen (pc := 8) dX3_stored_8 (v := 25) hw.store rfl ?_
  refine w_topi (fun x9 e9 => ?_)
  refine w_istore_n (pc := 9) (i := 3) (ls' := [.ref b, .int x1, .ref (b + 20), .int x9, vU, vU]) dX3_stored_9 rfl (by decide) rfl rfl rfl ?_
  refine w_iconst (pc := 10) (v := 0) dX3_stored_10 (by decide) ?_
  refine w_topi (fun x11 e11 => ?_)
  refine w_istore (pc := 11) (i := 4) (ls' := [.ref b, .int x1, .ref (b + 20), .int x9, .int x11, vU]) dX3_stored_11 (by decide) rfl rfl rfl ?_
  subst e1
  subst e9
  subst e11
  exact c_stored_loop hw 25 0 rfl
end RST
