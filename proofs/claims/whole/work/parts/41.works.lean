/-! Works: the state, and what reads it -/
/-- the cells of the tables (0 moulds, 1 makers, 2 boards, 3 saggars, 4 orders), of the drying (5) and the whole ones (6); the tables' rows; the numbers (0 day, 1 clay, 2 coals, 3 coins, 4 made, 5 broken, 6 served, 7 lost, 8 watched, 9 isWatchedServed) -/
abbrev WS : Type := (Nat → Nat → Int32) × (Nat → Nat) × (Nat → Int32)
def uA (σ : WS) (t : Nat) (f : Nat → Int32) : WS := (fun a => if a = t then f else σ.1 a, σ.2.1, σ.2.2)
def uR (σ : WS) (t r : Nat) : WS := (σ.1, fun a => if a = t then r else σ.2.1 a, σ.2.2)
def uS (σ : WS) (k : Nat) (x : Int32) : WS := (σ.1, σ.2.1, fun a => if a = k then x else σ.2.2 a)
def wkF (b : Nat) (σ : WS) : List Value := [.ref (b + 1), .ref (b + 3), .ref (b + 5), .ref (b + 7), .ref (b + 9), .ref (b + 11), .ref (b + 12), .int (σ.2.2 0), .int (σ.2.2 1), .int (σ.2.2 2), .int (σ.2.2 3), .int (σ.2.2 4), .int (σ.2.2 5), .int (σ.2.2 6), .int (σ.2.2 7), .int (σ.2.2 8), .int (σ.2.2 9)]
def Wk (b : Nat) (σ : WS) (h : AH) : Prop :=
  h[b]? = some (.inr (1, wkF b σ)) ∧ TbO (b + 1) (b + 2) 18 3 (σ.2.1 0) (σ.1 0) h ∧ TbO (b + 3) (b + 4) 10 2 (σ.2.1 1) (σ.1 1) h ∧ TbO (b + 5) (b + 6) 40 4 (σ.2.1 2) (σ.1 2) h ∧ TbO (b + 7) (b + 8) 24 4 (σ.2.1 3) (σ.1 3) h ∧ TbO (b + 9) (b + 10) 32 4 (σ.2.1 4) (σ.1 4) h ∧ h[b + 11]? = some (.inl (7, .inl (σ.1 5))) ∧ h[b + 12]? = some (.inl (25, .inl (σ.1 6)))
def WB (σ : WS) : Prop := σ.2.1 0 ≤ 6 ∧ σ.2.1 1 ≤ 5 ∧ σ.2.1 2 ≤ 10 ∧ σ.2.1 3 = 6 ∧ σ.2.1 4 ≤ 8
theorem WB.b0 {σ : WS} (h : WB σ) : TbB 18 3 (σ.2.1 0) := ⟨by have := h.1; omega, by omega, by omega, by omega⟩
theorem WB.b1 {σ : WS} (h : WB σ) : TbB 10 2 (σ.2.1 1) := ⟨by have := h.2.1; omega, by omega, by omega, by omega⟩
theorem WB.b2 {σ : WS} (h : WB σ) : TbB 40 4 (σ.2.1 2) := ⟨by have := h.2.2.1; omega, by omega, by omega, by omega⟩
theorem WB.b3 {σ : WS} (h : WB σ) : TbB 24 4 (σ.2.1 3) := ⟨by have := h.2.2.2.1; omega, by omega, by omega, by omega⟩
theorem WB.b4 {σ : WS} (h : WB σ) : TbB 32 4 (σ.2.1 4) := ⟨by have := h.2.2.2.2; omega, by omega, by omega, by omega⟩
theorem Wk.t0 {b : Nat} {σ : WS} {h1 : AH} (h : Wk b σ h1) : TbO (b + 1) (b + 2) 18 3 (σ.2.1 0) (σ.1 0) h1 := h.2.1
theorem Wk.t1 {b : Nat} {σ : WS} {h1 : AH} (h : Wk b σ h1) : TbO (b + 3) (b + 4) 10 2 (σ.2.1 1) (σ.1 1) h1 := h.2.2.1
theorem Wk.t2 {b : Nat} {σ : WS} {h1 : AH} (h : Wk b σ h1) : TbO (b + 5) (b + 6) 40 4 (σ.2.1 2) (σ.1 2) h1 := h.2.2.2.1
theorem Wk.t3 {b : Nat} {σ : WS} {h1 : AH} (h : Wk b σ h1) : TbO (b + 7) (b + 8) 24 4 (σ.2.1 3) (σ.1 3) h1 := h.2.2.2.2.1
theorem Wk.t4 {b : Nat} {σ : WS} {h1 : AH} (h : Wk b σ h1) : TbO (b + 9) (b + 10) 32 4 (σ.2.1 4) (σ.1 4) h1 := h.2.2.2.2.2.1
theorem Wk.dr {b : Nat} {σ : WS} {h1 : AH} (h : Wk b σ h1) : h1[b + 11]? = some (.inl (7, .inl (σ.1 5))) := h.2.2.2.2.2.2.1
theorem Wk.wh {b : Nat} {σ : WS} {h1 : AH} (h : Wk b σ h1) : h1[b + 12]? = some (.inl (25, .inl (σ.1 6))) := h.2.2.2.2.2.2.2
theorem Wk.c0 {b : Nat} {σ : WS} {h1 : AH} (h : Wk b σ h1) (f : Nat → Int32) : Wk b (uA σ 0 f) (h1.set (b + 2) (.inl (18, .inl f))) := ⟨(by rw [gsn (by omega)]; exact h.1), ⟨(by rw [gsn (by omega)]; exact h.2.1.1), (gss h.2.1.2)⟩, ⟨(by rw [gsn (by omega)]; exact h.2.2.1.1), (by rw [gsn (by omega)]; exact h.2.2.1.2)⟩, ⟨(by rw [gsn (by omega)]; exact h.2.2.2.1.1), (by rw [gsn (by omega)]; exact h.2.2.2.1.2)⟩, ⟨(by rw [gsn (by omega)]; exact h.2.2.2.2.1.1), (by rw [gsn (by omega)]; exact h.2.2.2.2.1.2)⟩, ⟨(by rw [gsn (by omega)]; exact h.2.2.2.2.2.1.1), (by rw [gsn (by omega)]; exact h.2.2.2.2.2.1.2)⟩, (by rw [gsn (by omega)]; exact h.2.2.2.2.2.2.1), (by rw [gsn (by omega)]; exact h.2.2.2.2.2.2.2)⟩
theorem Wk.r0 {b : Nat} {σ : WS} {h1 : AH} (h : Wk b σ h1) (r : Nat) : Wk b (uR σ 0 r) (h1.set (b + 1) (.inr (0, [.ref (b + 2), .int (nI 3), .int (nI r)]))) := ⟨(by rw [gsn (by omega)]; exact h.1), ⟨(gss h.2.1.1), (by rw [gsn (by omega)]; exact h.2.1.2)⟩, ⟨(by rw [gsn (by omega)]; exact h.2.2.1.1), (by rw [gsn (by omega)]; exact h.2.2.1.2)⟩, ⟨(by rw [gsn (by omega)]; exact h.2.2.2.1.1), (by rw [gsn (by omega)]; exact h.2.2.2.1.2)⟩, ⟨(by rw [gsn (by omega)]; exact h.2.2.2.2.1.1), (by rw [gsn (by omega)]; exact h.2.2.2.2.1.2)⟩, ⟨(by rw [gsn (by omega)]; exact h.2.2.2.2.2.1.1), (by rw [gsn (by omega)]; exact h.2.2.2.2.2.1.2)⟩, (by rw [gsn (by omega)]; exact h.2.2.2.2.2.2.1), (by rw [gsn (by omega)]; exact h.2.2.2.2.2.2.2)⟩
theorem Wk.c1 {b : Nat} {σ : WS} {h1 : AH} (h : Wk b σ h1) (f : Nat → Int32) : Wk b (uA σ 1 f) (h1.set (b + 4) (.inl (10, .inl f))) := ⟨(by rw [gsn (by omega)]; exact h.1), ⟨(by rw [gsn (by omega)]; exact h.2.1.1), (by rw [gsn (by omega)]; exact h.2.1.2)⟩, ⟨(by rw [gsn (by omega)]; exact h.2.2.1.1), (gss h.2.2.1.2)⟩, ⟨(by rw [gsn (by omega)]; exact h.2.2.2.1.1), (by rw [gsn (by omega)]; exact h.2.2.2.1.2)⟩, ⟨(by rw [gsn (by omega)]; exact h.2.2.2.2.1.1), (by rw [gsn (by omega)]; exact h.2.2.2.2.1.2)⟩, ⟨(by rw [gsn (by omega)]; exact h.2.2.2.2.2.1.1), (by rw [gsn (by omega)]; exact h.2.2.2.2.2.1.2)⟩, (by rw [gsn (by omega)]; exact h.2.2.2.2.2.2.1), (by rw [gsn (by omega)]; exact h.2.2.2.2.2.2.2)⟩
theorem Wk.r1 {b : Nat} {σ : WS} {h1 : AH} (h : Wk b σ h1) (r : Nat) : Wk b (uR σ 1 r) (h1.set (b + 3) (.inr (0, [.ref (b + 4), .int (nI 2), .int (nI r)]))) := ⟨(by rw [gsn (by omega)]; exact h.1), ⟨(by rw [gsn (by omega)]; exact h.2.1.1), (by rw [gsn (by omega)]; exact h.2.1.2)⟩, ⟨(gss h.2.2.1.1), (by rw [gsn (by omega)]; exact h.2.2.1.2)⟩, ⟨(by rw [gsn (by omega)]; exact h.2.2.2.1.1), (by rw [gsn (by omega)]; exact h.2.2.2.1.2)⟩, ⟨(by rw [gsn (by omega)]; exact h.2.2.2.2.1.1), (by rw [gsn (by omega)]; exact h.2.2.2.2.1.2)⟩, ⟨(by rw [gsn (by omega)]; exact h.2.2.2.2.2.1.1), (by rw [gsn (by omega)]; exact h.2.2.2.2.2.1.2)⟩, (by rw [gsn (by omega)]; exact h.2.2.2.2.2.2.1), (by rw [gsn (by omega)]; exact h.2.2.2.2.2.2.2)⟩
theorem Wk.c2 {b : Nat} {σ : WS} {h1 : AH} (h : Wk b σ h1) (f : Nat → Int32) : Wk b (uA σ 2 f) (h1.set (b + 6) (.inl (40, .inl f))) := ⟨(by rw [gsn (by omega)]; exact h.1), ⟨(by rw [gsn (by omega)]; exact h.2.1.1), (by rw [gsn (by omega)]; exact h.2.1.2)⟩, ⟨(by rw [gsn (by omega)]; exact h.2.2.1.1), (by rw [gsn (by omega)]; exact h.2.2.1.2)⟩, ⟨(by rw [gsn (by omega)]; exact h.2.2.2.1.1), (gss h.2.2.2.1.2)⟩, ⟨(by rw [gsn (by omega)]; exact h.2.2.2.2.1.1), (by rw [gsn (by omega)]; exact h.2.2.2.2.1.2)⟩, ⟨(by rw [gsn (by omega)]; exact h.2.2.2.2.2.1.1), (by rw [gsn (by omega)]; exact h.2.2.2.2.2.1.2)⟩, (by rw [gsn (by omega)]; exact h.2.2.2.2.2.2.1), (by rw [gsn (by omega)]; exact h.2.2.2.2.2.2.2)⟩
theorem Wk.r2 {b : Nat} {σ : WS} {h1 : AH} (h : Wk b σ h1) (r : Nat) : Wk b (uR σ 2 r) (h1.set (b + 5) (.inr (0, [.ref (b + 6), .int (nI 4), .int (nI r)]))) := ⟨(by rw [gsn (by omega)]; exact h.1), ⟨(by rw [gsn (by omega)]; exact h.2.1.1), (by rw [gsn (by omega)]; exact h.2.1.2)⟩, ⟨(by rw [gsn (by omega)]; exact h.2.2.1.1), (by rw [gsn (by omega)]; exact h.2.2.1.2)⟩, ⟨(gss h.2.2.2.1.1), (by rw [gsn (by omega)]; exact h.2.2.2.1.2)⟩, ⟨(by rw [gsn (by omega)]; exact h.2.2.2.2.1.1), (by rw [gsn (by omega)]; exact h.2.2.2.2.1.2)⟩, ⟨(by rw [gsn (by omega)]; exact h.2.2.2.2.2.1.1), (by rw [gsn (by omega)]; exact h.2.2.2.2.2.1.2)⟩, (by rw [gsn (by omega)]; exact h.2.2.2.2.2.2.1), (by rw [gsn (by omega)]; exact h.2.2.2.2.2.2.2)⟩
theorem Wk.c3 {b : Nat} {σ : WS} {h1 : AH} (h : Wk b σ h1) (f : Nat → Int32) : Wk b (uA σ 3 f) (h1.set (b + 8) (.inl (24, .inl f))) := ⟨(by rw [gsn (by omega)]; exact h.1), ⟨(by rw [gsn (by omega)]; exact h.2.1.1), (by rw [gsn (by omega)]; exact h.2.1.2)⟩, ⟨(by rw [gsn (by omega)]; exact h.2.2.1.1), (by rw [gsn (by omega)]; exact h.2.2.1.2)⟩, ⟨(by rw [gsn (by omega)]; exact h.2.2.2.1.1), (by rw [gsn (by omega)]; exact h.2.2.2.1.2)⟩, ⟨(by rw [gsn (by omega)]; exact h.2.2.2.2.1.1), (gss h.2.2.2.2.1.2)⟩, ⟨(by rw [gsn (by omega)]; exact h.2.2.2.2.2.1.1), (by rw [gsn (by omega)]; exact h.2.2.2.2.2.1.2)⟩, (by rw [gsn (by omega)]; exact h.2.2.2.2.2.2.1), (by rw [gsn (by omega)]; exact h.2.2.2.2.2.2.2)⟩
theorem Wk.r3 {b : Nat} {σ : WS} {h1 : AH} (h : Wk b σ h1) (r : Nat) : Wk b (uR σ 3 r) (h1.set (b + 7) (.inr (0, [.ref (b + 8), .int (nI 4), .int (nI r)]))) := ⟨(by rw [gsn (by omega)]; exact h.1), ⟨(by rw [gsn (by omega)]; exact h.2.1.1), (by rw [gsn (by omega)]; exact h.2.1.2)⟩, ⟨(by rw [gsn (by omega)]; exact h.2.2.1.1), (by rw [gsn (by omega)]; exact h.2.2.1.2)⟩, ⟨(by rw [gsn (by omega)]; exact h.2.2.2.1.1), (by rw [gsn (by omega)]; exact h.2.2.2.1.2)⟩, ⟨(gss h.2.2.2.2.1.1), (by rw [gsn (by omega)]; exact h.2.2.2.2.1.2)⟩, ⟨(by rw [gsn (by omega)]; exact h.2.2.2.2.2.1.1), (by rw [gsn (by omega)]; exact h.2.2.2.2.2.1.2)⟩, (by rw [gsn (by omega)]; exact h.2.2.2.2.2.2.1), (by rw [gsn (by omega)]; exact h.2.2.2.2.2.2.2)⟩
theorem Wk.c4 {b : Nat} {σ : WS} {h1 : AH} (h : Wk b σ h1) (f : Nat → Int32) : Wk b (uA σ 4 f) (h1.set (b + 10) (.inl (32, .inl f))) := ⟨(by rw [gsn (by omega)]; exact h.1), ⟨(by rw [gsn (by omega)]; exact h.2.1.1), (by rw [gsn (by omega)]; exact h.2.1.2)⟩, ⟨(by rw [gsn (by omega)]; exact h.2.2.1.1), (by rw [gsn (by omega)]; exact h.2.2.1.2)⟩, ⟨(by rw [gsn (by omega)]; exact h.2.2.2.1.1), (by rw [gsn (by omega)]; exact h.2.2.2.1.2)⟩, ⟨(by rw [gsn (by omega)]; exact h.2.2.2.2.1.1), (by rw [gsn (by omega)]; exact h.2.2.2.2.1.2)⟩, ⟨(by rw [gsn (by omega)]; exact h.2.2.2.2.2.1.1), (gss h.2.2.2.2.2.1.2)⟩, (by rw [gsn (by omega)]; exact h.2.2.2.2.2.2.1), (by rw [gsn (by omega)]; exact h.2.2.2.2.2.2.2)⟩
theorem Wk.r4 {b : Nat} {σ : WS} {h1 : AH} (h : Wk b σ h1) (r : Nat) : Wk b (uR σ 4 r) (h1.set (b + 9) (.inr (0, [.ref (b + 10), .int (nI 4), .int (nI r)]))) := ⟨(by rw [gsn (by omega)]; exact h.1), ⟨(by rw [gsn (by omega)]; exact h.2.1.1), (by rw [gsn (by omega)]; exact h.2.1.2)⟩, ⟨(by rw [gsn (by omega)]; exact h.2.2.1.1), (by rw [gsn (by omega)]; exact h.2.2.1.2)⟩, ⟨(by rw [gsn (by omega)]; exact h.2.2.2.1.1), (by rw [gsn (by omega)]; exact h.2.2.2.1.2)⟩, ⟨(by rw [gsn (by omega)]; exact h.2.2.2.2.1.1), (by rw [gsn (by omega)]; exact h.2.2.2.2.1.2)⟩, ⟨(gss h.2.2.2.2.2.1.1), (by rw [gsn (by omega)]; exact h.2.2.2.2.2.1.2)⟩, (by rw [gsn (by omega)]; exact h.2.2.2.2.2.2.1), (by rw [gsn (by omega)]; exact h.2.2.2.2.2.2.2)⟩
theorem Wk.cdr {b : Nat} {σ : WS} {h1 : AH} (h : Wk b σ h1) (f : Nat → Int32) : Wk b (uA σ 5 f) (h1.set (b + 11) (.inl (7, .inl f))) := ⟨(by rw [gsn (by omega)]; exact h.1), ⟨(by rw [gsn (by omega)]; exact h.2.1.1), (by rw [gsn (by omega)]; exact h.2.1.2)⟩, ⟨(by rw [gsn (by omega)]; exact h.2.2.1.1), (by rw [gsn (by omega)]; exact h.2.2.1.2)⟩, ⟨(by rw [gsn (by omega)]; exact h.2.2.2.1.1), (by rw [gsn (by omega)]; exact h.2.2.2.1.2)⟩, ⟨(by rw [gsn (by omega)]; exact h.2.2.2.2.1.1), (by rw [gsn (by omega)]; exact h.2.2.2.2.1.2)⟩, ⟨(by rw [gsn (by omega)]; exact h.2.2.2.2.2.1.1), (by rw [gsn (by omega)]; exact h.2.2.2.2.2.1.2)⟩, (gss h.2.2.2.2.2.2.1), (by rw [gsn (by omega)]; exact h.2.2.2.2.2.2.2)⟩
theorem Wk.cwh {b : Nat} {σ : WS} {h1 : AH} (h : Wk b σ h1) (f : Nat → Int32) : Wk b (uA σ 6 f) (h1.set (b + 12) (.inl (25, .inl f))) := ⟨(by rw [gsn (by omega)]; exact h.1), ⟨(by rw [gsn (by omega)]; exact h.2.1.1), (by rw [gsn (by omega)]; exact h.2.1.2)⟩, ⟨(by rw [gsn (by omega)]; exact h.2.2.1.1), (by rw [gsn (by omega)]; exact h.2.2.1.2)⟩, ⟨(by rw [gsn (by omega)]; exact h.2.2.2.1.1), (by rw [gsn (by omega)]; exact h.2.2.2.1.2)⟩, ⟨(by rw [gsn (by omega)]; exact h.2.2.2.2.1.1), (by rw [gsn (by omega)]; exact h.2.2.2.2.1.2)⟩, ⟨(by rw [gsn (by omega)]; exact h.2.2.2.2.2.1.1), (by rw [gsn (by omega)]; exact h.2.2.2.2.2.1.2)⟩, (by rw [gsn (by omega)]; exact h.2.2.2.2.2.2.1), (gss h.2.2.2.2.2.2.2)⟩
theorem Wk.s0 {b : Nat} {σ : WS} {h1 : AH} (h : Wk b σ h1) (x : Int32) : Wk b (uS σ 0 x) (h1.set b (.inr (1, (wkF b σ).set 7 (.int x)))) := ⟨(gss h.1), ⟨(by rw [gsn (by omega)]; exact h.2.1.1), (by rw [gsn (by omega)]; exact h.2.1.2)⟩, ⟨(by rw [gsn (by omega)]; exact h.2.2.1.1), (by rw [gsn (by omega)]; exact h.2.2.1.2)⟩, ⟨(by rw [gsn (by omega)]; exact h.2.2.2.1.1), (by rw [gsn (by omega)]; exact h.2.2.2.1.2)⟩, ⟨(by rw [gsn (by omega)]; exact h.2.2.2.2.1.1), (by rw [gsn (by omega)]; exact h.2.2.2.2.1.2)⟩, ⟨(by rw [gsn (by omega)]; exact h.2.2.2.2.2.1.1), (by rw [gsn (by omega)]; exact h.2.2.2.2.2.1.2)⟩, (by rw [gsn (by omega)]; exact h.2.2.2.2.2.2.1), (by rw [gsn (by omega)]; exact h.2.2.2.2.2.2.2)⟩
theorem Wk.s1 {b : Nat} {σ : WS} {h1 : AH} (h : Wk b σ h1) (x : Int32) : Wk b (uS σ 1 x) (h1.set b (.inr (1, (wkF b σ).set 8 (.int x)))) := ⟨(gss h.1), ⟨(by rw [gsn (by omega)]; exact h.2.1.1), (by rw [gsn (by omega)]; exact h.2.1.2)⟩, ⟨(by rw [gsn (by omega)]; exact h.2.2.1.1), (by rw [gsn (by omega)]; exact h.2.2.1.2)⟩, ⟨(by rw [gsn (by omega)]; exact h.2.2.2.1.1), (by rw [gsn (by omega)]; exact h.2.2.2.1.2)⟩, ⟨(by rw [gsn (by omega)]; exact h.2.2.2.2.1.1), (by rw [gsn (by omega)]; exact h.2.2.2.2.1.2)⟩, ⟨(by rw [gsn (by omega)]; exact h.2.2.2.2.2.1.1), (by rw [gsn (by omega)]; exact h.2.2.2.2.2.1.2)⟩, (by rw [gsn (by omega)]; exact h.2.2.2.2.2.2.1), (by rw [gsn (by omega)]; exact h.2.2.2.2.2.2.2)⟩
theorem Wk.s2 {b : Nat} {σ : WS} {h1 : AH} (h : Wk b σ h1) (x : Int32) : Wk b (uS σ 2 x) (h1.set b (.inr (1, (wkF b σ).set 9 (.int x)))) := ⟨(gss h.1), ⟨(by rw [gsn (by omega)]; exact h.2.1.1), (by rw [gsn (by omega)]; exact h.2.1.2)⟩, ⟨(by rw [gsn (by omega)]; exact h.2.2.1.1), (by rw [gsn (by omega)]; exact h.2.2.1.2)⟩, ⟨(by rw [gsn (by omega)]; exact h.2.2.2.1.1), (by rw [gsn (by omega)]; exact h.2.2.2.1.2)⟩, ⟨(by rw [gsn (by omega)]; exact h.2.2.2.2.1.1), (by rw [gsn (by omega)]; exact h.2.2.2.2.1.2)⟩, ⟨(by rw [gsn (by omega)]; exact h.2.2.2.2.2.1.1), (by rw [gsn (by omega)]; exact h.2.2.2.2.2.1.2)⟩, (by rw [gsn (by omega)]; exact h.2.2.2.2.2.2.1), (by rw [gsn (by omega)]; exact h.2.2.2.2.2.2.2)⟩
theorem Wk.s3 {b : Nat} {σ : WS} {h1 : AH} (h : Wk b σ h1) (x : Int32) : Wk b (uS σ 3 x) (h1.set b (.inr (1, (wkF b σ).set 10 (.int x)))) := ⟨(gss h.1), ⟨(by rw [gsn (by omega)]; exact h.2.1.1), (by rw [gsn (by omega)]; exact h.2.1.2)⟩, ⟨(by rw [gsn (by omega)]; exact h.2.2.1.1), (by rw [gsn (by omega)]; exact h.2.2.1.2)⟩, ⟨(by rw [gsn (by omega)]; exact h.2.2.2.1.1), (by rw [gsn (by omega)]; exact h.2.2.2.1.2)⟩, ⟨(by rw [gsn (by omega)]; exact h.2.2.2.2.1.1), (by rw [gsn (by omega)]; exact h.2.2.2.2.1.2)⟩, ⟨(by rw [gsn (by omega)]; exact h.2.2.2.2.2.1.1), (by rw [gsn (by omega)]; exact h.2.2.2.2.2.1.2)⟩, (by rw [gsn (by omega)]; exact h.2.2.2.2.2.2.1), (by rw [gsn (by omega)]; exact h.2.2.2.2.2.2.2)⟩
theorem Wk.s4 {b : Nat} {σ : WS} {h1 : AH} (h : Wk b σ h1) (x : Int32) : Wk b (uS σ 4 x) (h1.set b (.inr (1, (wkF b σ).set 11 (.int x)))) := ⟨(gss h.1), ⟨(by rw [gsn (by omega)]; exact h.2.1.1), (by rw [gsn (by omega)]; exact h.2.1.2)⟩, ⟨(by rw [gsn (by omega)]; exact h.2.2.1.1), (by rw [gsn (by omega)]; exact h.2.2.1.2)⟩, ⟨(by rw [gsn (by omega)]; exact h.2.2.2.1.1), (by rw [gsn (by omega)]; exact h.2.2.2.1.2)⟩, ⟨(by rw [gsn (by omega)]; exact h.2.2.2.2.1.1), (by rw [gsn (by omega)]; exact h.2.2.2.2.1.2)⟩, ⟨(by rw [gsn (by omega)]; exact h.2.2.2.2.2.1.1), (by rw [gsn (by omega)]; exact h.2.2.2.2.2.1.2)⟩, (by rw [gsn (by omega)]; exact h.2.2.2.2.2.2.1), (by rw [gsn (by omega)]; exact h.2.2.2.2.2.2.2)⟩
theorem Wk.s5 {b : Nat} {σ : WS} {h1 : AH} (h : Wk b σ h1) (x : Int32) : Wk b (uS σ 5 x) (h1.set b (.inr (1, (wkF b σ).set 12 (.int x)))) := ⟨(gss h.1), ⟨(by rw [gsn (by omega)]; exact h.2.1.1), (by rw [gsn (by omega)]; exact h.2.1.2)⟩, ⟨(by rw [gsn (by omega)]; exact h.2.2.1.1), (by rw [gsn (by omega)]; exact h.2.2.1.2)⟩, ⟨(by rw [gsn (by omega)]; exact h.2.2.2.1.1), (by rw [gsn (by omega)]; exact h.2.2.2.1.2)⟩, ⟨(by rw [gsn (by omega)]; exact h.2.2.2.2.1.1), (by rw [gsn (by omega)]; exact h.2.2.2.2.1.2)⟩, ⟨(by rw [gsn (by omega)]; exact h.2.2.2.2.2.1.1), (by rw [gsn (by omega)]; exact h.2.2.2.2.2.1.2)⟩, (by rw [gsn (by omega)]; exact h.2.2.2.2.2.2.1), (by rw [gsn (by omega)]; exact h.2.2.2.2.2.2.2)⟩
theorem Wk.s6 {b : Nat} {σ : WS} {h1 : AH} (h : Wk b σ h1) (x : Int32) : Wk b (uS σ 6 x) (h1.set b (.inr (1, (wkF b σ).set 13 (.int x)))) := ⟨(gss h.1), ⟨(by rw [gsn (by omega)]; exact h.2.1.1), (by rw [gsn (by omega)]; exact h.2.1.2)⟩, ⟨(by rw [gsn (by omega)]; exact h.2.2.1.1), (by rw [gsn (by omega)]; exact h.2.2.1.2)⟩, ⟨(by rw [gsn (by omega)]; exact h.2.2.2.1.1), (by rw [gsn (by omega)]; exact h.2.2.2.1.2)⟩, ⟨(by rw [gsn (by omega)]; exact h.2.2.2.2.1.1), (by rw [gsn (by omega)]; exact h.2.2.2.2.1.2)⟩, ⟨(by rw [gsn (by omega)]; exact h.2.2.2.2.2.1.1), (by rw [gsn (by omega)]; exact h.2.2.2.2.2.1.2)⟩, (by rw [gsn (by omega)]; exact h.2.2.2.2.2.2.1), (by rw [gsn (by omega)]; exact h.2.2.2.2.2.2.2)⟩
theorem Wk.s7 {b : Nat} {σ : WS} {h1 : AH} (h : Wk b σ h1) (x : Int32) : Wk b (uS σ 7 x) (h1.set b (.inr (1, (wkF b σ).set 14 (.int x)))) := ⟨(gss h.1), ⟨(by rw [gsn (by omega)]; exact h.2.1.1), (by rw [gsn (by omega)]; exact h.2.1.2)⟩, ⟨(by rw [gsn (by omega)]; exact h.2.2.1.1), (by rw [gsn (by omega)]; exact h.2.2.1.2)⟩, ⟨(by rw [gsn (by omega)]; exact h.2.2.2.1.1), (by rw [gsn (by omega)]; exact h.2.2.2.1.2)⟩, ⟨(by rw [gsn (by omega)]; exact h.2.2.2.2.1.1), (by rw [gsn (by omega)]; exact h.2.2.2.2.1.2)⟩, ⟨(by rw [gsn (by omega)]; exact h.2.2.2.2.2.1.1), (by rw [gsn (by omega)]; exact h.2.2.2.2.2.1.2)⟩, (by rw [gsn (by omega)]; exact h.2.2.2.2.2.2.1), (by rw [gsn (by omega)]; exact h.2.2.2.2.2.2.2)⟩
theorem Wk.s8 {b : Nat} {σ : WS} {h1 : AH} (h : Wk b σ h1) (x : Int32) : Wk b (uS σ 8 x) (h1.set b (.inr (1, (wkF b σ).set 15 (.int x)))) := ⟨(gss h.1), ⟨(by rw [gsn (by omega)]; exact h.2.1.1), (by rw [gsn (by omega)]; exact h.2.1.2)⟩, ⟨(by rw [gsn (by omega)]; exact h.2.2.1.1), (by rw [gsn (by omega)]; exact h.2.2.1.2)⟩, ⟨(by rw [gsn (by omega)]; exact h.2.2.2.1.1), (by rw [gsn (by omega)]; exact h.2.2.2.1.2)⟩, ⟨(by rw [gsn (by omega)]; exact h.2.2.2.2.1.1), (by rw [gsn (by omega)]; exact h.2.2.2.2.1.2)⟩, ⟨(by rw [gsn (by omega)]; exact h.2.2.2.2.2.1.1), (by rw [gsn (by omega)]; exact h.2.2.2.2.2.1.2)⟩, (by rw [gsn (by omega)]; exact h.2.2.2.2.2.2.1), (by rw [gsn (by omega)]; exact h.2.2.2.2.2.2.2)⟩
theorem Wk.s9 {b : Nat} {σ : WS} {h1 : AH} (h : Wk b σ h1) (x : Int32) : Wk b (uS σ 9 x) (h1.set b (.inr (1, (wkF b σ).set 16 (.int x)))) := ⟨(gss h.1), ⟨(by rw [gsn (by omega)]; exact h.2.1.1), (by rw [gsn (by omega)]; exact h.2.1.2)⟩, ⟨(by rw [gsn (by omega)]; exact h.2.2.1.1), (by rw [gsn (by omega)]; exact h.2.2.1.2)⟩, ⟨(by rw [gsn (by omega)]; exact h.2.2.2.1.1), (by rw [gsn (by omega)]; exact h.2.2.2.1.2)⟩, ⟨(by rw [gsn (by omega)]; exact h.2.2.2.2.1.1), (by rw [gsn (by omega)]; exact h.2.2.2.2.1.2)⟩, ⟨(by rw [gsn (by omega)]; exact h.2.2.2.2.2.1.1), (by rw [gsn (by omega)]; exact h.2.2.2.2.2.1.2)⟩, (by rw [gsn (by omega)]; exact h.2.2.2.2.2.2.1), (by rw [gsn (by omega)]; exact h.2.2.2.2.2.2.2)⟩
/-- nothing else has changed -/
def Out (b w : Nat) (h h1 : AH) : Prop := h1.length = h.length ∧ ∀ i : Nat, (i < b ∨ b + w ≤ i) → h1[i]? = h[i]?
theorem Out.rf {b w : Nat} {h : AH} : Out b w h h := ⟨rfl, fun _ _ => rfl⟩
theorem Out.tr {b w : Nat} {h h1 h2 : AH} (a : Out b w h h1) (c : Out b w h1 h2) : Out b w h h2 := ⟨c.1.trans a.1, fun i hi => (c.2 i hi).trans (a.2 i hi)⟩
theorem Out.set {b w i : Nat} {h h1 : AH} {x : AC} (a : Out b w h h1) (h0 : b ≤ i) (h2 : i < b + w) : Out b w h (h1.set i x) := ⟨by rw [List.length_set]; exact a.1, fun j hj => by rw [gsn (by omega)]; exact a.2 j hj⟩
theorem vin {x : Int32} {n : Nat} (h1 : ¬ x < 0) (h2 : ¬ nI n ≤ x) (hn : n < 2 ^ 31) : vp_in x n := by
  rcases pk_ix x hn with h | h | ⟨j, hj, rfl⟩
  · exact absurd h h1
  · exact absurd h h2
  · exact vp_in_nI hj hn
def kWholeOf (σ : WS) (x : Int32) : Int32 := if x < 0 ∨ (25 : Int32) ≤ x then 0 else σ.1 6 x.toNatClampNeg
def kDries (σ : WS) (x : Int32) : Int32 := if x < 0 ∨ (7 : Int32) ≤ x then 0 else σ.1 5 x.toNatClampNeg
def kWh (f : Nat → Int32) : Nat → Int32
  | 0 => 0
  | n + 1 => kWh f n + f (4 + n)
def kFlaw (σ : WS) (i : Nat) : Int32 := σ.1 0 (i * 3 + 2) / 10 + 9 - σ.1 0 (i * 3 + 1)
def kClay (σ : WS) (i : Nat) : Int32 := (σ.1 0 (i * 3 + 0) + 7) / 8
def kMk (f : Nat → Int32) (x : Int32) : Nat → Nat → Int32
  | 0, _ => -1
  | m + 1, k => if f (k * 2 + 1) = x then nI k else kMk f x m (k + 1)
def kMaker (σ : WS) (x : Int32) : Int32 := kMk (σ.1 1) x (σ.2.1 1) 0
def kAnother (σ : WS) (x y : Int32) : Int32 := if x = -1 then 0 else if kMaker σ x = -1 ∨ kMaker σ x = y then 0 else 1
def kAbout (σ : WS) (i j : Nat) : Int32 := if j = 3 then kFlaw σ i else if j = 4 then kClay σ i else if j = 5 then kMaker σ (nI i) else σ.1 0 (i * 3 + j)
def kCount (σ : WS) (j : Nat) : Int32 := match j with
  | 0 => σ.2.2 0
  | 1 => σ.2.2 1
  | 2 => σ.2.2 2
  | 3 => σ.2.2 3
  | 4 => σ.2.2 4
  | 5 => σ.2.2 5
  | 6 => tSum (σ.1 2) 4 1 (σ.2.1 2)
  | 7 => tSum (σ.1 3) 4 1 (σ.2.1 3)
  | 8 => kWh (σ.1 6) 21
  | 9 => nI (σ.2.1 4)
  | 10 => σ.2.2 6
  | _ => σ.2.2 7
def kOff (len burnt : Int32) : Int32 := (if 0 ≤ 4 * burnt - (20 + 2 * len) then 4 * burnt - (20 + 2 * len) else 0 - (4 * burnt - (20 + 2 * len))) / 2
def kShare (σ : WS) (s : Nat) (burnt : Int32) : Int32 := 8 * σ.1 3 (s * 4 + 2) + 2 * σ.1 3 (s * 4 + 3) + kOff (σ.1 3 (s * 4 + 0)) burnt + (if s = 0 ∨ s = 5 then 5 else 0)
def kStems (σ : WS) (s : Nat) (burnt : Int32) : Int32 := ((if 100 < kShare σ s burnt then 100 else kShare σ s burnt) * σ.1 3 (s * 4 + 1) + 99) / 100
def kStN (σ : WS) (burnt : Int32) : Nat → Int32
  | 0 => 0
  | n + 1 => kStN σ burnt n + kStems σ n burnt
def kBs (σ : WS) : Nat → Int32 × Int32
  | 0 => (1, kStN σ 1 6)
  | n + 1 => if kStN σ (nI (2 + n)) 6 < (kBs σ n).2 then (nI (2 + n), kStN σ (nI (2 + n)) 6) else kBs σ n
section WORKS
variable {d b : Nat} {σ : WS} {h : AH}
set_option maxHeartbeats 4000000 in
theorem c_driesBy (x : Int32) (hw : Wk b σ h) : Ct d mX1_driesBy 0 0 [.ref b, .int x] h (RI (kDries σ x) h) := by
  refine Ct.of (by decide +kernel) rfl (Nat.le_of_ble_eq_true rfl) ?_
  show WP d mX1_driesBy none 0 0 0 [.ref b, .int x] [] h _
  refine w_iload_n (pc := 0) (i := 1) dX1_driesBy_0 rfl rfl ?_
  refine w_if_lt (pc := 1) (tgt := 22) dX1_driesBy_1 (by decide) (fun c1 => ?_) (fun c1 => ?_)
  · refine w_iconst (pc := 22) (v := 0) dX1_driesBy_22 (by decide) ?_
    exact w_ireturn (pc := 23) dX1_driesBy_23 ⟨_, rfl, rfl⟩ ⟨by unfold kDries; rw [if_pos (Or.inl c1)], rfl⟩
  · refine w_iload_n (pc := 4) (i := 1) dX1_driesBy_4 rfl rfl ?_
    refine w_aload_n (pc := 5) (i := 0) dX1_driesBy_5 rfl rfl ?_
    refine w_get (pc := 6) dX1_driesBy_6 FX1_32 hw.1 rfl ?_
    refine w_alen (pc := 9) (v := 7) dX1_driesBy_9 hw.dr rfl ?_
    refine w_icmp_ge (pc := 10) (tgt := 22) dX1_driesBy_10 (by decide) (fun c10 => ?_) (fun c10 => ?_)
    · refine w_iconst (pc := 22) (v := 0) dX1_driesBy_22 (by decide) ?_
      exact w_ireturn (pc := 23) dX1_driesBy_23 ⟨_, rfl, rfl⟩ ⟨by unfold kDries; rw [if_pos (Or.inr c10)], rfl⟩
    · refine w_aload_n (pc := 13) (i := 0) dX1_driesBy_13 rfl rfl ?_
      refine w_get (pc := 14) dX1_driesBy_14 FX1_32 hw.1 rfl ?_
      refine w_iload_n (pc := 17) (i := 1) dX1_driesBy_17 rfl rfl ?_
      refine w_iald (pc := 18) dX1_driesBy_18 hw.dr (vin c1 c10 (by omega)) ?_
      refine w_goto (pc := 19) (tgt := 23) dX1_driesBy_19 (by decide) ?_
      exact w_ireturn (pc := 23) dX1_driesBy_23 ⟨_, rfl, rfl⟩ ⟨by unfold kDries; rw [if_neg (fun q => q.elim c1 c10)], rfl⟩
set_option maxHeartbeats 4000000 in
theorem c_wholeOf (x : Int32) (hw : Wk b σ h) : Ct d mX1_wholeOf 0 0 [.ref b, .int x] h (RI (kWholeOf σ x) h) := by
  refine Ct.of (by decide +kernel) rfl (Nat.le_of_ble_eq_true rfl) ?_
  show WP d mX1_wholeOf none 0 0 0 [.ref b, .int x] [] h _
  refine w_iload_n (pc := 0) (i := 1) dX1_wholeOf_0 rfl rfl ?_
  refine w_if_lt (pc := 1) (tgt := 22) dX1_wholeOf_1 (by decide) (fun c1 => ?_) (fun c1 => ?_)
  · refine w_iconst (pc := 22) (v := 0) dX1_wholeOf_22 (by decide) ?_
    exact w_ireturn (pc := 23) dX1_wholeOf_23 ⟨_, rfl, rfl⟩ ⟨by unfold kWholeOf; rw [if_pos (Or.inl c1)], rfl⟩
  · refine w_iload_n (pc := 4) (i := 1) dX1_wholeOf_4 rfl rfl ?_
    refine w_aload_n (pc := 5) (i := 0) dX1_wholeOf_5 rfl rfl ?_
    refine w_get (pc := 6) dX1_wholeOf_6 FX1_36 hw.1 rfl ?_
    refine w_alen (pc := 9) (v := 25) dX1_wholeOf_9 hw.wh rfl ?_
    refine w_icmp_ge (pc := 10) (tgt := 22) dX1_wholeOf_10 (by decide) (fun c10 => ?_) (fun c10 => ?_)
    · refine w_iconst (pc := 22) (v := 0) dX1_wholeOf_22 (by decide) ?_
      exact w_ireturn (pc := 23) dX1_wholeOf_23 ⟨_, rfl, rfl⟩ ⟨by unfold kWholeOf; rw [if_pos (Or.inr c10)], rfl⟩
    · refine w_aload_n (pc := 13) (i := 0) dX1_wholeOf_13 rfl rfl ?_
      refine w_get (pc := 14) dX1_wholeOf_14 FX1_36 hw.1 rfl ?_
      refine w_iload_n (pc := 17) (i := 1) dX1_wholeOf_17 rfl rfl ?_
      refine w_iald (pc := 18) dX1_wholeOf_18 hw.wh (vin c1 c10 (by omega)) ?_
      refine w_goto (pc := 19) (tgt := 23) dX1_wholeOf_19 (by decide) ?_
      exact w_ireturn (pc := 23) dX1_wholeOf_23 ⟨_, rfl, rfl⟩ ⟨by unfold kWholeOf; rw [if_neg (fun q => q.elim c1 c10)], rfl⟩
set_option maxHeartbeats 4000000 in
theorem c_wholeInAll_loop (hw : Wk b σ h) : ∀ (m k : Nat), k + m = 21 → WP (d + 1) mX1_wholeInAll none 0 0 4 [.ref b, .int (kWh (σ.1 6) k), .int (nI (4 + k))] [] h (RI (kWh (σ.1 6) 21) h) := by
  intro m
  induction m with
  | zero =>
    intro k hk
    have hk : k = 21 := by omega
    subst hk
    refine w_iload_n (pc := 4) (i := 2) dX1_wholeInAll_4 rfl rfl ?_
    refine w_bipush (pc := 5) (v := 24) dX1_wholeInAll_5 (by decide) ?_
    refine w_icmp_gt (pc := 7) (tgt := 24) dX1_wholeInAll_7 (by decide) (fun c7 => ?_) (fun c7 => absurd (by decide +kernel) c7)
    refine w_iload_n (pc := 24) (i := 1) dX1_wholeInAll_24 rfl rfl ?_
    exact w_ireturn (pc := 25) dX1_wholeInAll_25 ⟨_, rfl, rfl⟩ ⟨rfl, rfl⟩
  | succ m ih =>
    intro k hk
    refine w_iload_n (pc := 4) (i := 2) dX1_wholeInAll_4 rfl rfl ?_
    refine w_bipush (pc := 5) (v := 24) dX1_wholeInAll_5 (by decide) ?_
    refine w_icmp_gt (pc := 7) (tgt := 24) dX1_wholeInAll_7 (by decide) (fun c7 => absurd (show nI 24 < nI (4 + k) from c7) (nI_nlt (by omega) (by omega))) (fun c7 => ?_)
    refine w_iload_n (pc := 10) (i := 1) dX1_wholeInAll_10 rfl rfl ?_
    refine w_aload_n (pc := 11) (i := 0) dX1_wholeInAll_11 rfl rfl ?_
    refine w_iload_n (pc := 12) (i := 2) dX1_wholeInAll_12 rfl rfl ?_
    refine w_vI (pc := 13) dX1_wholeInAll_13 GX1_92 hw.1 (c_wholeOf (nI (4 + k)) hw) rfl rfl rfl rfl ?_
    rw [show kWholeOf σ (nI (4 + k)) = σ.1 6 (4 + k) from by unfold kWholeOf; rw [if_neg (by rintro (q | q); exact nI_pos (by omega) q; exact nI_ge (b := 25) (by omega) (by omega) q), nI_clamp (by omega)]]
    refine w_iadd (pc := 16) dX1_wholeInAll_16 ?_
    refine w_topi (fun x17 e17 => ?_)
    refine w_istore_n (pc := 17) (i := 1) (ls' := [.ref b, .int x17, .int (nI (4 + k))]) dX1_wholeInAll_17 rfl (by decide) rfl rfl rfl ?_
    obtain ⟨x18, e18⟩ : ∃ y : Int32, y = (nI (4 + k)) + 1 := ⟨_, rfl⟩
    refine w_iinc (pc := 18) (i := 2) (y := x18) (ls' := [.ref b, .int x17, .int x18]) dX1_wholeInAll_18 rfl (by rw [e18]; rfl) (by decide) rfl rfl rfl ?_
    refine w_goto (pc := 21) (tgt := 4) dX1_wholeInAll_21 (by decide) ?_
    obtain rfl : x17 = kWh (σ.1 6) (k + 1) := e17
    obtain rfl : x18 = nI (4 + (k + 1)) := by rw [e18]; exact nI_1 (4 + k)
    exact ih (k + 1) (by omega)
set_option maxHeartbeats 4000000 in
theorem c_wholeInAll (hw : Wk b σ h) : Ct (d + 1) mX1_wholeInAll 0 0 [.ref b] h (RI (kWh (σ.1 6) 21) h) := by
  refine Ct.of (by decide +kernel) rfl (Nat.le_of_ble_eq_true rfl) ?_
  show WP (d + 1) mX1_wholeInAll none 0 0 0 [.ref b, vU, vU] [] h _
  refine w_iconst (pc := 0) (v := 0) dX1_wholeInAll_0 (by decide) ?_
  refine w_topi (fun x1 e1 => ?_)
  refine w_istore_n (pc := 1) (i := 1) (ls' := [.ref b, .int x1, vU]) dX1_wholeInAll_1 rfl (by decide) rfl rfl rfl ?_
  refine w_iconst (pc := 2) (v := 4) dX1_wholeInAll_2 (by decide) ?_
  refine w_topi (fun x3 e3 => ?_)
  refine w_istore_n (pc := 3) (i := 2) (ls' := [.ref b, .int x1, .int x3]) dX1_wholeInAll_3 rfl (by decide) rfl rfl rfl ?_
  subst e1
  subst e3
  exact c_wholeInAll_loop hw 21 0 rfl
set_option maxHeartbeats 4000000 in
theorem c_flawOf (i : Nat) (hw : Wk b σ h) (hB : WB σ) (hi : i < σ.2.1 0) : Ct (d + 1) mX1_flawOf 0 0 [.ref b, .int (nI i)] h (RI (kFlaw σ i) h) := by
  refine Ct.of (by decide +kernel) rfl (Nat.le_of_ble_eq_true rfl) ?_
  show WP (d + 1) mX1_flawOf none 0 0 0 [.ref b, .int (nI i)] [] h _
  refine w_aload_n (pc := 0) (i := 0) dX1_flawOf_0 rfl rfl ?_
  refine w_get (pc := 1) dX1_flawOf_1 FX1_14 hw.1 rfl ?_
  refine w_iload_n (pc := 4) (i := 1) dX1_flawOf_4 rfl rfl ?_
  refine w_iconst (pc := 5) (v := 2) dX1_flawOf_5 (by decide) ?_
  refine w_vI (pc := 6) dX1_flawOf_6 GX1_96 hw.t0.1 (c_at i 2 hw.t0 hB.b0 hi (by omega)) rfl rfl rfl rfl ?_
  refine w_bipush (pc := 9) (v := 10) dX1_flawOf_9 (by decide) ?_
  refine w_idiv (pc := 11) dX1_flawOf_11 (by decide) ?_
  refine w_bipush (pc := 12) (v := 9) dX1_flawOf_12 (by decide) ?_
  refine w_iadd (pc := 14) dX1_flawOf_14 ?_
  refine w_aload_n (pc := 15) (i := 0) dX1_flawOf_15 rfl rfl ?_
  refine w_get (pc := 16) dX1_flawOf_16 FX1_14 hw.1 rfl ?_
  refine w_iload_n (pc := 19) (i := 1) dX1_flawOf_19 rfl rfl ?_
  refine w_iconst (pc := 20) (v := 1) dX1_flawOf_20 (by decide) ?_
  refine w_vI (pc := 21) dX1_flawOf_21 GX1_96 hw.t0.1 (c_at i 1 hw.t0 hB.b0 hi (by omega)) rfl rfl rfl rfl ?_
  refine w_isub (pc := 24) dX1_flawOf_24 ?_
  exact w_ireturn (pc := 25) dX1_flawOf_25 ⟨_, rfl, rfl⟩ ⟨rfl, rfl⟩
set_option maxHeartbeats 4000000 in
theorem c_clayOf (i : Nat) (hw : Wk b σ h) (hB : WB σ) (hi : i < σ.2.1 0) : Ct (d + 1) mX1_clayOf 0 0 [.ref b, .int (nI i)] h (RI (kClay σ i) h) := by
  refine Ct.of (by decide +kernel) rfl (Nat.le_of_ble_eq_true rfl) ?_
  show WP (d + 1) mX1_clayOf none 0 0 0 [.ref b, .int (nI i)] [] h _
  refine w_aload_n (pc := 0) (i := 0) dX1_clayOf_0 rfl rfl ?_
  refine w_get (pc := 1) dX1_clayOf_1 FX1_14 hw.1 rfl ?_
  refine w_iload_n (pc := 4) (i := 1) dX1_clayOf_4 rfl rfl ?_
  refine w_iconst (pc := 5) (v := 0) dX1_clayOf_5 (by decide) ?_
  refine w_vI (pc := 6) dX1_clayOf_6 GX1_96 hw.t0.1 (c_at i 0 hw.t0 hB.b0 hi (by omega)) rfl rfl rfl rfl ?_
  refine w_bipush (pc := 9) (v := 7) dX1_clayOf_9 (by decide) ?_
  refine w_iadd (pc := 11) dX1_clayOf_11 ?_
  refine w_bipush (pc := 12) (v := 8) dX1_clayOf_12 (by decide) ?_
  refine w_idiv (pc := 14) dX1_clayOf_14 (by decide) ?_
  exact w_ireturn (pc := 15) dX1_clayOf_15 ⟨_, rfl, rfl⟩ ⟨rfl, rfl⟩
set_option maxHeartbeats 4000000 in
theorem c_makerAt_loop (x : Int32) (hw : Wk b σ h) (hB : WB σ) : ∀ (m k : Nat), k + m = σ.2.1 1 → WP (d + 1) mX1_makerAt none 0 0 2 [.ref b, .int x, .int (nI k)] [] h (RI (kMk (σ.1 1) x m k) h) := by
  have hr := hB.b1.rows
  intro m
  induction m with
  | zero =>
    intro k hk
    refine w_iload_n (pc := 2) (i := 2) dX1_makerAt_2 rfl rfl ?_
    refine w_aload_n (pc := 3) (i := 0) dX1_makerAt_3 rfl rfl ?_
    refine w_get (pc := 4) dX1_makerAt_4 FX1_20 hw.1 rfl ?_
    refine w_vI (pc := 7) dX1_makerAt_7 GX1_89 hw.t1.1 (c_size hw.t1) rfl rfl rfl rfl ?_
    refine w_icmp_ge (pc := 10) (tgt := 34) dX1_makerAt_10 (by decide) (fun c10 => ?_) (fun c10 => absurd (nI_le (by omega) (by omega)) c10)
    refine w_iconst (pc := 34) (v := -1) dX1_makerAt_34 (by decide) ?_
    exact w_ireturn (pc := 35) dX1_makerAt_35 ⟨_, rfl, rfl⟩ ⟨rfl, rfl⟩
  | succ m ih =>
    intro k hk
    refine w_iload_n (pc := 2) (i := 2) dX1_makerAt_2 rfl rfl ?_
    refine w_aload_n (pc := 3) (i := 0) dX1_makerAt_3 rfl rfl ?_
    refine w_get (pc := 4) dX1_makerAt_4 FX1_20 hw.1 rfl ?_
    refine w_vI (pc := 7) dX1_makerAt_7 GX1_89 hw.t1.1 (c_size hw.t1) rfl rfl rfl rfl ?_
    refine w_icmp_ge (pc := 10) (tgt := 34) dX1_makerAt_10 (by decide) (fun c10 => absurd c10 (nI_ge (by omega) (by omega))) (fun c10 => ?_)
    refine w_aload_n (pc := 13) (i := 0) dX1_makerAt_13 rfl rfl ?_
    refine w_get (pc := 14) dX1_makerAt_14 FX1_20 hw.1 rfl ?_
    refine w_iload_n (pc := 17) (i := 2) dX1_makerAt_17 rfl rfl ?_
    refine w_iconst (pc := 18) (v := 1) dX1_makerAt_18 (by decide) ?_
    refine w_vI (pc := 19) dX1_makerAt_19 GX1_96 hw.t1.1 (c_at k 1 hw.t1 hB.b1 (by omega) (by omega)) rfl rfl rfl rfl ?_
    refine w_iload_n (pc := 22) (i := 1) dX1_makerAt_22 rfl rfl ?_
    refine w_icmp_ne (pc := 23) (tgt := 28) dX1_makerAt_23 (by decide) (fun c23 => ?_) (fun c23 => ?_)
    · obtain ⟨x28, e28⟩ : ∃ y : Int32, y = (nI k) + 1 := ⟨_, rfl⟩
      refine w_iinc (pc := 28) (i := 2) (y := x28) (ls' := [.ref b, .int x, .int x28]) dX1_makerAt_28 rfl (by rw [e28]; rfl) (by decide) rfl rfl rfl ?_
      refine w_goto (pc := 31) (tgt := 2) dX1_makerAt_31 (by decide) ?_
      obtain rfl : x28 = nI (k + 1) := by rw [e28]; exact nI_1 k
      have h2 := ih (k + 1) (by omega)
      rw [show kMk (σ.1 1) x (m + 1) k = kMk (σ.1 1) x m (k + 1) from if_neg c23]
      exact h2
    · refine w_iload_n (pc := 26) (i := 2) dX1_makerAt_26 rfl rfl ?_
      exact w_ireturn (pc := 27) dX1_makerAt_27 ⟨_, rfl, rfl⟩ ⟨by rw [show kMk (σ.1 1) x (m + 1) k = nI k from if_pos c23], rfl⟩
set_option maxHeartbeats 4000000 in
theorem c_makerAt (x : Int32) (hw : Wk b σ h) (hB : WB σ) : Ct (d + 1) mX1_makerAt 0 0 [.ref b, .int x] h (RI (kMaker σ x) h) := by
  refine Ct.of (by decide +kernel) rfl (Nat.le_of_ble_eq_true rfl) ?_
  show WP (d + 1) mX1_makerAt none 0 0 0 [.ref b, .int x, vU] [] h _
  refine w_iconst (pc := 0) (v := 0) dX1_makerAt_0 (by decide) ?_
  refine w_topi (fun x1 e1 => ?_)
  refine w_istore_n (pc := 1) (i := 2) (ls' := [.ref b, .int x, .int x1]) dX1_makerAt_1 rfl (by decide) rfl rfl rfl ?_
  subst e1
  exact c_makerAt_loop x hw hB _ 0 (Nat.zero_add _)
set_option maxHeartbeats 4000000 in
theorem c_isAnotherAt (x y : Int32) (hw : Wk b σ h) (hB : WB σ) : Ct (d + 2) mX1_isAnotherAt 0 0 [.ref b, .int x, .int y] h (RI (kAnother σ x y) h) := by
  refine Ct.of (by decide +kernel) rfl (Nat.le_of_ble_eq_true rfl) ?_
  show WP (d + 2) mX1_isAnotherAt none 0 0 0 [.ref b, .int x, .int y, vU] [] h _
  refine w_iload_n (pc := 0) (i := 1) dX1_isAnotherAt_0 rfl rfl ?_
  refine w_iconst (pc := 1) (v := -1) dX1_isAnotherAt_1 (by decide) ?_
  refine w_icmp_ne (pc := 2) (tgt := 7) dX1_isAnotherAt_2 (by decide) (fun c2 => ?_) (fun c2 => ?_)
  · refine w_aload_n (pc := 7) (i := 0) dX1_isAnotherAt_7 rfl rfl ?_
    refine w_iload_n (pc := 8) (i := 1) dX1_isAnotherAt_8 rfl rfl ?_
    refine w_vI (pc := 9) dX1_isAnotherAt_9 GX1_100 hw.1 (c_makerAt x hw hB) rfl rfl rfl rfl ?_
    refine w_topi (fun x12 e12 => ?_)
    refine w_istore_n (pc := 12) (i := 3) (ls' := [.ref b, .int x, .int y, .int x12]) dX1_isAnotherAt_12 rfl (by decide) rfl rfl rfl ?_
    refine w_iload_n (pc := 13) (i := 3) dX1_isAnotherAt_13 rfl rfl ?_
    refine w_iconst (pc := 14) (v := -1) dX1_isAnotherAt_14 (by decide) ?_
    subst e12
    refine w_icmp_eq (pc := 15) (tgt := 27) dX1_isAnotherAt_15 (by decide) (fun c15 => ?_) (fun c15 => ?_)
    · refine w_iconst (pc := 27) (v := 0) dX1_isAnotherAt_27 (by decide) ?_
      exact w_ireturn (pc := 28) dX1_isAnotherAt_28 ⟨_, rfl, rfl⟩ ⟨by unfold kAnother; rw [if_neg c2, if_pos (Or.inl c15)], rfl⟩
    · refine w_iload_n (pc := 18) (i := 3) dX1_isAnotherAt_18 rfl rfl ?_
      refine w_iload_n (pc := 19) (i := 2) dX1_isAnotherAt_19 rfl rfl ?_
      refine w_icmp_eq (pc := 20) (tgt := 27) dX1_isAnotherAt_20 (by decide) (fun c20 => ?_) (fun c20 => ?_)
      · refine w_iconst (pc := 27) (v := 0) dX1_isAnotherAt_27 (by decide) ?_
        exact w_ireturn (pc := 28) dX1_isAnotherAt_28 ⟨_, rfl, rfl⟩ ⟨by unfold kAnother; rw [if_neg c2, if_pos (Or.inr c20)], rfl⟩
      · refine w_iconst (pc := 23) (v := 1) dX1_isAnotherAt_23 (by decide) ?_
        refine w_goto (pc := 24) (tgt := 28) dX1_isAnotherAt_24 (by decide) ?_
        exact w_ireturn (pc := 28) dX1_isAnotherAt_28 ⟨_, rfl, rfl⟩ ⟨by unfold kAnother; rw [if_neg c2, if_neg (fun q => q.elim c15 c20)], rfl⟩
  · refine w_iconst (pc := 5) (v := 0) dX1_isAnotherAt_5 (by decide) ?_
    exact w_ireturn (pc := 6) dX1_isAnotherAt_6 ⟨_, rfl, rfl⟩ ⟨by unfold kAnother; rw [if_pos c2], rfl⟩
set_option maxHeartbeats 4000000 in
theorem c_aboutMould (i j : Nat) (hw : Wk b σ h) (hB : WB σ) (hi : i < σ.2.1 0) (hj : j < 6) : Ct (d + 2) mX1_aboutMould 0 0 [.ref b, .int (nI i), .int (nI j)] h (RI (kAbout σ i j) h) := by
  refine Ct.of (by decide +kernel) rfl (Nat.le_of_ble_eq_true rfl) ?_
  show WP (d + 2) mX1_aboutMould none 0 0 0 [.ref b, .int (nI i), .int (nI j)] [] h _
  refine w_iload_n (pc := 0) (i := 2) dX1_aboutMould_0 rfl rfl ?_
  by_cases h3 : j = 3
  · subst h3
    refine w_tableIn (pc := 1) (tgt := 28) dX1_aboutMould_1 (by decide +kernel) (by decide +kernel) (off := 27) (by decide +kernel) (by decide) ?_
    refine w_aload_n (pc := 28) (i := 0) dX1_aboutMould_28 rfl rfl ?_
    refine w_iload_n (pc := 29) (i := 1) dX1_aboutMould_29 rfl rfl ?_
    refine w_vI (pc := 30) dX1_aboutMould_30 GX1_103 hw.1 (c_flawOf i hw hB hi) rfl rfl rfl rfl ?_
    exact w_ireturn (pc := 33) dX1_aboutMould_33 ⟨_, rfl, rfl⟩ ⟨rfl, rfl⟩
  by_cases h4 : j = 4
  · subst h4
    refine w_tableIn (pc := 1) (tgt := 34) dX1_aboutMould_1 (by decide +kernel) (by decide +kernel) (off := 33) (by decide +kernel) (by decide) ?_
    refine w_aload_n (pc := 34) (i := 0) dX1_aboutMould_34 rfl rfl ?_
    refine w_iload_n (pc := 35) (i := 1) dX1_aboutMould_35 rfl rfl ?_
    refine w_vI (pc := 36) dX1_aboutMould_36 GX1_106 hw.1 (c_clayOf i hw hB hi) rfl rfl rfl rfl ?_
    exact w_ireturn (pc := 39) dX1_aboutMould_39 ⟨_, rfl, rfl⟩ ⟨rfl, rfl⟩
  by_cases h5 : j = 5
  · subst h5
    refine w_tableIn (pc := 1) (tgt := 40) dX1_aboutMould_1 (by decide +kernel) (by decide +kernel) (off := 39) (by decide +kernel) (by decide) ?_
    refine w_aload_n (pc := 40) (i := 0) dX1_aboutMould_40 rfl rfl ?_
    refine w_iload_n (pc := 41) (i := 1) dX1_aboutMould_41 rfl rfl ?_
    refine w_vI (pc := 42) dX1_aboutMould_42 GX1_100 hw.1 (c_makerAt (nI i) hw hB) rfl rfl rfl rfl ?_
    exact w_ireturn (pc := 45) dX1_aboutMould_45 ⟨_, rfl, rfl⟩ ⟨rfl, rfl⟩
  refine w_tableOut (pc := 1) (tgt := 46) dX1_aboutMould_1 (Or.inl (by rw [nI_toInt (by omega)]; omega)) (by decide) ?_
  refine w_aload_n (pc := 46) (i := 0) dX1_aboutMould_46 rfl rfl ?_
  refine w_get (pc := 47) dX1_aboutMould_47 FX1_14 hw.1 rfl ?_
  refine w_iload_n (pc := 50) (i := 1) dX1_aboutMould_50 rfl rfl ?_
  refine w_iload_n (pc := 51) (i := 2) dX1_aboutMould_51 rfl rfl ?_
  refine w_vI (pc := 52) dX1_aboutMould_52 GX1_96 hw.t0.1 (c_at i j hw.t0 hB.b0 hi (by omega)) rfl rfl rfl rfl ?_
  exact w_ireturn (pc := 55) dX1_aboutMould_55 ⟨_, rfl, rfl⟩ ⟨by unfold kAbout; rw [if_neg h3, if_neg h4, if_neg h5], rfl⟩
set_option maxHeartbeats 4000000 in
theorem c_counted (j : Nat) (hw : Wk b σ h) (hB : WB σ) (hj : j < 12) : Ct (d + 2) mX1_counted 0 0 [.ref b, .int (nI j)] h (RI (kCount σ j) h) := by
  refine Ct.of (by decide +kernel) rfl (Nat.le_of_ble_eq_true rfl) ?_
  show WP (d + 2) mX1_counted none 0 0 0 [.ref b, .int (nI j)] [] h _
  refine w_iload_n (pc := 0) (i := 1) dX1_counted_0 rfl rfl ?_
  match j, hj with
  | 0, _ =>
    refine w_tableIn (pc := 1) (tgt := 60) dX1_counted_1 (by decide +kernel) (by decide +kernel) (off := 59) (by decide +kernel) (by decide) ?_
    refine w_aload_n (pc := 60) (i := 0) dX1_counted_60 rfl rfl ?_
    refine w_get (pc := 61) dX1_counted_61 FX1_62 hw.1 rfl ?_
    exact w_ireturn (pc := 64) dX1_counted_64 ⟨_, rfl, rfl⟩ ⟨rfl, rfl⟩
  | 1, _ =>
    refine w_tableIn (pc := 1) (tgt := 65) dX1_counted_1 (by decide +kernel) (by decide +kernel) (off := 64) (by decide +kernel) (by decide) ?_
    refine w_aload_n (pc := 65) (i := 0) dX1_counted_65 rfl rfl ?_
    refine w_get (pc := 66) dX1_counted_66 FX1_39 hw.1 rfl ?_
    exact w_ireturn (pc := 69) dX1_counted_69 ⟨_, rfl, rfl⟩ ⟨rfl, rfl⟩
  | 2, _ =>
    refine w_tableIn (pc := 1) (tgt := 70) dX1_counted_1 (by decide +kernel) (by decide +kernel) (off := 69) (by decide +kernel) (by decide) ?_
    refine w_aload_n (pc := 70) (i := 0) dX1_counted_70 rfl rfl ?_
    refine w_get (pc := 71) dX1_counted_71 FX1_43 hw.1 rfl ?_
    exact w_ireturn (pc := 74) dX1_counted_74 ⟨_, rfl, rfl⟩ ⟨rfl, rfl⟩
  | 3, _ =>
    refine w_tableIn (pc := 1) (tgt := 75) dX1_counted_1 (by decide +kernel) (by decide +kernel) (off := 74) (by decide +kernel) (by decide) ?_
    refine w_aload_n (pc := 75) (i := 0) dX1_counted_75 rfl rfl ?_
    refine w_get (pc := 76) dX1_counted_76 FX1_46 hw.1 rfl ?_
    exact w_ireturn (pc := 79) dX1_counted_79 ⟨_, rfl, rfl⟩ ⟨rfl, rfl⟩
  | 4, _ =>
    refine w_tableIn (pc := 1) (tgt := 80) dX1_counted_1 (by decide +kernel) (by decide +kernel) (off := 79) (by decide +kernel) (by decide) ?_
    refine w_aload_n (pc := 80) (i := 0) dX1_counted_80 rfl rfl ?_
    refine w_get (pc := 81) dX1_counted_81 FX1_65 hw.1 rfl ?_
    exact w_ireturn (pc := 84) dX1_counted_84 ⟨_, rfl, rfl⟩ ⟨rfl, rfl⟩
  | 5, _ =>
    refine w_tableIn (pc := 1) (tgt := 85) dX1_counted_1 (by decide +kernel) (by decide +kernel) (off := 84) (by decide +kernel) (by decide) ?_
    refine w_aload_n (pc := 85) (i := 0) dX1_counted_85 rfl rfl ?_
    refine w_get (pc := 86) dX1_counted_86 FX1_68 hw.1 rfl ?_
    exact w_ireturn (pc := 89) dX1_counted_89 ⟨_, rfl, rfl⟩ ⟨rfl, rfl⟩
  | 6, _ =>
    refine w_tableIn (pc := 1) (tgt := 90) dX1_counted_1 (by decide +kernel) (by decide +kernel) (off := 89) (by decide +kernel) (by decide) ?_
    refine w_aload_n (pc := 90) (i := 0) dX1_counted_90 rfl rfl ?_
    refine w_get (pc := 91) dX1_counted_91 FX1_23 hw.1 rfl ?_
    refine w_iconst (pc := 94) (v := 1) dX1_counted_94 (by decide) ?_
    refine w_vI (pc := 95) dX1_counted_95 GX1_109 hw.t2.1 (c_sum 1 hw.t2 hB.b2 (by omega)) rfl rfl rfl rfl ?_
    exact w_ireturn (pc := 98) dX1_counted_98 ⟨_, rfl, rfl⟩ ⟨rfl, rfl⟩
  | 7, _ =>
    refine w_tableIn (pc := 1) (tgt := 99) dX1_counted_1 (by decide +kernel) (by decide +kernel) (off := 98) (by decide +kernel) (by decide) ?_
    refine w_aload_n (pc := 99) (i := 0) dX1_counted_99 rfl rfl ?_
    refine w_get (pc := 100) dX1_counted_100 FX1_26 hw.1 rfl ?_
    refine w_iconst (pc := 103) (v := 1) dX1_counted_103 (by decide) ?_
    refine w_vI (pc := 104) dX1_counted_104 GX1_109 hw.t3.1 (c_sum 1 hw.t3 hB.b3 (by omega)) rfl rfl rfl rfl ?_
    exact w_ireturn (pc := 107) dX1_counted_107 ⟨_, rfl, rfl⟩ ⟨rfl, rfl⟩
  | 8, _ =>
    refine w_tableIn (pc := 1) (tgt := 108) dX1_counted_1 (by decide +kernel) (by decide +kernel) (off := 107) (by decide +kernel) (by decide) ?_
    refine w_aload_n (pc := 108) (i := 0) dX1_counted_108 rfl rfl ?_
    refine w_vI (pc := 109) dX1_counted_109 GX1_112 hw.1 (c_wholeInAll hw) rfl rfl rfl rfl ?_
    exact w_ireturn (pc := 112) dX1_counted_112 ⟨_, rfl, rfl⟩ ⟨rfl, rfl⟩
  | 9, _ =>
    refine w_tableIn (pc := 1) (tgt := 113) dX1_counted_1 (by decide +kernel) (by decide +kernel) (off := 112) (by decide +kernel) (by decide) ?_
    refine w_aload_n (pc := 113) (i := 0) dX1_counted_113 rfl rfl ?_
    refine w_get (pc := 114) dX1_counted_114 FX1_29 hw.1 rfl ?_
    refine w_vI (pc := 117) dX1_counted_117 GX1_89 hw.t4.1 (c_size hw.t4) rfl rfl rfl rfl ?_
    exact w_ireturn (pc := 120) dX1_counted_120 ⟨_, rfl, rfl⟩ ⟨rfl, rfl⟩
  | 10, _ =>
    refine w_tableIn (pc := 1) (tgt := 121) dX1_counted_1 (by decide +kernel) (by decide +kernel) (off := 120) (by decide +kernel) (by decide) ?_
    refine w_aload_n (pc := 121) (i := 0) dX1_counted_121 rfl rfl ?_
    refine w_get (pc := 122) dX1_counted_122 FX1_71 hw.1 rfl ?_
    exact w_ireturn (pc := 125) dX1_counted_125 ⟨_, rfl, rfl⟩ ⟨rfl, rfl⟩
  | 11, _ =>
    refine w_tableOut (pc := 1) (tgt := 126) dX1_counted_1 (Or.inr (by decide +kernel)) (by decide) ?_
    refine w_aload_n (pc := 126) (i := 0) dX1_counted_126 rfl rfl ?_
    refine w_get (pc := 127) dX1_counted_127 FX1_74 hw.1 rfl ?_
    exact w_ireturn (pc := 130) dX1_counted_130 ⟨_, rfl, rfl⟩ ⟨rfl, rfl⟩
  | j + 12, hj => omega
set_option maxHeartbeats 4000000 in
theorem c_areSaggarsEmpty (hw : Wk b σ h) (hB : WB σ) : Ct (d + 2) mX1_areSaggarsEmpty 0 0 [.ref b] h (RI (if tSum (σ.1 3) 4 1 (σ.2.1 3) = 0 then 1 else 0) h) := by
  refine Ct.of (by decide +kernel) rfl (Nat.le_of_ble_eq_true rfl) ?_
  show WP (d + 2) mX1_areSaggarsEmpty none 0 0 0 [.ref b] [] h _
  refine w_aload_n (pc := 0) (i := 0) dX1_areSaggarsEmpty_0 rfl rfl ?_
  refine w_get (pc := 1) dX1_areSaggarsEmpty_1 FX1_26 hw.1 rfl ?_
  refine w_iconst (pc := 4) (v := 1) dX1_areSaggarsEmpty_4 (by decide) ?_
  refine w_vI (pc := 5) dX1_areSaggarsEmpty_5 GX1_109 hw.t3.1 (c_sum 1 hw.t3 hB.b3 (by omega)) rfl rfl rfl rfl ?_
  refine w_if_ne (pc := 8) (tgt := 15) dX1_areSaggarsEmpty_8 (by decide) (fun c8 => ?_) (fun c8 => ?_)
  · refine w_iconst (pc := 15) (v := 0) dX1_areSaggarsEmpty_15 (by decide) ?_
    exact w_ireturn (pc := 16) dX1_areSaggarsEmpty_16 ⟨_, rfl, rfl⟩ ⟨by rw [if_neg c8], rfl⟩
  · refine w_iconst (pc := 11) (v := 1) dX1_areSaggarsEmpty_11 (by decide) ?_
    refine w_goto (pc := 12) (tgt := 16) dX1_areSaggarsEmpty_12 (by decide) ?_
    exact w_ireturn (pc := 16) dX1_areSaggarsEmpty_16 ⟨_, rfl, rfl⟩ ⟨by rw [if_pos c8], rfl⟩
set_option maxHeartbeats 4000000 in
theorem c_stemsThatBreak (s : Nat) (y : Int32) (hw : Wk b σ h) (hB : WB σ) (hs : s < 6) : Ct (d + 1) mX1_stemsThatBreak 0 0 [.ref b, .int (nI s), .int y] h (RI (kStems σ s y) h) := by
  refine Ct.of (by decide +kernel) rfl (Nat.le_of_ble_eq_true rfl) ?_
  show WP (d + 1) mX1_stemsThatBreak none 0 0 0 [.ref b, .int (nI s), .int y, vU, vU, vU, vU] [] h _
  refine w_aload_n (pc := 0) (i := 0) dX1_stemsThatBreak_0 rfl rfl ?_
  refine w_get (pc := 1) dX1_stemsThatBreak_1 FX1_26 hw.1 rfl ?_
  refine w_iload_n (pc := 4) (i := 1) dX1_stemsThatBreak_4 rfl rfl ?_
  refine w_iconst (pc := 5) (v := 0) dX1_stemsThatBreak_5 (by decide) ?_
  refine w_vI (pc := 6) dX1_stemsThatBreak_6 GX1_96 hw.t3.1 (c_at s 0 hw.t3 hB.b3 (by rw [hB.2.2.2.1]; exact hs) (by omega)) rfl rfl rfl rfl ?_
  refine w_topi (fun x9 e9 => ?_)
  refine w_istore_n (pc := 9) (i := 3) (ls' := [.ref b, .int (nI s), .int y, .int x9, vU, vU, vU]) dX1_stemsThatBreak_9 rfl (by decide) rfl rfl rfl ?_
  subst e9
  refine w_iconst (pc := 10) (v := 4) dX1_stemsThatBreak_10 (by decide) ?_
  refine w_iload_n (pc := 11) (i := 2) dX1_stemsThatBreak_11 rfl rfl ?_
  refine w_imul (pc := 12) dX1_stemsThatBreak_12 ?_
  refine w_bipush (pc := 13) (v := 20) dX1_stemsThatBreak_13 (by decide) ?_
  refine w_iconst (pc := 15) (v := 2) dX1_stemsThatBreak_15 (by decide) ?_
  refine w_iload_n (pc := 16) (i := 3) dX1_stemsThatBreak_16 rfl rfl ?_
  refine w_imul (pc := 17) dX1_stemsThatBreak_17 ?_
  refine w_iadd (pc := 18) dX1_stemsThatBreak_18 ?_
  refine w_isub (pc := 19) dX1_stemsThatBreak_19 ?_
  refine w_abs (pc := 20) dX1_stemsThatBreak_20 LX1_119 (by omega) rfl (Nat.le_of_ble_eq_true rfl) ?_
  refine w_iconst (pc := 23) (v := 2) dX1_stemsThatBreak_23 (by decide) ?_
  refine w_idiv (pc := 24) dX1_stemsThatBreak_24 (by decide) ?_
  refine w_topi (fun x25 e25 => ?_)
  refine w_istore (pc := 25) (i := 4) (ls' := [.ref b, .int (nI s), .int y, .int (σ.1 3 (s * 4 + 0)), .int x25, vU, vU]) dX1_stemsThatBreak_25 (by decide) rfl rfl rfl ?_
  have e25 : x25 = kOff (σ.1 3 (s * 4 + 0)) y := e25
  subst e25
  have key : ∀ x : Int32, x = (if s = 0 ∨ s = 5 then 5 else 0) → WP (d + 1) mX1_stemsThatBreak none 0 0 41 [.ref b, .int (nI s), .int y, .int (σ.1 3 (s * 4 + 0)), .int (kOff (σ.1 3 (s * 4 + 0)) y), vU, vU] [.int x] h (RI (kStems σ s y) h) := by
    intro x hx
    refine w_topi (fun x41 e41 => ?_)
    refine w_istore (pc := 41) (i := 5) (ls' := [.ref b, .int (nI s), .int y, .int (σ.1 3 (s * 4 + 0)), .int (kOff (σ.1 3 (s * 4 + 0)) y), .int x41, vU]) dX1_stemsThatBreak_41 (by decide) rfl rfl rfl ?_
    have e41 := e41.trans hx
    refine w_bipush (pc := 43) (v := 8) dX1_stemsThatBreak_43 (by decide) ?_
    refine w_aload_n (pc := 45) (i := 0) dX1_stemsThatBreak_45 rfl rfl ?_
    refine w_get (pc := 46) dX1_stemsThatBreak_46 FX1_26 hw.1 rfl ?_
    refine w_iload_n (pc := 49) (i := 1) dX1_stemsThatBreak_49 rfl rfl ?_
    refine w_iconst (pc := 50) (v := 2) dX1_stemsThatBreak_50 (by decide) ?_
    refine w_vI (pc := 51) dX1_stemsThatBreak_51 GX1_96 hw.t3.1 (c_at s 2 hw.t3 hB.b3 (by rw [hB.2.2.2.1]; exact hs) (by omega)) rfl rfl rfl rfl ?_
    refine w_imul (pc := 54) dX1_stemsThatBreak_54 ?_
    refine w_iconst (pc := 55) (v := 2) dX1_stemsThatBreak_55 (by decide) ?_
    refine w_aload_n (pc := 56) (i := 0) dX1_stemsThatBreak_56 rfl rfl ?_
    refine w_get (pc := 57) dX1_stemsThatBreak_57 FX1_26 hw.1 rfl ?_
    refine w_iload_n (pc := 60) (i := 1) dX1_stemsThatBreak_60 rfl rfl ?_
    refine w_iconst (pc := 61) (v := 3) dX1_stemsThatBreak_61 (by decide) ?_
    refine w_vI (pc := 62) dX1_stemsThatBreak_62 GX1_96 hw.t3.1 (c_at s 3 hw.t3 hB.b3 (by rw [hB.2.2.2.1]; exact hs) (by omega)) rfl rfl rfl rfl ?_
    refine w_imul (pc := 65) dX1_stemsThatBreak_65 ?_
    refine w_iadd (pc := 66) dX1_stemsThatBreak_66 ?_
    refine w_iload (pc := 67) (i := 4) dX1_stemsThatBreak_67 rfl ?_
    refine w_iadd (pc := 69) dX1_stemsThatBreak_69 ?_
    refine w_iload (pc := 70) (i := 5) dX1_stemsThatBreak_70 rfl ?_
    refine w_iadd (pc := 72) dX1_stemsThatBreak_72 ?_
    refine w_topi (fun x73 e73 => ?_)
    refine w_istore (pc := 73) (i := 6) (ls' := [.ref b, .int (nI s), .int y, .int (σ.1 3 (s * 4 + 0)), .int (kOff (σ.1 3 (s * 4 + 0)) y), .int x41, .int x73]) dX1_stemsThatBreak_73 (by decide) rfl rfl rfl ?_
    have e73 : x73 = kShare σ s y := by rw [e73, e41]; rfl
    subst e73
    refine w_iload (pc := 75) (i := 6) dX1_stemsThatBreak_75 rfl ?_
    refine w_bipush (pc := 77) (v := 100) dX1_stemsThatBreak_77 (by decide) ?_
    refine w_min (pc := 79) dX1_stemsThatBreak_79 LX1_124 (by omega) rfl (Nat.le_of_ble_eq_true rfl) ?_
    refine w_aload_n (pc := 82) (i := 0) dX1_stemsThatBreak_82 rfl rfl ?_
    refine w_get (pc := 83) dX1_stemsThatBreak_83 FX1_26 hw.1 rfl ?_
    refine w_iload_n (pc := 86) (i := 1) dX1_stemsThatBreak_86 rfl rfl ?_
    refine w_iconst (pc := 87) (v := 1) dX1_stemsThatBreak_87 (by decide) ?_
    refine w_vI (pc := 88) dX1_stemsThatBreak_88 GX1_96 hw.t3.1 (c_at s 1 hw.t3 hB.b3 (by rw [hB.2.2.2.1]; exact hs) (by omega)) rfl rfl rfl rfl ?_
    refine w_imul (pc := 91) dX1_stemsThatBreak_91 ?_
    refine w_bipush (pc := 92) (v := 99) dX1_stemsThatBreak_92 (by decide) ?_
    refine w_iadd (pc := 94) dX1_stemsThatBreak_94 ?_
    refine w_bipush (pc := 95) (v := 100) dX1_stemsThatBreak_95 (by decide) ?_
    refine w_idiv (pc := 97) dX1_stemsThatBreak_97 (by decide) ?_
    exact w_ireturn (pc := 98) dX1_stemsThatBreak_98 ⟨_, rfl, rfl⟩ ⟨rfl, rfl⟩
  refine w_iload_n (pc := 27) (i := 1) dX1_stemsThatBreak_27 rfl rfl ?_
  refine w_if_eq (pc := 28) (tgt := 36) dX1_stemsThatBreak_28 (by decide) (fun c28 => ?_) (fun c28 => ?_)
  · refine w_iconst (pc := 36) (v := 5) dX1_stemsThatBreak_36 (by decide) ?_
    refine w_goto (pc := 37) (tgt := 41) dX1_stemsThatBreak_37 (by decide) ?_
    exact key 5 (by rw [if_pos (Or.inl ((nI_eq (b := 0) (by omega) (by omega)).mp c28))])
  · refine w_iload_n (pc := 31) (i := 1) dX1_stemsThatBreak_31 rfl rfl ?_
    refine w_iconst (pc := 32) (v := 5) dX1_stemsThatBreak_32 (by decide) ?_
    refine w_icmp_ne (pc := 33) (tgt := 40) dX1_stemsThatBreak_33 (by decide) (fun c33 => ?_) (fun c33 => ?_)
    · refine w_iconst (pc := 40) (v := 0) dX1_stemsThatBreak_40 (by decide) ?_
      exact key 0 (by rw [if_neg (fun q => q.elim (fun q1 => c28 (by rw [q1]; rfl)) (fun q1 => c33 (by rw [q1]; rfl)))])
    · refine w_iconst (pc := 36) (v := 5) dX1_stemsThatBreak_36 (by decide) ?_
      refine w_goto (pc := 37) (tgt := 41) dX1_stemsThatBreak_37 (by decide) ?_
      exact key 5 (by rw [if_pos (Or.inr ((nI_eq (b := 5) (by omega) (by omega)).mp c33))])
set_option maxHeartbeats 4000000 in
theorem c_stemsThatBreakInAll_loop (y : Int32) (hw : Wk b σ h) (hB : WB σ) : ∀ (m k : Nat), k + m = 6 → WP (d + 2) mX1_stemsThatBreakInAll none 0 0 4 [.ref b, .int y, .int (kStN σ y k), .int (nI k)] [] h (RI (kStN σ y 6) h) := by
  intro m
  induction m with
  | zero =>
    intro k hk
    have hk : k = 6 := by omega
    subst hk
    refine w_iload_n (pc := 4) (i := 3) dX1_stemsThatBreakInAll_4 rfl rfl ?_
    refine w_bipush (pc := 5) (v := 6) dX1_stemsThatBreakInAll_5 (by decide) ?_
    refine w_icmp_ge (pc := 7) (tgt := 25) dX1_stemsThatBreakInAll_7 (by decide) (fun c7 => ?_) (fun c7 => absurd (by decide +kernel) c7)
    refine w_iload_n (pc := 25) (i := 2) dX1_stemsThatBreakInAll_25 rfl rfl ?_
    exact w_ireturn (pc := 26) dX1_stemsThatBreakInAll_26 ⟨_, rfl, rfl⟩ ⟨rfl, rfl⟩
  | succ m ih =>
    intro k hk
    refine w_iload_n (pc := 4) (i := 3) dX1_stemsThatBreakInAll_4 rfl rfl ?_
    refine w_bipush (pc := 5) (v := 6) dX1_stemsThatBreakInAll_5 (by decide) ?_
    refine w_icmp_ge (pc := 7) (tgt := 25) dX1_stemsThatBreakInAll_7 (by decide) (fun c7 => absurd (show nI 6 ≤ nI k from c7) (nI_ge (by omega) (by omega))) (fun c7 => ?_)
    refine w_iload_n (pc := 10) (i := 2) dX1_stemsThatBreakInAll_10 rfl rfl ?_
    refine w_aload_n (pc := 11) (i := 0) dX1_stemsThatBreakInAll_11 rfl rfl ?_
    refine w_iload_n (pc := 12) (i := 3) dX1_stemsThatBreakInAll_12 rfl rfl ?_
    refine w_iload_n (pc := 13) (i := 1) dX1_stemsThatBreakInAll_13 rfl rfl ?_
    refine w_vI (pc := 14) dX1_stemsThatBreakInAll_14 GX1_127 hw.1 (c_stemsThatBreak k y hw hB (by omega)) rfl rfl rfl rfl ?_
    refine w_iadd (pc := 17) dX1_stemsThatBreakInAll_17 ?_
    refine w_topi (fun x18 e18 => ?_)
    refine w_istore_n (pc := 18) (i := 2) (ls' := [.ref b, .int y, .int x18, .int (nI k)]) dX1_stemsThatBreakInAll_18 rfl (by decide) rfl rfl rfl ?_
    obtain ⟨x19, e19⟩ : ∃ y : Int32, y = (nI k) + 1 := ⟨_, rfl⟩
    refine w_iinc (pc := 19) (i := 3) (y := x19) (ls' := [.ref b, .int y, .int x18, .int x19]) dX1_stemsThatBreakInAll_19 rfl (by rw [e19]; rfl) (by decide) rfl rfl rfl ?_
    refine w_goto (pc := 22) (tgt := 4) dX1_stemsThatBreakInAll_22 (by decide) ?_
    obtain rfl : x18 = kStN σ y (k + 1) := e18
    obtain rfl : x19 = nI (k + 1) := by rw [e19]; exact nI_1 k
    exact ih (k + 1) (by omega)
set_option maxHeartbeats 4000000 in
theorem c_stemsThatBreakInAll (y : Int32) (hw : Wk b σ h) (hB : WB σ) : Ct (d + 2) mX1_stemsThatBreakInAll 0 0 [.ref b, .int y] h (RI (kStN σ y 6) h) := by
  refine Ct.of (by decide +kernel) rfl (Nat.le_of_ble_eq_true rfl) ?_
  show WP (d + 2) mX1_stemsThatBreakInAll none 0 0 0 [.ref b, .int y, vU, vU] [] h _
  refine w_iconst (pc := 0) (v := 0) dX1_stemsThatBreakInAll_0 (by decide) ?_
  refine w_topi (fun x1 e1 => ?_)
  refine w_istore_n (pc := 1) (i := 2) (ls' := [.ref b, .int y, .int x1, vU]) dX1_stemsThatBreakInAll_1 rfl (by decide) rfl rfl rfl ?_
  refine w_iconst (pc := 2) (v := 0) dX1_stemsThatBreakInAll_2 (by decide) ?_
  refine w_topi (fun x3 e3 => ?_)
  refine w_istore_n (pc := 3) (i := 3) (ls' := [.ref b, .int y, .int x1, .int x3]) dX1_stemsThatBreakInAll_3 rfl (by decide) rfl rfl rfl ?_
  subst e1
  subst e3
  exact c_stemsThatBreakInAll_loop y hw hB 6 0 rfl
set_option maxHeartbeats 4000000 in
theorem c_bestCoals_loop (hw : Wk b σ h) (hB : WB σ) : ∀ (m k : Nat) (v4 : Value), k + m = 29 → (v4 = vU ∨ ∃ q, v4 = .int q) → WP (d + 3) mX1_bestCoals none 0 0 10 [.ref b, .int (kBs σ k).1, .int (kBs σ k).2, .int (nI (2 + k)), v4] [] h (RI (kBs σ 29).1 h) := by
  intro m
  induction m with
  | zero =>
    intro k v4 hk hv4
    have hk : k = 29 := by omega
    subst hk
    refine w_iload_n (pc := 10) (i := 3) dX1_bestCoals_10 rfl rfl ?_
    refine w_bipush (pc := 11) (v := 30) dX1_bestCoals_11 (by decide) ?_
    refine w_icmp_gt (pc := 13) (tgt := 40) dX1_bestCoals_13 (by decide) (fun c13 => ?_) (fun c13 => absurd (by decide +kernel) c13)
    refine w_iload_n (pc := 40) (i := 1) dX1_bestCoals_40 rfl rfl ?_
    exact w_ireturn (pc := 41) dX1_bestCoals_41 ⟨_, rfl, rfl⟩ ⟨rfl, rfl⟩
  | succ m ih =>
    intro k v4 hk hv4
    have hsv : v4 = vU ∨ ∃ q, v4 = .int q := hv4
    have hokL : okL [.ref b, .int (kBs σ k).1, .int (kBs σ k).2, .int (nI (2 + k)), v4] = true := by rcases hsv with rfl | ⟨q, rfl⟩ <;> rfl
    refine w_iload_n (pc := 10) (i := 3) dX1_bestCoals_10 rfl rfl ?_
    refine w_bipush (pc := 11) (v := 30) dX1_bestCoals_11 (by decide) ?_
    refine w_icmp_gt (pc := 13) (tgt := 40) dX1_bestCoals_13 (by decide) (fun c13 => absurd (show nI 30 < nI (2 + k) from c13) (nI_nlt (by omega) (by omega))) (fun c13 => ?_)
    refine w_aload_n (pc := 16) (i := 0) dX1_bestCoals_16 rfl rfl ?_
    refine w_iload_n (pc := 17) (i := 3) dX1_bestCoals_17 rfl rfl ?_
    refine w_vI (pc := 18) dX1_bestCoals_18 GX1_130 hw.1 (c_stemsThatBreakInAll (nI (2 + k)) hw hB) rfl rfl rfl rfl ?_
    obtain ⟨x21, e21⟩ : ∃ y : Int32, y = kStN σ (nI (2 + k)) 6 := ⟨_, rfl⟩
    rw [← e21]
    refine w_istore (pc := 21) (i := 4) (ls' := [.ref b, .int (kBs σ k).1, .int (kBs σ k).2, .int (nI (2 + k)), .int x21]) dX1_bestCoals_21 (by decide) rfl hokL rfl ?_
    refine w_iload (pc := 23) (i := 4) dX1_bestCoals_23 rfl ?_
    refine w_iload_n (pc := 25) (i := 2) dX1_bestCoals_25 rfl rfl ?_
    refine w_icmp_ge (pc := 26) (tgt := 34) dX1_bestCoals_26 (by decide) (fun c26 => ?_) (fun c26 => ?_)
    · obtain ⟨x34, e34⟩ : ∃ y : Int32, y = (nI (2 + k)) + 1 := ⟨_, rfl⟩
      refine w_iinc (pc := 34) (i := 3) (y := x34) (ls' := [.ref b, .int (kBs σ k).1, .int (kBs σ k).2, .int x34, .int x21]) dX1_bestCoals_34 rfl (by rw [e34]; rfl) (by decide) rfl rfl rfl ?_
      refine w_goto (pc := 37) (tgt := 10) dX1_bestCoals_37 (by decide) ?_
      obtain rfl : x34 = nI (2 + (k + 1)) := by rw [e34]; exact nI_1 (2 + k)
      have h2 := ih (k + 1) (.int x21) (by omega) (Or.inr ⟨_, rfl⟩)
      rw [show kBs σ (k + 1) = kBs σ k from if_neg (by rw [← e21]; exact Int32.not_lt.mpr c26)] at h2
      exact h2
    · refine w_iload_n (pc := 29) (i := 3) dX1_bestCoals_29 rfl rfl ?_
      refine w_topi (fun x30 e30 => ?_)
      refine w_istore_n (pc := 30) (i := 1) (ls' := [.ref b, .int x30, .int (kBs σ k).2, .int (nI (2 + k)), .int x21]) dX1_bestCoals_30 rfl (by decide) rfl rfl rfl ?_
      refine w_iload (pc := 31) (i := 4) dX1_bestCoals_31 rfl ?_
      refine w_topi (fun x33 e33 => ?_)
      refine w_istore_n (pc := 33) (i := 2) (ls' := [.ref b, .int x30, .int x33, .int (nI (2 + k)), .int x21]) dX1_bestCoals_33 rfl (by decide) rfl rfl rfl ?_
      obtain ⟨x34, e34⟩ : ∃ y : Int32, y = (nI (2 + k)) + 1 := ⟨_, rfl⟩
      refine w_iinc (pc := 34) (i := 3) (y := x34) (ls' := [.ref b, .int x30, .int x33, .int x34, .int x21]) dX1_bestCoals_34 rfl (by rw [e34]; rfl) (by decide) rfl rfl rfl ?_
      refine w_goto (pc := 37) (tgt := 10) dX1_bestCoals_37 (by decide) ?_
      obtain rfl : x34 = nI (2 + (k + 1)) := by rw [e34]; exact nI_1 (2 + k)
      subst e30
      subst e33
      have h2 := ih (k + 1) (.int x33) (by omega) (Or.inr ⟨_, rfl⟩)
      rw [show kBs σ (k + 1) = (nI (2 + k), x33) from by rw [e21]; exact if_pos (by rw [← e21]; exact Int32.not_le.mp c26)] at h2
      exact h2
set_option maxHeartbeats 4000000 in
theorem c_bestCoals (hw : Wk b σ h) (hB : WB σ) : Ct (d + 3) mX1_bestCoals 0 0 [.ref b] h (RI (kBs σ 29).1 h) := by
  refine Ct.of (by decide +kernel) rfl (Nat.le_of_ble_eq_true rfl) ?_
  show WP (d + 3) mX1_bestCoals none 0 0 0 [.ref b, vU, vU, vU, vU] [] h _
  refine w_iconst (pc := 0) (v := 1) dX1_bestCoals_0 (by decide) ?_
  refine w_topi (fun x1 e1 => ?_)
  refine w_istore_n (pc := 1) (i := 1) (ls' := [.ref b, .int x1, vU, vU, vU]) dX1_bestCoals_1 rfl (by decide) rfl rfl rfl ?_
  refine w_aload_n (pc := 2) (i := 0) dX1_bestCoals_2 rfl rfl ?_
  refine w_iconst (pc := 3) (v := 1) dX1_bestCoals_3 (by decide) ?_
  refine w_vI (pc := 4) dX1_bestCoals_4 GX1_130 hw.1 (c_stemsThatBreakInAll 1 hw hB) rfl rfl rfl rfl ?_
  refine w_topi (fun x7 e7 => ?_)
  refine w_istore_n (pc := 7) (i := 2) (ls' := [.ref b, .int x1, .int x7, vU, vU]) dX1_bestCoals_7 rfl (by decide) rfl rfl rfl ?_
  refine w_iconst (pc := 8) (v := 2) dX1_bestCoals_8 (by decide) ?_
  refine w_topi (fun x9 e9 => ?_)
  refine w_istore_n (pc := 9) (i := 3) (ls' := [.ref b, .int x1, .int x7, .int x9, vU]) dX1_bestCoals_9 rfl (by decide) rfl rfl rfl ?_
  subst e1
  subst e7
  subst e9
  exact c_bestCoals_loop hw hB 29 0 vU rfl (Or.inl rfl)
end WORKS
