/-! the reference: the model's calls -/
def mA (μ : MS) (i : Nat) (f : Nat → Int32) : MS := (fun a => if a = i then f else μ.1 a, μ.2)
def mC (μ : MS) (i n : Nat) : MS := (μ.1, fun a => if a = i then n else μ.2 a)
abbrev RS : Type := MS × ST
abbrev RR : Type := Int32 × Int32 × RS
def Rm (ρ : RS) (t : Int32) (h : AH) : Prop := match ρ with
  | (μ, τ) => Md μ t h ∧ St 32 τ h ∧ ∃ α, St 62 α h
section MODL
variable {μ μ' : MS} {τ τ' : ST} {t t' : Int32} {h h1 : AH}
theorem Md.a0 (hs : Md μ t h) (f : Nat → Int32) : Md (mA μ 0 f) t (h.set 28 (.inl (7, .inl f))) := ⟨by rw [gsn (by omega)]; exact hs.1, gss hs.2.1, by rw [gsn (by omega)]; exact hs.2.2.1, by rw [gsn (by omega)]; exact hs.2.2.2.1, by rw [gsn (by omega)]; exact hs.2.2.2.2⟩
theorem Md.a1 (hs : Md μ t h) (f : Nat → Int32) : Md (mA μ 1 f) t (h.set 29 (.inl (6, .inl f))) := ⟨by rw [gsn (by omega)]; exact hs.1, by rw [gsn (by omega)]; exact hs.2.1, gss hs.2.2.1, by rw [gsn (by omega)]; exact hs.2.2.2.1, by rw [gsn (by omega)]; exact hs.2.2.2.2⟩
theorem Md.a2 (hs : Md μ t h) (f : Nat → Int32) : Md (mA μ 2 f) t (h.set 30 (.inl (5, .inl f))) := ⟨by rw [gsn (by omega)]; exact hs.1, by rw [gsn (by omega)]; exact hs.2.1, by rw [gsn (by omega)]; exact hs.2.2.1, gss hs.2.2.2.1, by rw [gsn (by omega)]; exact hs.2.2.2.2⟩
theorem Md.a3 (hs : Md μ t h) (f : Nat → Int32) : Md (mA μ 3 f) t (h.set 31 (.inl (5, .inl f))) := ⟨by rw [gsn (by omega)]; exact hs.1, by rw [gsn (by omega)]; exact hs.2.1, by rw [gsn (by omega)]; exact hs.2.2.1, by rw [gsn (by omega)]; exact hs.2.2.2.1, gss hs.2.2.2.2⟩
theorem Md.c0 (hs : Md μ t h) (n : Nat) : Md (mC μ 0 n) t (h.set 27 (.inr (4, (mdF μ t).set 2 (.int (nI n))))) := ⟨gss hs.1, by rw [gsn (by omega)]; exact hs.2.1, by rw [gsn (by omega)]; exact hs.2.2.1, by rw [gsn (by omega)]; exact hs.2.2.2.1, by rw [gsn (by omega)]; exact hs.2.2.2.2⟩
theorem Md.c1 (hs : Md μ t h) (n : Nat) : Md (mC μ 1 n) t (h.set 27 (.inr (4, (mdF μ t).set 4 (.int (nI n))))) := ⟨gss hs.1, by rw [gsn (by omega)]; exact hs.2.1, by rw [gsn (by omega)]; exact hs.2.2.1, by rw [gsn (by omega)]; exact hs.2.2.2.1, by rw [gsn (by omega)]; exact hs.2.2.2.2⟩
theorem Rm.md (hp : Rm (μ, τ) t h) (hm : Md μ' t' h1) (ho : GOut 27 5 h h1) : Rm (μ', τ) t' h1 := by
  obtain ⟨p1, p2, α, p3⟩ := hp
  exact ⟨hm, p2.out ho (by omega), α, p3.out ho (by omega)⟩
theorem Rm.st (hp : Rm (μ, τ) t h) (hm : St 32 τ' h1) (ho : GOut 32 30 h h1) : Rm (μ, τ') t h1 := by
  obtain ⟨p1, p2, α, p3⟩ := hp
  exact ⟨p1.out ho (by omega), hm, α, p3.out ho (by omega)⟩
theorem Rm.al {α : ST} (hp : Rm (μ, τ) t h) (hm : St 62 α h1) (ho : GOut 62 30 h h1) : Rm (μ, τ) t h1 := by
  obtain ⟨p1, p2, -⟩ := hp
  exact ⟨p1.out ho (by omega), p2.out ho (by omega), α, hm⟩
theorem Rm.nil {ρ : RS} (hp : Rm ρ t h) (ho : GOut 0 0 h h1) : Rm ρ t h1 := by
  obtain ⟨μ, τ⟩ := ρ
  obtain ⟨p1, p2, α, p3⟩ := hp
  exact ⟨p1.nil ho, p2.nil ho, α, p3.nil ho⟩
end MODL
abbrev RRet (r : RR) (h : AH) : AO → AH → Prop := NT (fun v h1 => v = some (.int r.2.1) ∧ Rm r.2.2 r.1 h1 ∧ GOut 27 65 h h1)
theorem RRet.of {r : RR} {t v : Int32} {ρ : RS} {h h1 : AH} (e : r = (t, v, ρ)) (hp : Rm ρ t h1) (ho : GOut 27 65 h h1) : RRet r h (.inl (some (.int v))) h1 := by subst e; exact ⟨_, rfl, rfl, hp, ho⟩
theorem inB_hR {n : Nat} {x : Int32} (hn : n < 2 ^ 31) : inB x 0 (nI n - 1) = hR n x := by
  have key : (0 ≤ x ∧ x ≤ nI n - 1) ↔ ¬ (x < 0 ∨ nI n ≤ x) := by
    have e : (nI n - 1).toInt = (n : Int) - 1 := by
      cases n with
      | zero => rfl
      | succ m => rw [show nI (m + 1) - 1 = nI (m + 1 - 1) from pk_sub (a := m + 1) (b := 1) (by omega), nI_toInt (by omega)]; omega
    rw [Int32.le_iff_toInt_le, Int32.le_iff_toInt_le, Int32.le_iff_toInt_le, Int32.lt_iff_toInt_lt, e, nI_toInt hn, show (0 : Int32).toInt = 0 from rfl]
    omega
  unfold inB hR
  by_cases q : x < 0 ∨ nI n ≤ x
  · rw [if_pos q, if_neg (fun c => key.mp c q)]
  · rw [if_neg q, if_pos (key.mpr q)]
theorem hR_nar {n : Nat} {x : Int32} : narrow .boolean (.int (hR n x)) = .int (hR n x) := by unfold hR; split <;> rfl
def rMk (f : Nat → Int32) (x : Int32) : Nat → Nat → Int32
  | 0, _ => -1
  | m + 1, k => if f k = x then nI k else rMk f x m (k + 1)
def rMaker (μ : MS) (x : Int32) : Int32 := rMk (μ.1 3) x (μ.2 1) 0
def rTold (ρ : RS) (m j : Nat) : Int32 := match j with
  | 0 => ρ.1.1 1 m
  | 1 => ρ.2.1 0 m
  | 2 => ρ.2.1 1 m
  | 3 => rFlaw ρ.2 m
  | 4 => rClay ρ.1 m
  | _ => rMaker ρ.1 (nI m)
def rMTold (μ : MS) (k : Nat) (y : Int32) : Int32 := if y = 0 then μ.1 2 k else μ.1 3 k
def RB (ρ : RS) : Prop := ρ.1.2 0 ≤ 6 ∧ ρ.1.2 1 ≤ 5 ∧ TB ρ.2
def bMould (ρ : RS) (x y : Int32) : RR := if inB x 4 24 = 0 then (1, 0, ρ) else if inB y 0 9 = 0 then (1, 0, ρ) else if nI (ρ.1.2 0) = 6 then (2, 0, ρ) else (0, nI (ρ.1.2 0), (mC (mA ρ.1 1 (upd (ρ.1.1 1) (ρ.1.2 0) x)) 0 (ρ.1.2 0 + 1), tA ρ.2 0 (upd (ρ.2.1 0) (ρ.1.2 0) y)))
def bRefit (ρ : RS) (x : Int32) : RR := if hR (ρ.1.2 0) x = 0 then (1, 0, ρ) else if ρ.2.1 0 x.toNatClampNeg = 9 then (2, 0, ρ) else if ρ.2.2.2.2.2 3 < 2 then (2, 0, ρ) else (0, ρ.2.1 0 x.toNatClampNeg, (ρ.1, tS (tA ρ.2 0 (upd (ρ.2.1 0) x.toNatClampNeg 9)) 3 (ρ.2.2.2.2.2 3 - 2)))
def bMaker (ρ : RS) (x : Int32) : RR := if inB x 1 9 = 0 then (1, 0, ρ) else if nI (ρ.1.2 1) = 5 then (2, 0, ρ) else (0, nI (ρ.1.2 1), (mC (mA (mA ρ.1 2 (upd (ρ.1.1 2) (ρ.1.2 1) x)) 3 (upd (ρ.1.1 3) (ρ.1.2 1) (-1))) 1 (ρ.1.2 1 + 1), ρ.2))
def bPlace (ρ : RS) (x y : Int32) : RR := if hR (ρ.1.2 1) x = 0 then (1, 0, ρ) else if ¬ y = -1 ∧ hR (ρ.1.2 0) y = 0 then (1, 0, ρ) else if ¬ y = -1 ∧ ¬ rMaker ρ.1 y = -1 ∧ ¬ rMaker ρ.1 y = x then (2, 0, ρ) else (0, ρ.1.1 3 x.toNatClampNeg, (mA ρ.1 3 (upd (ρ.1.1 3) x.toNatClampNeg y), ρ.2))
def bBuy2 (ρ : RS) (x y : Int32) : ST := tS (tS (tS ρ.2 3 (ρ.2.2.2.2.2 3 - kPrice x y)) 1 (ρ.2.2.2.2.2 1 + (if x = 0 then y else 0))) 2 (ρ.2.2.2.2.2 2 + (if x = 1 then y else 0))
def bBuy (ρ : RS) (x y : Int32) : RR := if inB x 0 1 = 0 then (1, 0, ρ) else if inB y 1 200 = 0 then (2, 0, ρ) else if ρ.2.2.2.2.2 3 < kPrice x y then (3, 0, ρ) else (0, (if x = 0 then ρ.2.2.2.2.2 1 + (if x = 0 then y else 0) else ρ.2.2.2.2.2 2 + (if x = 1 then y else 0)), (ρ.1, bBuy2 ρ x y))
def bSetDry (ρ : RS) (x y : Int32) : RR := if inB x 0 6 = 0 then (1, 0, ρ) else if inB y 0 3 = 0 then (2, 0, ρ) else (0, ρ.1.1 0 x.toNatClampNeg, (mA ρ.1 0 (upd (ρ.1.1 0) x.toNatClampNeg y), ρ.2))
def bPack2 (τ : ST) (i s : Nat) (u : Int32) : ST := tW (tW τ (10 + s) (pF (τ.2.1 (10 + s)) (τ.2.1 i 0) u (τ.2.1 i 2) (τ.2.1 i 3))) i (upd (τ.2.1 i) 1 (τ.2.1 i 1 - u))
def bPack (ρ : RS) (x y u : Int32) : RR := if hR (ρ.2.2.2.2.1 0) x = 0 then (1, 0, ρ) else if inB y 0 5 = 0 then (1, 0, ρ) else if inB u 1 24 = 0 then (2, 0, ρ) else if 0 < ρ.2.2.1 (10 + y.toNatClampNeg) 1 then (3, 0, ρ) else if ρ.2.2.1 x.toNatClampNeg 1 < u then (3, 0, ρ) else (0, ρ.2.2.1 x.toNatClampNeg 1 - u, (ρ.1, if ρ.2.2.1 x.toNatClampNeg 1 - u = 0 then rTake (bPack2 ρ.2 x.toNatClampNeg y.toNatClampNeg u) x.toNatClampNeg else bPack2 ρ.2 x.toNatClampNeg y.toNatClampNeg u))
def rFr (τ : ST) (y : Int32) : Nat → Int32 × ST
  | 0 => (0, τ)
  | k + 1 => ((rFr τ y k).1 + ((rFr τ y k).2.2.1 (10 + k) 1 - rBreaks (rFr τ y k).2 k y), tW (tA (tS (rFr τ y k).2 5 ((rFr τ y k).2.2.2.2.2 5 + rBreaks (rFr τ y k).2 k y)) 2 (upd ((rFr τ y k).2.1 2) ((rFr τ y k).2.2.1 (10 + k) 0).toNatClampNeg ((rFr τ y k).2.1 2 ((rFr τ y k).2.2.1 (10 + k) 0).toNatClampNeg + ((rFr τ y k).2.2.1 (10 + k) 1 - rBreaks (rFr τ y k).2 k y)))) (10 + k) (pF ((rFr τ y k).2.2.1 (10 + k)) 0 0 0 0))
def bFire (ρ : RS) (x : Int32) : RR := if inB x 1 30 = 0 then (1, 0, ρ) else if ρ.2.2.2.2.2 2 < x then (2, 0, ρ) else if rPipes ρ.2 10 6 = 0 then (2, 0, ρ) else (0, (rFr (tS ρ.2 2 (ρ.2.2.2.2.2 2 - x)) x 6).1, (ρ.1, (rFr (tS ρ.2 2 (ρ.2.2.2.2.2 2 - x)) x 6).2))
def rOwn (x y u o : Int32) : Nat → Int32 := upd (upd (upd (upd (upd (fun _ => 0) 0 x) 1 y) 2 u) 3 o) 4 0
def bOrder (ρ : RS) (x y u o : Int32) : RR := if inB x 4 24 = 0 then (1, 0, ρ) else if inB y 1 99 = 0 then (1, 0, ρ) else if inB u 0 30 = 0 then (1, 0, ρ) else if inB o 1 99 = 0 then (1, 0, ρ) else if nI (ρ.2.2.2.2.1 1) = 8 then (2, 0, ρ) else (0, nI (ρ.2.2.2.2.1 1 + 1), (ρ.1, tC (tO ρ.2 (ρ.2.2.2.2.1 1) (va_cpy (rOwn x y u o) (ρ.2.2.2.1 (ρ.2.2.2.2.1 1)) 0 0 5)) 1 (ρ.2.2.2.2.1 1 + 1)))
def bAbout (ρ : RS) (x y : Int32) : RR := if hR (ρ.1.2 0) x = 0 then (1, 0, ρ) else if inB y 0 5 = 0 then (1, 0, ρ) else (0, rTold ρ x.toNatClampNeg y.toNatClampNeg, ρ)
def bTold (ρ : RS) (x y : Int32) : RR := if hR (ρ.1.2 1) x = 0 then (1, 0, ρ) else if inB y 0 1 = 0 then (1, 0, ρ) else (0, rMTold ρ.1 x.toNatClampNeg y, ρ)
def bBatch (ρ : RS) (x y : Int32) : RR := if hR (ρ.2.2.2.2.1 0) x = 0 then (1, 0, ρ) else if inB y 0 3 = 0 then (1, 0, ρ) else (0, ρ.2.2.1 x.toNatClampNeg y.toNatClampNeg, ρ)
def bSaggar (ρ : RS) (x y : Int32) : RR := if inB x 0 5 = 0 then (1, 0, ρ) else if inB y 0 3 = 0 then (1, 0, ρ) else (0, ρ.2.2.1 (10 + x.toNatClampNeg) y.toNatClampNeg, ρ)
def bStore (ρ : RS) (x : Int32) : RR := if inB x 4 24 = 0 then (1, 0, ρ) else (0, ρ.2.1 2 x.toNatClampNeg, ρ)
def bWaits (ρ : RS) (x y : Int32) : RR := if hR (ρ.2.2.2.2.1 1) x = 0 then (1, 0, ρ) else if inB y 0 3 = 0 then (1, 0, ρ) else (0, ρ.2.2.2.1 x.toNatClampNeg y.toNatClampNeg, ρ)
def bCount (ρ : RS) (x : Int32) : RR := if inB x 0 11 = 0 then (1, 0, ρ) else (0, rCount ρ.2 x.toNatClampNeg, ρ)
def bPass (ρ : RS) (x : Int32) : RR := if inB x 1 40 = 0 then (1, 0, ρ) else (0, (rPassN ρ.1 ρ.2 x.toNatClampNeg).2.2.2.2 4 - ρ.2.2.2.2.2 4, (ρ.1, rPassN ρ.1 ρ.2 x.toNatClampNeg))
def bBreaks (ρ : RS) (x y : Int32) : RR := if inB x 0 5 = 0 then (1, 0, ρ) else if inB y 1 30 = 0 then (2, 0, ρ) else (0, rBreaks ρ.2 x.toNatClampNeg y, ρ)
section MODEL
variable {d : Nat} {μ : MS} {τ : ST} {t : Int32} {h : AH}
set_option maxHeartbeats 1000000 in
theorem c_no (x : Int32) (hp : Rm (μ, τ) t h) : Ct d mX4_no 0 0 [.ref 27, .int x] h (NT (fun v h1 => v = some (.int 0) ∧ Rm (μ, τ) x h1 ∧ GOut 27 65 h h1)) := by
  refine Ct.of (by decide +kernel) rfl (Nat.le_of_ble_eq_true rfl) ?_
  show WP d mX4_no none 0 0 0 [.ref 27, .int x] [] h _
  have ho : GOut 27 65 h h := GOut.rf
  refine w_aload_n (pc := 0) (i := 0) dX4_no_0 rfl rfl ?_
  refine w_iload_n (pc := 1) (i := 1) dX4_no_1 rfl rfl ?_
  refine w_put (pc := 2) dX4_no_2 UX4_34 hp.1.1 (Nat.le_of_ble_eq_true rfl) nv_i (fun _ q => by cases q) ?_
  have hp2 : Rm (μ, τ) x (h.set 27 (.inr (4, (mdF μ t).set 0 (.int x)))) := by exact hp.md (hp.1.s0 _) (GOut.rf.set (by omega) (by omega))
  have ho2 : GOut 27 65 h (h.set 27 (.inr (4, (mdF μ t).set 0 (.int x)))) := ho.set (by omega) (by omega)
  show WP _ _ _ _ _ _ _ _ (h.set 27 (.inr (4, (mdF μ t).set 0 (.int x)))) _
  generalize hh2 : (h.set 27 (.inr (4, (mdF μ t).set 0 (.int x)))) = h2 at hp2 ho2 ⊢
  clear hh2
  refine w_iconst (pc := 5) (v := 0) dX4_no_5 (by decide) ?_
  exact w_ireturn (pc := 6) dX4_no_6 ⟨_, rfl, rfl⟩ ⟨_, rfl, rfl, hp2, ho2⟩
set_option maxHeartbeats 1000000 in
theorem c_thrown (hp : Rm (μ, τ) t h) : Ct d mX4_thrown 0 0 [.ref 27] h (RI t h) := by
  refine Ct.of (by decide +kernel) rfl (Nat.le_of_ble_eq_true rfl) ?_
  show WP d mX4_thrown none 0 0 0 [.ref 27] [] h _
  have ho : GOut 27 65 h h := GOut.rf
  refine w_aload_n (pc := 0) (i := 0) dX4_thrown_0 rfl rfl ?_
  refine w_get (pc := 1) dX4_thrown_1 FX4_34 hp.1.1 rfl ?_
  exact w_ireturn (pc := 4) dX4_thrown_4 ⟨_, rfl, rfl⟩ ⟨rfl, rfl⟩
set_option maxHeartbeats 1000000 in
theorem c_isIn (x lo hi : Int32) (h : AH) : Ct d mX4_isIn 0 0 [.int x, .int lo, .int hi] h (RI (inB x lo hi) h) := by
  refine Ct.of (by decide +kernel) rfl (Nat.le_of_ble_eq_true rfl) ?_
  show WP d mX4_isIn none 0 0 0 [.int x, .int lo, .int hi] [] h _
  refine w_iload_n (pc := 0) (i := 0) dX4_isIn_0 rfl rfl ?_
  refine w_iload_n (pc := 1) (i := 1) dX4_isIn_1 rfl rfl ?_
  refine w_icmp_lt (pc := 2) (tgt := 14) dX4_isIn_2 (by decide) (fun c2 => ?_) (fun c2 => ?_)
  · refine w_iconst (pc := 14) (v := 0) dX4_isIn_14 (by decide) ?_
    exact w_ireturn (pc := 15) dX4_isIn_15 ⟨_, rfl, rfl⟩ ⟨by unfold inB; rw [if_neg (fun q => Int32.lt_irrefl (Int32.lt_of_le_of_lt q.1 c2))], rfl⟩
  · refine w_iload_n (pc := 5) (i := 0) dX4_isIn_5 rfl rfl ?_
    refine w_iload_n (pc := 6) (i := 2) dX4_isIn_6 rfl rfl ?_
    refine w_icmp_gt (pc := 7) (tgt := 14) dX4_isIn_7 (by decide) (fun c7 => ?_) (fun c7 => ?_)
    · refine w_iconst (pc := 14) (v := 0) dX4_isIn_14 (by decide) ?_
      exact w_ireturn (pc := 15) dX4_isIn_15 ⟨_, rfl, rfl⟩ ⟨by unfold inB; rw [if_neg (fun q => Int32.lt_irrefl (Int32.lt_of_le_of_lt q.2 c7))], rfl⟩
    · refine w_iconst (pc := 10) (v := 1) dX4_isIn_10 (by decide) ?_
      refine w_goto (pc := 11) (tgt := 15) dX4_isIn_11 (by decide) ?_
      exact w_ireturn (pc := 15) dX4_isIn_15 ⟨_, rfl, rfl⟩ ⟨by unfold inB; rw [if_pos ⟨Int32.not_lt.mp c2, Int32.not_lt.mp c7⟩], rfl⟩
set_option maxHeartbeats 1000000 in
theorem c_risLength (x : Int32) (h : AH) : Ct (d + 1) mX4_isLength 0 0 [.int x] h (RI (inB x 4 24) h) := by
  refine Ct.of (by decide +kernel) rfl (Nat.le_of_ble_eq_true rfl) ?_
  show WP (d + 1) mX4_isLength none 0 0 0 [.int x] [] h _
  refine w_iload_n (pc := 0) (i := 0) dX4_isLength_0 rfl rfl ?_
  refine w_iconst (pc := 1) (v := 4) dX4_isLength_1 (by decide) ?_
  refine w_bipush (pc := 2) (v := 24) dX4_isLength_2 (by decide) ?_
  refine w_sI (pc := 4) dX4_isLength_4 GX4_38 (c_isIn x 4 24 h) rfl rfl rfl rfl ?_
  exact w_ireturn (pc := 7) dX4_isLength_7 ⟨_, rfl, inB_nar⟩ ⟨rfl, rfl⟩
set_option maxHeartbeats 1000000 in
theorem c_isSaggar (x : Int32) (h : AH) : Ct (d + 1) mX4_isSaggar 0 0 [.int x] h (RI (inB x 0 5) h) := by
  refine Ct.of (by decide +kernel) rfl (Nat.le_of_ble_eq_true rfl) ?_
  show WP (d + 1) mX4_isSaggar none 0 0 0 [.int x] [] h _
  refine w_iload_n (pc := 0) (i := 0) dX4_isSaggar_0 rfl rfl ?_
  refine w_iconst (pc := 1) (v := 0) dX4_isSaggar_1 (by decide) ?_
  refine w_iconst (pc := 2) (v := 5) dX4_isSaggar_2 (by decide) ?_
  refine w_sI (pc := 3) dX4_isSaggar_3 GX4_38 (c_isIn x 0 5 h) rfl rfl rfl rfl ?_
  exact w_ireturn (pc := 6) dX4_isSaggar_6 ⟨_, rfl, inB_nar⟩ ⟨rfl, rfl⟩
set_option maxHeartbeats 1000000 in
theorem c_isMould (x : Int32) (hp : Rm (μ, τ) t h) (hn : μ.2 0 ≤ 100 := by omega) : Ct (d + 1) mX4_isMould 0 0 [.ref 27, .int x] h (RI (hR (μ.2 0) x) h) := by
  refine Ct.of (by decide +kernel) rfl (Nat.le_of_ble_eq_true rfl) ?_
  show WP (d + 1) mX4_isMould none 0 0 0 [.ref 27, .int x] [] h _
  have ho : GOut 27 65 h h := GOut.rf
  refine w_iload_n (pc := 0) (i := 1) dX4_isMould_0 rfl rfl ?_
  refine w_iconst (pc := 1) (v := 0) dX4_isMould_1 (by decide) ?_
  refine w_aload_n (pc := 2) (i := 0) dX4_isMould_2 rfl rfl ?_
  refine w_get (pc := 3) dX4_isMould_3 FX4_42 hp.1.1 rfl ?_
  refine w_iconst (pc := 6) (v := 1) dX4_isMould_6 (by decide) ?_
  refine w_isub (pc := 7) dX4_isMould_7 ?_
  refine w_sI (pc := 8) dX4_isMould_8 GX4_38 (c_isIn x 0 (nI (μ.2 0) - 1) h) rfl rfl rfl rfl ?_
  rw [inB_hR (by omega)]
  exact w_ireturn (pc := 11) dX4_isMould_11 ⟨_, rfl, hR_nar⟩ ⟨rfl, rfl⟩
set_option maxHeartbeats 1000000 in
theorem c_isMaker (x : Int32) (hp : Rm (μ, τ) t h) (hn : μ.2 1 ≤ 100 := by omega) : Ct (d + 1) mX4_isMaker 0 0 [.ref 27, .int x] h (RI (hR (μ.2 1) x) h) := by
  refine Ct.of (by decide +kernel) rfl (Nat.le_of_ble_eq_true rfl) ?_
  show WP (d + 1) mX4_isMaker none 0 0 0 [.ref 27, .int x] [] h _
  have ho : GOut 27 65 h h := GOut.rf
  refine w_iload_n (pc := 0) (i := 1) dX4_isMaker_0 rfl rfl ?_
  refine w_iconst (pc := 1) (v := 0) dX4_isMaker_1 (by decide) ?_
  refine w_aload_n (pc := 2) (i := 0) dX4_isMaker_2 rfl rfl ?_
  refine w_get (pc := 3) dX4_isMaker_3 FX4_45 hp.1.1 rfl ?_
  refine w_iconst (pc := 6) (v := 1) dX4_isMaker_6 (by decide) ?_
  refine w_isub (pc := 7) dX4_isMaker_7 ?_
  refine w_sI (pc := 8) dX4_isMaker_8 GX4_38 (c_isIn x 0 (nI (μ.2 1) - 1) h) rfl rfl rfl rfl ?_
  rw [inB_hR (by omega)]
  exact w_ireturn (pc := 11) dX4_isMaker_11 ⟨_, rfl, hR_nar⟩ ⟨rfl, rfl⟩
set_option maxHeartbeats 1000000 in
theorem c_isBatch (x : Int32) (hp : Rm (μ, τ) t h) (hn : τ.2.2.2.1 0 ≤ 100 := by omega) : Ct (d + 1) mX4_isBatch 0 0 [.ref 27, .int x] h (RI (hR (τ.2.2.2.1 0) x) h) := by
  refine Ct.of (by decide +kernel) rfl (Nat.le_of_ble_eq_true rfl) ?_
  show WP (d + 1) mX4_isBatch none 0 0 0 [.ref 27, .int x] [] h _
  have ho : GOut 27 65 h h := GOut.rf
  refine w_iload_n (pc := 0) (i := 1) dX4_isBatch_0 rfl rfl ?_
  refine w_iconst (pc := 1) (v := 0) dX4_isBatch_1 (by decide) ?_
  refine w_aload_n (pc := 2) (i := 0) dX4_isBatch_2 rfl rfl ?_
  refine w_get (pc := 3) dX4_isBatch_3 FX4_27 hp.1.1 rfl ?_
  refine w_get (pc := 6) dX4_isBatch_6 FX4_48 hp.2.1.1 rfl ?_
  refine w_iconst (pc := 9) (v := 1) dX4_isBatch_9 (by decide) ?_
  refine w_isub (pc := 10) dX4_isBatch_10 ?_
  refine w_sI (pc := 11) dX4_isBatch_11 GX4_38 (c_isIn x 0 (nI (τ.2.2.2.1 0) - 1) h) rfl rfl rfl rfl ?_
  rw [inB_hR (by omega)]
  exact w_ireturn (pc := 14) dX4_isBatch_14 ⟨_, rfl, hR_nar⟩ ⟨rfl, rfl⟩
set_option maxHeartbeats 1000000 in
theorem c_isWaiting (x : Int32) (hp : Rm (μ, τ) t h) (hn : τ.2.2.2.1 1 ≤ 100 := by omega) : Ct (d + 1) mX4_isWaiting 0 0 [.ref 27, .int x] h (RI (hR (τ.2.2.2.1 1) x) h) := by
  refine Ct.of (by decide +kernel) rfl (Nat.le_of_ble_eq_true rfl) ?_
  show WP (d + 1) mX4_isWaiting none 0 0 0 [.ref 27, .int x] [] h _
  have ho : GOut 27 65 h h := GOut.rf
  refine w_iload_n (pc := 0) (i := 1) dX4_isWaiting_0 rfl rfl ?_
  refine w_iconst (pc := 1) (v := 0) dX4_isWaiting_1 (by decide) ?_
  refine w_aload_n (pc := 2) (i := 0) dX4_isWaiting_2 rfl rfl ?_
  refine w_get (pc := 3) dX4_isWaiting_3 FX4_27 hp.1.1 rfl ?_
  refine w_get (pc := 6) dX4_isWaiting_6 FX4_116 hp.2.1.1 rfl ?_
  refine w_iconst (pc := 9) (v := 1) dX4_isWaiting_9 (by decide) ?_
  refine w_isub (pc := 10) dX4_isWaiting_10 ?_
  refine w_sI (pc := 11) dX4_isWaiting_11 GX4_38 (c_isIn x 0 (nI (τ.2.2.2.1 1) - 1) h) rfl rfl rfl rfl ?_
  rw [inB_hR (by omega)]
  exact w_ireturn (pc := 14) dX4_isWaiting_14 ⟨_, rfl, hR_nar⟩ ⟨rfl, rfl⟩
set_option maxHeartbeats 1000000 in
theorem c_rmakerAt_loop {x : Int32} (hp : Rm (μ, τ) t h) (h5 : μ.2 1 ≤ 5) : ∀ (m k : Nat), k + m = μ.2 1 → WP d mX4_makerAt none 0 0 2 [.ref 27, .int x, .int (nI k)] [] h (RI (rMk (μ.1 3) x m k) h) := by
  intro m
  induction m with
  | zero =>
    intro k hk
    refine w_iload_n (pc := 2) (i := 2) dX4_makerAt_2 rfl rfl ?_
    refine w_aload_n (pc := 3) (i := 0) dX4_makerAt_3 rfl rfl ?_
    refine w_get (pc := 4) dX4_makerAt_4 FX4_45 hp.1.1 rfl ?_
    refine w_icmp_ge (pc := 7) (tgt := 28) dX4_makerAt_7 (by decide) (fun c7 => ?_) (fun c7 => absurd (nI_le (by omega) (by omega)) c7)
    refine w_iconst (pc := 28) (v := -1) dX4_makerAt_28 (by decide) ?_
    exact w_ireturn (pc := 29) dX4_makerAt_29 ⟨_, rfl, rfl⟩ ⟨rfl, rfl⟩
  | succ m ih =>
    intro k hk
    refine w_iload_n (pc := 2) (i := 2) dX4_makerAt_2 rfl rfl ?_
    refine w_aload_n (pc := 3) (i := 0) dX4_makerAt_3 rfl rfl ?_
    refine w_get (pc := 4) dX4_makerAt_4 FX4_45 hp.1.1 rfl ?_
    refine w_icmp_ge (pc := 7) (tgt := 28) dX4_makerAt_7 (by decide) (fun c7 => absurd c7 (nI_ge (by omega) (by omega))) (fun c7 => ?_)
    refine w_aload_n (pc := 10) (i := 0) dX4_makerAt_10 rfl rfl ?_
    refine w_get (pc := 11) dX4_makerAt_11 FX4_19 hp.1.1 rfl ?_
    refine w_iload_n (pc := 14) (i := 2) dX4_makerAt_14 rfl rfl ?_
    refine w_iald (pc := 15) dX4_makerAt_15 hp.1.2.2.2.2 (vp_in_nI (by omega) (by omega)) ?_
    rw [nI_clamp (by omega)]
    refine w_iload_n (pc := 16) (i := 1) dX4_makerAt_16 rfl rfl ?_
    refine w_icmp_ne (pc := 17) (tgt := 22) dX4_makerAt_17 (by decide) (fun c17 => ?_) (fun c17 => ?_)
    · obtain ⟨x22, e22⟩ : ∃ y : Int32, y = (nI k) + 1 := ⟨_, rfl⟩
      refine w_iinc (pc := 22) (i := 2) (y := x22) (ls' := [.ref 27, .int x, .int x22]) dX4_makerAt_22 rfl (by rw [e22]; rfl) (by decide) rfl rfl rfl ?_
      refine w_goto (pc := 25) (tgt := 2) dX4_makerAt_25 (by decide) ?_
      obtain rfl : x22 = nI (k + 1) := by rw [e22]; exact nI_1 k
      rw [show rMk (μ.1 3) x (m + 1) k = rMk (μ.1 3) x m (k + 1) from if_neg c17]
      exact ih (k + 1) (by omega)
    · refine w_iload_n (pc := 20) (i := 2) dX4_makerAt_20 rfl rfl ?_
      exact w_ireturn (pc := 21) dX4_makerAt_21 ⟨_, rfl, rfl⟩ ⟨by rw [show rMk (μ.1 3) x (m + 1) k = nI k from if_pos c17], rfl⟩
set_option maxHeartbeats 1000000 in
theorem c_rmakerAt (x : Int32) (hp : Rm (μ, τ) t h) (h5 : μ.2 1 ≤ 5) : Ct d mX4_makerAt 0 0 [.ref 27, .int x] h (RI (rMaker μ x) h) := by
  refine Ct.of (by decide +kernel) rfl (Nat.le_of_ble_eq_true rfl) ?_
  show WP d mX4_makerAt none 0 0 0 [.ref 27, .int x, vU] [] h _
  have ho : GOut 27 65 h h := GOut.rf
  refine w_iconst (pc := 0) (v := 0) dX4_makerAt_0 (by decide) ?_
  refine w_topi (fun x1 e1 => ?_)
  refine w_istore_n (pc := 1) (i := 2) (ls' := [.ref 27, .int x, .int x1]) dX4_makerAt_1 rfl (by decide) rfl rfl rfl ?_
  subst e1
  exact c_rmakerAt_loop hp h5 (μ.2 1) 0 (Nat.zero_add _)
set_option maxHeartbeats 1000000 in
theorem c_mouldTold (m j : Nat) (hp : Rm (μ, τ) t h) (h5 : μ.2 1 ≤ 5) (hm : m < 6) (hj : j < 6) : Ct (d + 1) mX4_mouldTold 1 6 [.ref 27, .int (nI m), .int (nI j)] h (NT (fun v h1 => v = some (.int (rTold (μ, τ) m j)) ∧ GOut 0 0 h h1)) := by
  refine Ct.of (by decide +kernel) rfl (Nat.le_of_ble_eq_true rfl) ?_
  show WP (d + 1) mX4_mouldTold none 1 6 0 [.ref 27, .int (nI m), .int (nI j), vU] [] h _
  have ho : GOut 27 65 h h := GOut.rf
  refine w_bipush (pc := 0) (v := 6) dX4_mouldTold_0 (by decide) ?_
  refine w_newi (pc := 2) (N := 6) (k := 0) (n := 0) dX4_mouldTold_2 rfl (by omega) ?_
  obtain ⟨L, hL⟩ : ∃ z : Nat, z = h.length := ⟨_, rfl⟩
  have hT : Tmp L 6 (fun _ => 0) h (h ++ [.inl (6, .inl (fun _ => 0))]) := by rw [hL]; exact Tmp.new
  rw [← hL]
  generalize (h ++ [.inl (6, .inl (fun _ => 0))]) = hh at hT ⊢
  have hs := hp.nil hT.1
  have hmn : (nI m).toNatClampNeg = m := nI_clamp (by omega)
  refine w_dup (pc := 4) dX4_mouldTold_4 rfl ?_
  refine w_iconst (pc := 5) (v := 0) dX4_mouldTold_5 (by decide) ?_
  refine w_aload_n (pc := 6) (i := 0) dX4_mouldTold_6 rfl rfl ?_
  refine w_get (pc := 7) dX4_mouldTold_7 FX4_13 hs.1.1 rfl ?_
  refine w_iload_n (pc := 10) (i := 1) dX4_mouldTold_10 rfl rfl ?_
  refine w_iald (pc := 11) dX4_mouldTold_11 hs.1.2.2.1 (vp_in_nI (by omega) (by omega)) ?_
  rw [hmn]
  refine w_tmp (pc := 12) (j := 0) dX4_mouldTold_12 hT (by omega) (by omega) (fun hh hT => ?_)
  have hs := hp.nil hT.1
  refine w_dup (pc := 13) dX4_mouldTold_13 rfl ?_
  refine w_iconst (pc := 14) (v := 1) dX4_mouldTold_14 (by decide) ?_
  refine w_aload_n (pc := 15) (i := 0) dX4_mouldTold_15 rfl rfl ?_
  refine w_get (pc := 16) dX4_mouldTold_16 FX4_27 hs.1.1 rfl ?_
  refine w_get (pc := 19) dX4_mouldTold_19 FX4_59 hs.2.1.1 rfl ?_
  refine w_iload_n (pc := 22) (i := 1) dX4_mouldTold_22 rfl rfl ?_
  refine w_iald (pc := 23) dX4_mouldTold_23 hs.2.1.tight (vp_in_nI (by omega) (by omega)) ?_
  rw [hmn]
  refine w_tmp (pc := 24) (j := 1) dX4_mouldTold_24 hT (by omega) (by omega) (fun hh hT => ?_)
  have hs := hp.nil hT.1
  refine w_dup (pc := 25) dX4_mouldTold_25 rfl ?_
  refine w_iconst (pc := 26) (v := 2) dX4_mouldTold_26 (by decide) ?_
  refine w_aload_n (pc := 27) (i := 0) dX4_mouldTold_27 rfl rfl ?_
  refine w_get (pc := 28) dX4_mouldTold_28 FX4_27 hs.1.1 rfl ?_
  refine w_get (pc := 31) dX4_mouldTold_31 FX4_128 hs.2.1.1 rfl ?_
  refine w_iload_n (pc := 34) (i := 1) dX4_mouldTold_34 rfl rfl ?_
  refine w_iald (pc := 35) dX4_mouldTold_35 hs.2.1.worn (vp_in_nI (by omega) (by omega)) ?_
  rw [hmn]
  refine w_tmp (pc := 36) (j := 2) dX4_mouldTold_36 hT (by omega) (by omega) (fun hh hT => ?_)
  have hs := hp.nil hT.1
  refine w_dup (pc := 37) dX4_mouldTold_37 rfl ?_
  refine w_iconst (pc := 38) (v := 3) dX4_mouldTold_38 (by decide) ?_
  refine w_aload_n (pc := 39) (i := 0) dX4_mouldTold_39 rfl rfl ?_
  refine w_get (pc := 40) dX4_mouldTold_40 FX4_27 hs.1.1 rfl ?_
  refine w_iload_n (pc := 43) (i := 1) dX4_mouldTold_43 rfl rfl ?_
  refine w_vI (pc := 44) dX4_mouldTold_44 GX4_131 hs.2.1.1 (c_flaw m hs.2.1 hm) rfl rfl rfl rfl ?_
  refine w_tmp (pc := 47) (j := 3) dX4_mouldTold_47 hT (by omega) (by omega) (fun hh hT => ?_)
  have hs := hp.nil hT.1
  refine w_dup (pc := 48) dX4_mouldTold_48 rfl ?_
  refine w_iconst (pc := 49) (v := 4) dX4_mouldTold_49 (by decide) ?_
  refine w_aload_n (pc := 50) (i := 0) dX4_mouldTold_50 rfl rfl ?_
  refine w_iload_n (pc := 51) (i := 1) dX4_mouldTold_51 rfl rfl ?_
  refine w_vI (pc := 52) dX4_mouldTold_52 GX4_134 hs.1.1 (c_rclayOf m hs.1 hm) rfl rfl rfl rfl ?_
  refine w_tmp (pc := 55) (j := 4) dX4_mouldTold_55 hT (by omega) (by omega) (fun hh hT => ?_)
  have hs := hp.nil hT.1
  refine w_dup (pc := 56) dX4_mouldTold_56 rfl ?_
  refine w_iconst (pc := 57) (v := 5) dX4_mouldTold_57 (by decide) ?_
  refine w_aload_n (pc := 58) (i := 0) dX4_mouldTold_58 rfl rfl ?_
  refine w_iload_n (pc := 59) (i := 1) dX4_mouldTold_59 rfl rfl ?_
  refine w_vI (pc := 60) dX4_mouldTold_60 GX4_71 hs.1.1 (c_rmakerAt (nI m) hs h5) rfl rfl rfl rfl ?_
  refine w_tmp (pc := 63) (j := 5) dX4_mouldTold_63 hT (by omega) (by omega) (fun hh hT => ?_)
  have hs := hp.nil hT.1
  refine w_topa (fun x64 e64 => ?_)
  refine w_astore_n (pc := 64) (i := 3) (ls' := [.ref 27, .int (nI m), .int (nI j), .ref x64]) dX4_mouldTold_64 rfl (by decide) rfl rfl rfl ?_
  subst e64
  refine w_aload_n (pc := 65) (i := 3) dX4_mouldTold_65 rfl rfl ?_
  refine w_iload_n (pc := 66) (i := 2) dX4_mouldTold_66 rfl rfl ?_
  refine w_iald (pc := 67) dX4_mouldTold_67 hT.2.1 (vp_in_nI (by omega) (by omega)) ?_
  rw [nI_clamp (by omega)]
  refine w_ireturn (pc := 68) dX4_mouldTold_68 ⟨_, rfl, rfl⟩ ⟨_, rfl, ?_, hT.1⟩
  match j, hj with
  | 0, _ => rfl
  | 1, _ => rfl
  | 2, _ => rfl
  | 3, _ => rfl
  | 4, _ => rfl
  | 5, _ => rfl
set_option maxHeartbeats 1000000 in
theorem c_makerTold (k : Nat) (y : Int32) (hp : Rm (μ, τ) t h) (hk : k < 5) : Ct d mX4_makerTold 0 0 [.ref 27, .int (nI k), .int y] h (RI (rMTold μ k y) h) := by
  refine Ct.of (by decide +kernel) rfl (Nat.le_of_ble_eq_true rfl) ?_
  show WP d mX4_makerTold none 0 0 0 [.ref 27, .int (nI k), .int y] [] h _
  have ho : GOut 27 65 h h := GOut.rf
  refine w_iload_n (pc := 0) (i := 2) dX4_makerTold_0 rfl rfl ?_
  refine w_if_ne (pc := 1) (tgt := 13) dX4_makerTold_1 (by decide) (fun c1 => ?_) (fun c1 => ?_)
  · refine w_aload_n (pc := 13) (i := 0) dX4_makerTold_13 rfl rfl ?_
    refine w_get (pc := 14) dX4_makerTold_14 FX4_19 hp.1.1 rfl ?_
    refine w_iload_n (pc := 17) (i := 1) dX4_makerTold_17 rfl rfl ?_
    refine w_iald (pc := 18) dX4_makerTold_18 hp.1.2.2.2.2 (vp_in_nI (by omega) (by omega)) ?_
    rw [nI_clamp (by omega)]
    exact w_ireturn (pc := 19) dX4_makerTold_19 ⟨_, rfl, rfl⟩ ⟨by unfold rMTold; rw [if_neg c1], rfl⟩
  · refine w_aload_n (pc := 4) (i := 0) dX4_makerTold_4 rfl rfl ?_
    refine w_get (pc := 5) dX4_makerTold_5 FX4_16 hp.1.1 rfl ?_
    refine w_iload_n (pc := 8) (i := 1) dX4_makerTold_8 rfl rfl ?_
    refine w_iald (pc := 9) dX4_makerTold_9 hp.1.2.2.2.1 (vp_in_nI (by omega) (by omega)) ?_
    rw [nI_clamp (by omega)]
    refine w_goto (pc := 10) (tgt := 19) dX4_makerTold_10 (by decide) ?_
    exact w_ireturn (pc := 19) dX4_makerTold_19 ⟨_, rfl, rfl⟩ ⟨by unfold rMTold; rw [if_pos c1], rfl⟩
end MODEL
