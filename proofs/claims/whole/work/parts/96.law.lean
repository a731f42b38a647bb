/-! the law: its loop's state, its calls' ends -/
abbrev mLaw (nm : String) (hs : List (Nat × Nat × Nat × Nat)) : MD := (⟨RL, nm, "([I)Z"⟩, cL_law, 9, some FieldType.boolean, hs)
abbrev Zs : Type := Option (Nat × (Nat → Int32))
theorem Wk.keep {b : Nat} {σ : WS} {h h1 : AH} (hw : Wk b σ h) (g : ∀ (i : Nat) (x : AC), b ≤ i → i < b + 13 → h[i]? = some x → h1[i]? = some x) : Wk b σ h1 :=
  ⟨g _ _ (by omega) (by omega) hw.1, ⟨g _ _ (by omega) (by omega) hw.t0.1, g _ _ (by omega) (by omega) hw.t0.2⟩, ⟨g _ _ (by omega) (by omega) hw.t1.1, g _ _ (by omega) (by omega) hw.t1.2⟩, ⟨g _ _ (by omega) (by omega) hw.t2.1, g _ _ (by omega) (by omega) hw.t2.2⟩, ⟨g _ _ (by omega) (by omega) hw.t3.1, g _ _ (by omega) (by omega) hw.t3.2⟩, ⟨g _ _ (by omega) (by omega) hw.t4.1, g _ _ (by omega) (by omega) hw.t4.2⟩, g _ _ (by omega) (by omega) hw.dr, g _ _ (by omega) (by omega) hw.wh⟩
theorem Pm.keep {σ : WS} {h h1 : AH} (hp : Pm σ h) (g : ∀ (i : Nat) (x : AC), i < 27 → h[i]? = some x → h1[i]? = some x) : Pm σ h1 := by
  obtain ⟨p1, p2, p3, φ, p4, p5⟩ := hp
  exact ⟨g _ _ (by omega) p1, p2.keep (fun i x _ h2 q => g i x (by omega) q), p3, φ, p4.keep (fun i x _ h2 q => g i x (by omega) q), p5⟩
theorem St.keep {b : Nat} {τ : ST} {h h1 : AH} (hs : St b τ h) (g : ∀ (i : Nat) (x : AC), b ≤ i → i < b + 30 → h[i]? = some x → h1[i]? = some x) : St b τ h1 :=
  ⟨g _ _ (by omega) (by omega) hs.1, g _ _ (by omega) (by omega) hs.2.1, g _ _ (by omega) (by omega) hs.2.2.1, g _ _ (by omega) (by omega) hs.2.2.2.1, g _ _ (by omega) (by omega) hs.2.2.2.2.1, g _ _ (by omega) (by omega) hs.2.2.2.2.2.1, fun k hk => g _ _ (by omega) (by omega) (hs.2.2.2.2.2.2.1 k hk), fun k hk => g _ _ (by omega) (by omega) (hs.2.2.2.2.2.2.2 k hk)⟩
theorem Rm.keep {ρ : RS} {t : Int32} {h h1 : AH} (hp : Rm ρ t h) (g : ∀ (i : Nat) (x : AC), 27 ≤ i → i < 92 → h[i]? = some x → h1[i]? = some x) : Rm ρ t h1 := by
  obtain ⟨μ, τ⟩ := ρ
  obtain ⟨p1, p2, α, p3⟩ := hp
  exact ⟨⟨g _ _ (by omega) (by omega) p1.1, g _ _ (by omega) (by omega) p1.2.1, g _ _ (by omega) (by omega) p1.2.2.1, g _ _ (by omega) (by omega) p1.2.2.2.1, g _ _ (by omega) (by omega) p1.2.2.2.2⟩, p2.keep (fun i x h1 h2 q => g i x (by omega) (by omega) q), α, p3.keep (fun i x h1 h2 q => g i x (by omega) (by omega) q)⟩
/-- what holds at the loop's head -/
def LI (D : Nat) (h : AH) : Prop := ∃ (σ : WS) (μ : MS) (τ : ST) (t : Int32) (f : Nat → Int64), Pm σ h ∧ Rm (μ, τ) t h ∧ h[92]? = some (LCell f) ∧ Sim D σ μ τ ∧ Mw σ τ
theorem LI.of {D : Nat} {h : AH} {σ : WS} {ρ : RS} {t : Int32} {f : Nat → Int64} (hp : Pm σ h) (hr : Rm ρ t h) (hf : h[92]? = some (LCell f)) (hS : Sim D σ ρ.1 ρ.2) (hW : Mw σ ρ.2) : LI D h := by
  obtain ⟨μ, τ⟩ := ρ
  exact ⟨σ, μ, τ, t, f, hp, hr, hf, hS, hW⟩
theorem LI.mono {D D' : Nat} {h : AH} (hI : LI D h) (hD : D ≤ D') : LI D' h := by
  obtain ⟨σ, μ, τ, t, f, hp, hr, hf, hS, hW⟩ := hI
  exact ⟨σ, μ, τ, t, f, hp, hr, hf, hS.mono hD, hW⟩
section SB
variable {D : Nat} {σ : WS} {μ : MS} {τ : ST}
theorem Sim.c0 (h : Sim D σ μ τ) : μ.2 0 ≤ 6 := by rw [h.n0]; exact h.wb.1
theorem Sim.c1 (h : Sim D σ μ τ) : μ.2 1 ≤ 5 := by rw [h.n1]; exact h.wb.2.1
theorem Sim.tb (h : Sim D σ μ τ) : TB τ := ⟨by rw [h.n2]; exact h.wb.2.2.1, by rw [h.n4]; exact h.wb.2.2.2.2⟩
theorem Sim.fv (h : Sim D σ μ τ) : ∀ k, k < 6 → vp_in (τ.2.1 (10 + k) 0) 25 := fun k hk => by
  obtain ⟨⟨n, n1, n2, e⟩, -⟩ := h.sb k hk
  rw [e]
  exact vp_in_nI (by omega) (by omega)
end SB
/-- what a wrapper's end says, where the reference agrees -/
theorem LRet.use {σ : WS} {ρ : RS} {t : Int32} {r : Res} {code : String → Int32} {f : Nat → Int64} {h h1 : AH} {av : Option Value} (q : LRet r code f h (.inl av) h1) (hp : Pm σ h) (hr : Rm ρ t h) (hf : h[92]? = some (LCell f)) :
    ∃ (x : Int32) (σ1 : WS) (f1 : Nat → Int64), av = some (.int x) ∧ Pm σ1 h1 ∧ Rm ρ t h1 ∧ h1[92]? = some (LCell f1) ∧ ∀ (D : Nat) (rr : RR), Agree D σ r rr code → rr.1 = x ∧ (x = 0 → f1 0 = rr.2.1.toInt64) ∧ Sim D σ1 rr.2.2.1 rr.2.2.2 ∧ Mw σ1 rr.2.2.2 := by
  obtain ⟨v, q1, q2⟩ := q
  injection q1 with q3
  subst q3
  cases r with
  | inl E =>
    obtain ⟨e1, e2⟩ := q2
    subst e2
    exact ⟨code E, σ, f, e1, hp, hr, hf, fun D rr a => ⟨a.1, fun z => absurd (a.1.trans z) a.2.1, a.2.2.1, a.2.2.2⟩⟩
  | inr w =>
    obtain ⟨e1, e2, e3, e4⟩ := q2
    exact ⟨0, w.2, _, e1, e2, hr.keep (fun i x i1 i2 q => (e4 i i1 (by omega)).trans q), e3, fun D rr a => ⟨a.1, fun _ => by rw [a.2.1]; exact if_pos rfl, a.2.2.1, a.2.2.2⟩⟩
theorem lg_self (x : Int64) : lg_cmp x x = 0 := by
  unfold lg_cmp
  rw [if_neg (fun c : x > x => Int64.lt_irrefl c), if_pos rfl]
section LAWT
variable {d : Nat} {M : MD} {z : Zs} {k n pc : Nat} {ls st : List Value} {h : AH} {P : AO → AH → Prop}
/-- room that isn't used -/
theorem w_room {k' n' : Nat} (hk : k ≤ k') (hn : n ≤ n') (kk : WP d M z k n pc ls st h P) : WP d M z k' n' pc ls st h P := by
  intro p l e R s m args below meth c D tc A H locs cells slots as ws L sv sb Q hC hI hX hL hS hc hs hr ht
  exact kk hC hI hX hL hS (by omega) (by omega) hr ht
/-- an int of the script on the stack -/
theorem w_arg {LL j i : Nat} {iv : Int} {xs : Nat → Int32} (hz : z = some (LL, xs)) (hL : 5 * j + 5 ≤ LL) (hLL : LL ≤ 2560) (hi : i < 5) (hiv : Int32.ofInt iv = nI i) (h0 : ls[0]? = some vScr) (h4 : ls[4]? = some (.int (nI (5 * j))))
    (d0 : decode (mdB M) pc = .ok (.aload_n 0, 1)) (d1 : decode (mdB M) (pc + 1) = .ok (.iload 4, 2)) (d3 : decode (mdB M) (pc + 3) = .ok (.iconst iv, 1)) (d4 : decode (mdB M) (pc + 4) = .ok (.iadd, 1)) (d5 : decode (mdB M) (pc + 5) = .ok (.iaload, 1))
    (kk : WP d M z k n (pc + 6) ls (.int (xs (5 * j + i)) :: st) h P) : WP d M z k n pc ls st h P := by
  refine w_aload_s (pc := pc) (i := 0) d0 rfl h0 ?_
  refine w_iload (pc := pc + 1) d1 h4 ?_
  refine w_iconst (pc := pc + 3) (v := nI i) d3 hiv ?_
  refine w_iadd (pc := pc + 4) d4 ?_
  rw [nI_add]
  refine w_sld (pc := pc + 5) hz d5 (vp_in_nI (by omega) (by omega)) ?_
  rw [nI_clamp (by omega)]
  exact kk
end LAWT
section LAWU
variable {z : Zs} {k n q : Nat} {iv : Int32} {h : AH} {P : AO → AH → Prop} {nm : String} {hs : List (Nat × Nat × Nat × Nat)}
set_option maxHeartbeats 1000000 in
/-- behind the reference's call: what was thrown, and the two answers -/
theorem w_tail {og : Int} {x v t : Int32} {ρ : RS} {f : Nat → Int64} (hr : Rm ρ t h) (hf : h[92]? = some (LCell f)) (ht : t = x) (hz : x = 0 → f 0 = v.toInt64)
    (d0 : decode cL_law q = .ok (.istore 6, 2)) (d2 : decode cL_law (q + 2) = .ok (.aload_n 2, 1)) (d3 : decode cL_law (q + 3) = .ok (.invokevirtual 89, 3)) (d6 : decode cL_law (q + 6) = .ok (.iload 5, 2)) (d8 : decode cL_law (q + 8) = .ok (.if_icmp .eq 5, 3))
    (d13 : decode cL_law (q + 13) = .ok (.iload 5, 2)) (d15 : decode cL_law (q + 15) = .ok (.ifCond .ne 15, 3)) (d18 : decode cL_law (q + 18) = .ok (.aload_n 3, 1)) (d19 : decode cL_law (q + 19) = .ok (.iconst 0, 1)) (d20 : decode cL_law (q + 20) = .ok (.laload, 1))
    (d21 : decode cL_law (q + 21) = .ok (.iload 6, 2)) (d23 : decode cL_law (q + 23) = .ok (.i2l, 1)) (d24 : decode cL_law (q + 24) = .ok (.lcmp, 1)) (d25 : decode cL_law (q + 25) = .ok (.ifCond .eq 5, 3)) (d30 : decode cL_law (q + 30) = .ok (.goto og, 3)) (hg : ((q + 30 : Nat) : Int) + og = (1524 : Nat))
    (kk : WP 12 (mLaw nm hs) z k n 1524 [vScr, .ref 0, .ref 27, .ref 92, .int iv, vU, vU, vU, vU] [] h P) : WP 12 (mLaw nm hs) z k n q [vScr, .ref 0, .ref 27, .ref 92, .int iv, .int x, vU, vU, vU] [.int v] h P := by
  obtain ⟨μ, τ⟩ := ρ
  subst ht
  have kk2 : WP 12 (mLaw nm hs) z k n (q + 30) [vScr, .ref 0, .ref 27, .ref 92, .int iv, .int t, .int v, vU, vU] [] h P := by
    refine w_goto (pc := q + 30) (tgt := 1524) d30 hg ?_
    refine w_forget 5 (ls' := [vScr, .ref 0, .ref 27, .ref 92, .int iv, vU, .int v, vU, vU]) rfl ?_
    exact w_forget 6 (ls' := [vScr, .ref 0, .ref 27, .ref 92, .int iv, vU, vU, vU, vU]) rfl kk
  refine w_istore (pc := q) (i := 6) (ls' := [vScr, .ref 0, .ref 27, .ref 92, .int iv, .int t, .int v, vU, vU]) d0 (Nat.le_of_ble_eq_true rfl) rfl rfl rfl ?_
  refine w_aload_n (pc := q + 2) (i := 2) d2 rfl rfl ?_
  refine w_vI (d := 11) (pc := q + 3) d3 GL_89 hr.1.1 (c_thrown hr) rfl rfl rfl rfl ?_
  refine w_iload (pc := q + 6) d6 rfl ?_
  refine w_icmp_eq (pc := q + 8) (tgt := q + 13) d8 (by omega) (fun _ => ?_) (fun c => absurd rfl c)
  refine w_iload (pc := q + 13) d13 rfl ?_
  refine w_if_ne (pc := q + 15) (tgt := q + 30) d15 (by omega) (fun _ => kk2) (fun c => ?_)
  refine w_aload_n (pc := q + 18) (i := 3) d18 rfl rfl ?_
  refine w_iconst (pc := q + 19) (v := 0) d19 (by decide) ?_
  refine w_lald (pc := q + 20) d20 hf (vp_in_nI (n := 0) (by omega) (by omega)) ?_
  refine w_iload (pc := q + 21) d21 rfl ?_
  refine w_i2l (pc := q + 23) d23 ?_
  refine w_lcmp (pc := q + 24) d24 ?_
  refine w_if_eq (pc := q + 25) (tgt := q + 30) d25 (by omega) (fun _ => kk2) (fun c9 => absurd ?_ c9)
  show lg_cmp (f 0) v.toInt64 = 0
  rw [hz c]
  exact lg_self _
end LAWU
