section ROWS
variable {d : Nat} {M : MD} {z : Option (Nat × (Nat → Int32))} {k n pc : Nat} {ls st : List Value} {h : AH} {P : AO → AH → Prop}
theorem w_iconst {i : Int} {v : Int32} (hd : decode (mdB M) pc = .ok (.iconst i, 1)) (hv : Int32.ofInt i = v) (kk : WP d M z k n (pc + 1) ls (.int v :: st) h P) : WP d M z k n pc ls st h P := by
  intro p l e R s m args below meth c D tc A H locs cells slots as ws L sv sb Q hC hI hX hL hS hc hs hr ht
  exact lv_iconst hC.1 hC.2.1 hd hv (kk hC hI hX hL ⟨rfl, hS⟩ hc hs hr ht)
theorem w_bipush {i : Int} {v : Int32} (hd : decode (mdB M) pc = .ok (.bipush i, 2)) (hv : (Int8.ofInt i).toInt32 = v) (kk : WP d M z k n (pc + 2) ls (.int v :: st) h P) : WP d M z k n pc ls st h P := by
  intro p l e R s m args below meth c D tc A H locs cells slots as ws L sv sb Q hC hI hX hL hS hc hs hr ht
  exact lv_bipush hC.1 hC.2.1 hd hv (kk hC hI hX hL ⟨rfl, hS⟩ hc hs hr ht)
theorem w_sipush {i : Int} {v : Int32} (hd : decode (mdB M) pc = .ok (.sipush i, 3)) (hv : (Int16.ofInt i).toInt32 = v) (kk : WP d M z k n (pc + 3) ls (.int v :: st) h P) : WP d M z k n pc ls st h P := by
  intro p l e R s m args below meth c D tc A H locs cells slots as ws L sv sb Q hC hI hX hL hS hc hs hr ht
  exact lv_sipush hC.1 hC.2.1 hd hv (kk hC hI hX hL ⟨rfl, hS⟩ hc hs hr ht)
theorem w_dconst0  (hd : decode (mdB M) pc = .ok (.dconst 0, 1)) (kk : WP d M z k n (pc + 1) ls (.double FP.dconst0 :: st) h P) : WP d M z k n pc ls st h P := by
  intro p l e R s m args below meth c D tc A H locs cells slots as ws L sv sb Q hC hI hX hL hS hc hs hr ht
  exact lv_dconst0 hC.1 hC.2.1 hd (kk hC hI hX hL ⟨rfl, hS⟩ hc hs hr ht)
theorem w_ldc {i : Nat} {v : Int32} (hd : decode (mdB M) pc = .ok (.ldc i, 2)) (hw : Cond.constant (mdY M).cls i v ∈ wsAll) (kk : WP d M z k n (pc + 2) ls (.int v :: st) h P) : WP d M z k n pc ls st h P := by
  intro p l e R s m args below meth c D tc A H locs cells slots as ws L sv sb Q hC hI hX hL hS hc hs hr ht
  exact lv_ldc hC.1 hC.2.1 hC.2.2.2.2.1 (hC.2.2.2.2.2.1 _ hw) hd (kk hC hI hX hL ⟨rfl, hS⟩ hc hs hr ht)
theorem w_ldc2 {i : Nat} {v : Int64} (hd : decode (mdB M) pc = .ok (.ldc2_w i, 3)) (hw : Cond.constantLong (mdY M).cls i v ∈ wsAll) (kk : WP d M z k n (pc + 3) ls (.long v :: st) h P) : WP d M z k n pc ls st h P := by
  intro p l e R s m args below meth c D tc A H locs cells slots as ws L sv sb Q hC hI hX hL hS hc hs hr ht
  exact lv_ldc2 hC.1 hC.2.1 hC.2.2.2.2.1 (hC.2.2.2.2.2.1 _ hw) hd (kk hC hI hX hL ⟨rfl, hS⟩ hc hs hr ht)
theorem w_iload_n {i : Nat} {j : Fin 4} {x : Int32} (hd : decode (mdB M) pc = .ok (.iload_n j, 1)) (hi : (j : Nat) = i) (hv : ls[i]? = some (.int x)) (kk : WP d M z k n (pc + 1) ls (.int x :: st) h P) : WP d M z k n pc ls st h P := by
  intro p l e R s m args below meth c D tc A H locs cells slots as ws L sv sb Q hC hI hX hL hS hc hs hr ht
  obtain ⟨w, h1, h2⟩ := hL.2.2.2 i _ hv (by intro q; cases q)
  cases h2
  exact lv_iload_n hC.1 hC.2.1 hd hi h1 (kk hC hI hX hL ⟨rfl, hS⟩ hc hs hr ht)
theorem w_iload {i : Nat} {x : Int32} (hd : decode (mdB M) pc = .ok (.iload i, 2)) (hv : ls[i]? = some (.int x)) (kk : WP d M z k n (pc + 2) ls (.int x :: st) h P) : WP d M z k n pc ls st h P := by
  intro p l e R s m args below meth c D tc A H locs cells slots as ws L sv sb Q hC hI hX hL hS hc hs hr ht
  obtain ⟨w, h1, h2⟩ := hL.2.2.2 i _ hv (by intro q; cases q)
  cases h2
  exact lv_iload hC.1 hC.2.1 hd h1 (kk hC hI hX hL ⟨rfl, hS⟩ hc hs hr ht)
theorem w_lload_n {i : Nat} {j : Fin 4} {x : Int64} (hd : decode (mdB M) pc = .ok (.lload_n j, 1)) (hi : (j : Nat) = i) (hv : ls[i]? = some (.long x)) (kk : WP d M z k n (pc + 1) ls (.long x :: st) h P) : WP d M z k n pc ls st h P := by
  intro p l e R s m args below meth c D tc A H locs cells slots as ws L sv sb Q hC hI hX hL hS hc hs hr ht
  obtain ⟨w, h1, h2⟩ := hL.2.2.2 i _ hv (by intro q; cases q)
  cases h2
  exact lv_lload_n hC.1 hC.2.1 hd hi h1 (kk hC hI hX hL ⟨rfl, hS⟩ hc hs hr ht)
theorem w_lload {i : Nat} {x : Int64} (hd : decode (mdB M) pc = .ok (.lload i, 2)) (hv : ls[i]? = some (.long x)) (kk : WP d M z k n (pc + 2) ls (.long x :: st) h P) : WP d M z k n pc ls st h P := by
  intro p l e R s m args below meth c D tc A H locs cells slots as ws L sv sb Q hC hI hX hL hS hc hs hr ht
  obtain ⟨w, h1, h2⟩ := hL.2.2.2 i _ hv (by intro q; cases q)
  cases h2
  exact lv_lload hC.1 hC.2.1 hd h1 (kk hC hI hX hL ⟨rfl, hS⟩ hc hs hr ht)
theorem w_dload_n {i : Nat} {j : Fin 4} {x : UInt64} (hd : decode (mdB M) pc = .ok (.dload_n j, 1)) (hi : (j : Nat) = i) (hv : ls[i]? = some (.double x)) (kk : WP d M z k n (pc + 1) ls (.double x :: st) h P) : WP d M z k n pc ls st h P := by
  intro p l e R s m args below meth c D tc A H locs cells slots as ws L sv sb Q hC hI hX hL hS hc hs hr ht
  obtain ⟨w, h1, h2⟩ := hL.2.2.2 i _ hv (by intro q; cases q)
  cases h2
  exact lv_dload_n hC.1 hC.2.1 hd hi h1 (kk hC hI hX hL ⟨rfl, hS⟩ hc hs hr ht)
theorem w_dload {i : Nat} {x : UInt64} (hd : decode (mdB M) pc = .ok (.dload i, 2)) (hv : ls[i]? = some (.double x)) (kk : WP d M z k n (pc + 2) ls (.double x :: st) h P) : WP d M z k n pc ls st h P := by
  intro p l e R s m args below meth c D tc A H locs cells slots as ws L sv sb Q hC hI hX hL hS hc hs hr ht
  obtain ⟨w, h1, h2⟩ := hL.2.2.2 i _ hv (by intro q; cases q)
  cases h2
  exact lv_dload hC.1 hC.2.1 hd h1 (kk hC hI hX hL ⟨rfl, hS⟩ hc hs hr ht)
theorem w_aload_n {i : Nat} {j : Fin 4} {x : Nat} (hd : decode (mdB M) pc = .ok (.aload_n j, 1)) (hi : (j : Nat) = i) (hv : ls[i]? = some (.ref x)) (kk : WP d M z k n (pc + 1) ls (.ref x :: st) h P) : WP d M z k n pc ls st h P := by
  intro p l e R s m args below meth c D tc A H locs cells slots as ws L sv sb Q hC hI hX hL hS hc hs hr ht
  obtain ⟨w, h1, h2⟩ := hL.2.2.2 i _ hv (by intro q; cases q)
  obtain ⟨a, h3, rfl⟩ := h2
  exact lv_aload_n hC.1 hC.2.1 hd hi h1 (kk hC hI hX hL ⟨⟨a, h3, rfl⟩, hS⟩ hc hs hr ht)
theorem w_aload {i : Nat} {x : Nat} (hd : decode (mdB M) pc = .ok (.aload i, 2)) (hv : ls[i]? = some (.ref x)) (kk : WP d M z k n (pc + 2) ls (.ref x :: st) h P) : WP d M z k n pc ls st h P := by
  intro p l e R s m args below meth c D tc A H locs cells slots as ws L sv sb Q hC hI hX hL hS hc hs hr ht
  obtain ⟨w, h1, h2⟩ := hL.2.2.2 i _ hv (by intro q; cases q)
  obtain ⟨a, h3, rfl⟩ := h2
  exact lv_aload hC.1 hC.2.1 hd h1 (kk hC hI hX hL ⟨⟨a, h3, rfl⟩, hS⟩ hc hs hr ht)
theorem w_aload_s {i : Nat} {j : Fin 4} (hd : decode (mdB M) pc = .ok (.aload_n j, 1)) (hi : (j : Nat) = i) (hv : ls[i]? = some vScr) (kk : WP d M z k n (pc + 1) ls (vScr :: st) h P) : WP d M z k n pc ls st h P := by
  intro p l e R s m args below meth c D tc A H locs cells slots as ws L sv sb Q hC hI hX hL hS hc hs hr ht
  obtain ⟨w, h1, h2⟩ := hL.2.2.2 i _ hv (by intro q; cases q)
  have h3 := h2.2 rfl
  subst h3
  exact lv_aload_n hC.1 hC.2.1 hd hi h1 (kk hC hI hX hL ⟨⟨fun q => absurd q (by decide), fun _ => rfl⟩, hS⟩ hc hs hr ht)
theorem w_istore_n {i : Nat} {j : Fin 4} {x : Int32} (hd : decode (mdB M) pc = .ok (.istore_n j, 1)) (hi : (j : Nat) = i) (hb : i < mdL M) (ho : okS ls i = true) (hw : okL ls = true) {ls' : List Value} (hl : (ls.set i (.int x)) = ls') (kk : WP d M z k n (pc + 1) ls' st h P) : WP d M z k n pc ls (.int x :: st) h P := by
  subst hl
  intro p l e R s m args below meth c D tc A H locs cells slots as ws L sv sb Q hC hI hX hL hS hc hs hr ht
  obtain ⟨_, _, rfl, e0, hS0⟩ := hS.c
  cases e0
  exact lv_istore_n hC.1 hC.2.1 hd hi hL.has hb rfl (fun L' h2 => kk hC hI hX (hL.store1 hb rfl ho (okL_at hw) h2) hS0 hc hs hr ht)
theorem w_istore {i : Nat} {x : Int32} (hd : decode (mdB M) pc = .ok (.istore i, 2)) (hb : i < mdL M) (ho : okS ls i = true) (hw : okL ls = true) {ls' : List Value} (hl : (ls.set i (.int x)) = ls') (kk : WP d M z k n (pc + 2) ls' st h P) : WP d M z k n pc ls (.int x :: st) h P := by
  subst hl
  intro p l e R s m args below meth c D tc A H locs cells slots as ws L sv sb Q hC hI hX hL hS hc hs hr ht
  obtain ⟨_, _, rfl, e0, hS0⟩ := hS.c
  cases e0
  exact lv_istore hC.1 hC.2.1 hd hL.has hb rfl (fun L' h2 => kk hC hI hX (hL.store1 hb rfl ho (okL_at hw) h2) hS0 hc hs hr ht)
theorem w_lstore_n {i : Nat} {j : Fin 4} {x : Int64} (hd : decode (mdB M) pc = .ok (.lstore_n j, 1)) (hi : (j : Nat) = i) (hb : i + 1 < mdL M) (ho : okS ls i = true) (hw : okL ls = true) {ls' : List Value} (hl : ((ls.set i (.long x)).set (i + 1) vU) = ls') (kk : WP d M z k n (pc + 1) ls' st h P) : WP d M z k n pc ls (.long x :: st) h P := by
  subst hl
  intro p l e R s m args below meth c D tc A H locs cells slots as ws L sv sb Q hC hI hX hL hS hc hs hr ht
  obtain ⟨_, _, rfl, e0, hS0⟩ := hS.c
  cases e0
  exact lv_lstore_n hC.1 hC.2.1 hd hi hL.has hb rfl (fun L' h2 => kk hC hI hX (hL.store2 hb rfl ho (okL_at hw) h2) hS0 hc hs hr ht)
theorem w_lstore {i : Nat} {x : Int64} (hd : decode (mdB M) pc = .ok (.lstore i, 2)) (hb : i + 1 < mdL M) (ho : okS ls i = true) (hw : okL ls = true) {ls' : List Value} (hl : ((ls.set i (.long x)).set (i + 1) vU) = ls') (kk : WP d M z k n (pc + 2) ls' st h P) : WP d M z k n pc ls (.long x :: st) h P := by
  subst hl
  intro p l e R s m args below meth c D tc A H locs cells slots as ws L sv sb Q hC hI hX hL hS hc hs hr ht
  obtain ⟨_, _, rfl, e0, hS0⟩ := hS.c
  cases e0
  exact lv_lstore hC.1 hC.2.1 hd hL.has hb rfl (fun L' h2 => kk hC hI hX (hL.store2 hb rfl ho (okL_at hw) h2) hS0 hc hs hr ht)
theorem w_dstore_n {i : Nat} {j : Fin 4} {x : UInt64} (hd : decode (mdB M) pc = .ok (.dstore_n j, 1)) (hi : (j : Nat) = i) (hb : i + 1 < mdL M) (ho : okS ls i = true) (hw : okL ls = true) {ls' : List Value} (hl : ((ls.set i (.double x)).set (i + 1) vU) = ls') (kk : WP d M z k n (pc + 1) ls' st h P) : WP d M z k n pc ls (.double x :: st) h P := by
  subst hl
  intro p l e R s m args below meth c D tc A H locs cells slots as ws L sv sb Q hC hI hX hL hS hc hs hr ht
  obtain ⟨_, _, rfl, e0, hS0⟩ := hS.c
  cases e0
  exact lv_dstore_n hC.1 hC.2.1 hd hi hL.has hb rfl (fun L' h2 => kk hC hI hX (hL.store2 hb rfl ho (okL_at hw) h2) hS0 hc hs hr ht)
theorem w_dstore {i : Nat} {x : UInt64} (hd : decode (mdB M) pc = .ok (.dstore i, 2)) (hb : i + 1 < mdL M) (ho : okS ls i = true) (hw : okL ls = true) {ls' : List Value} (hl : ((ls.set i (.double x)).set (i + 1) vU) = ls') (kk : WP d M z k n (pc + 2) ls' st h P) : WP d M z k n pc ls (.double x :: st) h P := by
  subst hl
  intro p l e R s m args below meth c D tc A H locs cells slots as ws L sv sb Q hC hI hX hL hS hc hs hr ht
  obtain ⟨_, _, rfl, e0, hS0⟩ := hS.c
  cases e0
  exact lv_dstore hC.1 hC.2.1 hd hL.has hb rfl (fun L' h2 => kk hC hI hX (hL.store2 hb rfl ho (okL_at hw) h2) hS0 hc hs hr ht)
theorem w_astore_n {i : Nat} {j : Fin 4} {x : Nat} (hd : decode (mdB M) pc = .ok (.astore_n j, 1)) (hi : (j : Nat) = i) (hb : i < mdL M) (ho : okS ls i = true) (hw : okL ls = true) {ls' : List Value} (hl : (ls.set i (.ref x)) = ls') (kk : WP d M z k n (pc + 1) ls' st h P) : WP d M z k n pc ls (.ref x :: st) h P := by
  subst hl
  intro p l e R s m args below meth c D tc A H locs cells slots as ws L sv sb Q hC hI hX hL hS hc hs hr ht
  obtain ⟨_, _, rfl, e0, hS0⟩ := hS.c
  obtain ⟨a, h3, rfl⟩ := e0
  exact lv_astore_n hC.1 hC.2.1 hd hi hL.has hb rfl (fun L' h2 => kk hC hI hX (hL.store1 hb ⟨a, h3, rfl⟩ ho (okL_at hw) h2) hS0 hc hs hr ht)
theorem w_astore {i : Nat} {x : Nat} (hd : decode (mdB M) pc = .ok (.astore i, 2)) (hb : i < mdL M) (ho : okS ls i = true) (hw : okL ls = true) {ls' : List Value} (hl : (ls.set i (.ref x)) = ls') (kk : WP d M z k n (pc + 2) ls' st h P) : WP d M z k n pc ls (.ref x :: st) h P := by
  subst hl
  intro p l e R s m args below meth c D tc A H locs cells slots as ws L sv sb Q hC hI hX hL hS hc hs hr ht
  obtain ⟨_, _, rfl, e0, hS0⟩ := hS.c
  obtain ⟨a, h3, rfl⟩ := e0
  exact lv_astore hC.1 hC.2.1 hd hL.has hb rfl (fun L' h2 => kk hC hI hX (hL.store1 hb ⟨a, h3, rfl⟩ ho (okL_at hw) h2) hS0 hc hs hr ht)
theorem w_astore_x_n {i : Nat} {j : Fin 4} (hd : decode (mdB M) pc = .ok (.astore_n j, 1)) (hi : (j : Nat) = i) (hb : i < mdL M) (ho : okS ls i = true) (hw : okL ls = true) {ls' : List Value} (hl : ls.set i vX = ls') (kk : WP d M z k n (pc + 1) ls' st h P) : WP d M z k n pc ls (vX :: st) h P := by
  subst hl
  intro p l e R s m args below meth c D tc A H locs cells slots as ws L sv sb Q hC hI hX hL hS hc hs hr ht
  obtain ⟨_, _, rfl, e0, hS0⟩ := hS.c
  obtain ⟨q, rfl⟩ := e0.1 rfl
  exact lv_astore_n hC.1 hC.2.1 hd hi hL.has hb rfl (fun L' h2 => kk hC hI hX (hL.store1 hb ⟨fun _ => ⟨q, rfl⟩, fun q => absurd q (by decide)⟩ ho (okL_at hw) h2) hS0 hc hs hr ht)
theorem w_astore_x {i : Nat} (hd : decode (mdB M) pc = .ok (.astore i, 2)) (hb : i < mdL M) (ho : okS ls i = true) (hw : okL ls = true) {ls' : List Value} (hl : ls.set i vX = ls') (kk : WP d M z k n (pc + 2) ls' st h P) : WP d M z k n pc ls (vX :: st) h P := by
  subst hl
  intro p l e R s m args below meth c D tc A H locs cells slots as ws L sv sb Q hC hI hX hL hS hc hs hr ht
  obtain ⟨_, _, rfl, e0, hS0⟩ := hS.c
  obtain ⟨q, rfl⟩ := e0.1 rfl
  exact lv_astore hC.1 hC.2.1 hd hL.has hb rfl (fun L' h2 => kk hC hI hX (hL.store1 hb ⟨fun _ => ⟨q, rfl⟩, fun q => absurd q (by decide)⟩ ho (okL_at hw) h2) hS0 hc hs hr ht)
theorem w_iinc {i : Nat} {v : Int} {x y : Int32} (hd : decode (mdB M) pc = .ok (.iinc i v, 3)) (hx : ls[i]? = some (.int x)) (hy : x + Int32.ofInt v = y) (hb : i < mdL M) (ho : okS ls i = true) (hw : okL ls = true) {ls' : List Value} (hl : ls.set i (.int y) = ls') (kk : WP d M z k n (pc + 3) ls' st h P) : WP d M z k n pc ls st h P := by
  subst hl
  intro p l e R s m args below meth c D tc A H locs cells slots as ws L sv sb Q hC hI hX hL hS hc hs hr ht
  obtain ⟨w, h1, h2⟩ := hL.2.2.2 i _ hx (by intro q; cases q)
  cases h2
  obtain ⟨j, hj⟩ := List.getElem?_of_mem (lsVals_in.mpr h1)
  exact lv_iinc hC.1 hC.2.1 hd hL.has hj hy hb rfl (fun L' h2 => kk hC hI hX (hL.store1 hb rfl ho (okL_at hw) h2) hS hc hs hr ht)
theorem w_iadd {x y : Int32} (hd : decode (mdB M) pc = .ok (.iadd, 1)) (kk : WP d M z k n (pc + 1) ls (.int (x + y) :: st) h P) : WP d M z k n pc ls (.int y :: .int x :: st) h P := by
  intro p l e R s m args below meth c D tc A H locs cells slots as ws L sv sb Q hC hI hX hL hS hc hs hr ht
  obtain ⟨_, _, rfl, e0, hS0⟩ := hS.c
  obtain ⟨_, _, rfl, e1, hS1⟩ := hS0.c
  cases e0
  cases e1
  exact lv_iadd hC.1 hC.2.1 hd (kk hC hI hX hL ⟨rfl, hS1⟩ hc hs hr ht)
theorem w_isub {x y : Int32} (hd : decode (mdB M) pc = .ok (.isub, 1)) (kk : WP d M z k n (pc + 1) ls (.int (x - y) :: st) h P) : WP d M z k n pc ls (.int y :: .int x :: st) h P := by
  intro p l e R s m args below meth c D tc A H locs cells slots as ws L sv sb Q hC hI hX hL hS hc hs hr ht
  obtain ⟨_, _, rfl, e0, hS0⟩ := hS.c
  obtain ⟨_, _, rfl, e1, hS1⟩ := hS0.c
  cases e0
  cases e1
  exact lv_isub hC.1 hC.2.1 hd (kk hC hI hX hL ⟨rfl, hS1⟩ hc hs hr ht)
theorem w_imul {x y : Int32} (hd : decode (mdB M) pc = .ok (.imul, 1)) (kk : WP d M z k n (pc + 1) ls (.int (x * y) :: st) h P) : WP d M z k n pc ls (.int y :: .int x :: st) h P := by
  intro p l e R s m args below meth c D tc A H locs cells slots as ws L sv sb Q hC hI hX hL hS hc hs hr ht
  obtain ⟨_, _, rfl, e0, hS0⟩ := hS.c
  obtain ⟨_, _, rfl, e1, hS1⟩ := hS0.c
  cases e0
  cases e1
  exact lv_imul hC.1 hC.2.1 hd (kk hC hI hX hL ⟨rfl, hS1⟩ hc hs hr ht)
theorem w_iand {x y : Int32} (hd : decode (mdB M) pc = .ok (.iand, 1)) (kk : WP d M z k n (pc + 1) ls (.int (x &&& y) :: st) h P) : WP d M z k n pc ls (.int y :: .int x :: st) h P := by
  intro p l e R s m args below meth c D tc A H locs cells slots as ws L sv sb Q hC hI hX hL hS hc hs hr ht
  obtain ⟨_, _, rfl, e0, hS0⟩ := hS.c
  obtain ⟨_, _, rfl, e1, hS1⟩ := hS0.c
  cases e0
  cases e1
  exact lv_iand hC.1 hC.2.1 hd (kk hC hI hX hL ⟨rfl, hS1⟩ hc hs hr ht)
theorem w_ixor {x y : Int32} (hd : decode (mdB M) pc = .ok (.ixor, 1)) (kk : WP d M z k n (pc + 1) ls (.int (x ^^^ y) :: st) h P) : WP d M z k n pc ls (.int y :: .int x :: st) h P := by
  intro p l e R s m args below meth c D tc A H locs cells slots as ws L sv sb Q hC hI hX hL hS hc hs hr ht
  obtain ⟨_, _, rfl, e0, hS0⟩ := hS.c
  obtain ⟨_, _, rfl, e1, hS1⟩ := hS0.c
  cases e0
  cases e1
  exact lv_ixor hC.1 hC.2.1 hd (kk hC hI hX hL ⟨rfl, hS1⟩ hc hs hr ht)
theorem w_idiv {x y : Int32} (hd : decode (mdB M) pc = .ok (.idiv, 1)) (hne : ¬ y = 0) (kk : WP d M z k n (pc + 1) ls (.int (x / y) :: st) h P) : WP d M z k n pc ls (.int y :: .int x :: st) h P := by
  intro p l e R s m args below meth c D tc A H locs cells slots as ws L sv sb Q hC hI hX hL hS hc hs hr ht
  obtain ⟨_, _, rfl, e0, hS0⟩ := hS.c
  obtain ⟨_, _, rfl, e1, hS1⟩ := hS0.c
  cases e0
  cases e1
  exact lv_idiv hC.1 hC.2.1 hd hne (kk hC hI hX hL ⟨rfl, hS1⟩ hc hs hr ht)
theorem w_irem {x y : Int32} (hd : decode (mdB M) pc = .ok (.irem, 1)) (hne : ¬ y = 0) (kk : WP d M z k n (pc + 1) ls (.int (x - x / y * y) :: st) h P) : WP d M z k n pc ls (.int y :: .int x :: st) h P := by
  intro p l e R s m args below meth c D tc A H locs cells slots as ws L sv sb Q hC hI hX hL hS hc hs hr ht
  obtain ⟨_, _, rfl, e0, hS0⟩ := hS.c
  obtain ⟨_, _, rfl, e1, hS1⟩ := hS0.c
  cases e0
  cases e1
  exact lv_irem hC.1 hC.2.1 hd hne (kk hC hI hX hL ⟨rfl, hS1⟩ hc hs hr ht)
theorem w_ineg {x : Int32} (hd : decode (mdB M) pc = .ok (.ineg, 1)) (kk : WP d M z k n (pc + 1) ls (.int (-x) :: st) h P) : WP d M z k n pc ls (.int x :: st) h P := by
  intro p l e R s m args below meth c D tc A H locs cells slots as ws L sv sb Q hC hI hX hL hS hc hs hr ht
  obtain ⟨_, _, rfl, e0, hS0⟩ := hS.c
  cases e0
  exact lv_ineg hC.1 hC.2.1 hd (kk hC hI hX hL ⟨rfl, hS0⟩ hc hs hr ht)
theorem w_ladd {x y : Int64} (hd : decode (mdB M) pc = .ok (.ladd, 1)) (kk : WP d M z k n (pc + 1) ls (.long (x + y) :: st) h P) : WP d M z k n pc ls (.long y :: .long x :: st) h P := by
  intro p l e R s m args below meth c D tc A H locs cells slots as ws L sv sb Q hC hI hX hL hS hc hs hr ht
  obtain ⟨_, _, rfl, e0, hS0⟩ := hS.c
  obtain ⟨_, _, rfl, e1, hS1⟩ := hS0.c
  cases e0
  cases e1
  exact lv_ladd hC.1 hC.2.1 hd (kk hC hI hX hL ⟨rfl, hS1⟩ hc hs hr ht)
theorem w_lmul {x y : Int64} (hd : decode (mdB M) pc = .ok (.lmul, 1)) (kk : WP d M z k n (pc + 1) ls (.long (x * y) :: st) h P) : WP d M z k n pc ls (.long y :: .long x :: st) h P := by
  intro p l e R s m args below meth c D tc A H locs cells slots as ws L sv sb Q hC hI hX hL hS hc hs hr ht
  obtain ⟨_, _, rfl, e0, hS0⟩ := hS.c
  obtain ⟨_, _, rfl, e1, hS1⟩ := hS0.c
  cases e0
  cases e1
  exact lv_lmul hC.1 hC.2.1 hd (kk hC hI hX hL ⟨rfl, hS1⟩ hc hs hr ht)
theorem w_i2l {x : Int32} (hd : decode (mdB M) pc = .ok (.i2l, 1)) (kk : WP d M z k n (pc + 1) ls (.long x.toInt64 :: st) h P) : WP d M z k n pc ls (.int x :: st) h P := by
  intro p l e R s m args below meth c D tc A H locs cells slots as ws L sv sb Q hC hI hX hL hS hc hs hr ht
  obtain ⟨_, _, rfl, e0, hS0⟩ := hS.c
  cases e0
  exact lv_i2l hC.1 hC.2.1 hd rfl (kk hC hI hX hL ⟨rfl, hS0⟩ hc hs hr ht)
theorem w_i2d {x : Int32} (hd : decode (mdB M) pc = .ok (.i2d, 1)) (kk : WP d M z k n (pc + 1) ls (.double (FP.i2d x) :: st) h P) : WP d M z k n pc ls (.int x :: st) h P := by
  intro p l e R s m args below meth c D tc A H locs cells slots as ws L sv sb Q hC hI hX hL hS hc hs hr ht
  obtain ⟨_, _, rfl, e0, hS0⟩ := hS.c
  cases e0
  exact lv_i2d hC.1 hC.2.1 hd (kk hC hI hX hL ⟨rfl, hS0⟩ hc hs hr ht)
theorem w_lcmp {x y : Int64} (hd : decode (mdB M) pc = .ok (.lcmp, 1)) (kk : WP d M z k n (pc + 1) ls (.int (lg_cmp x y) :: st) h P) : WP d M z k n pc ls (.long y :: .long x :: st) h P := by
  intro p l e R s m args below meth c D tc A H locs cells slots as ws L sv sb Q hC hI hX hL hS hc hs hr ht
  obtain ⟨_, _, rfl, e0, hS0⟩ := hS.c
  obtain ⟨_, _, rfl, e1, hS1⟩ := hS0.c
  cases e0
  cases e1
  exact W.lcmp hC.1 hC.2.1 hd (kk hC hI hX hL ⟨rfl, hS1⟩ hc hs hr ht)
theorem w_dcmp {x y : UInt64} {op : CmpOp} (hd : decode (mdB M) pc = .ok (.dcmp op, 1)) (kk : WP d M z k n (pc + 1) ls (.int (Op.cmpValue (FP.dcmp x y) op) :: st) h P) : WP d M z k n pc ls (.double y :: .double x :: st) h P := by
  intro p l e R s m args below meth c D tc A H locs cells slots as ws L sv sb Q hC hI hX hL hS hc hs hr ht
  obtain ⟨_, _, rfl, e0, hS0⟩ := hS.c
  obtain ⟨_, _, rfl, e1, hS1⟩ := hS0.c
  cases e0
  cases e1
  exact lv_dcmp hC.1 hC.2.1 hd (kk hC hI hX hL ⟨rfl, hS1⟩ hc hs hr ht)
theorem w_ddiv {x y : UInt64} (hd : decode (mdB M) pc = .ok (.ddiv, 1)) (hne : vf_n64 (FP.ddiv x y)) (kk : WP d M z k n (pc + 1) ls (.double (FP.ddiv x y) :: st) h P) : WP d M z k n pc ls (.double y :: .double x :: st) h P := by
  intro p l e R s m args below meth c D tc A H locs cells slots as ws L sv sb Q hC hI hX hL hS hc hs hr ht
  obtain ⟨_, _, rfl, e0, hS0⟩ := hS.c
  obtain ⟨_, _, rfl, e1, hS1⟩ := hS0.c
  cases e0
  cases e1
  exact lv_ddiv hC.1 hC.2.1 hd hne (kk hC hI hX hL ⟨rfl, hS1⟩ hc hs hr ht)
theorem okc {as : List Nat} {sb : Nat} {v w : Value} (h : VR as sb v w) (ho : okV v = true) (hu : v ≠ vU) (hw : wide v = false) : w.category = 1 := by
  have h1 := h.cat hu (fun q hq => by
    rw [hq] at ho hu
    have h6 : q ≤ 2 := by simpa [okV] using ho
    have h7 : q ≠ 2 := fun e => hu (by rw [e])
    omega)
  rw [hw] at h1
  exact h1
theorem w_dup {v : Value} (hd : decode (mdB M) pc = .ok (.dup, 1)) (hv : (okV v && !wide v && decide (v ≠ vU)) = true) (kk : WP d M z k n (pc + 1) ls (v :: v :: st) h P) : WP d M z k n pc ls (v :: st) h P := by
  intro p l e R s m args below meth c D tc A H locs cells slots as ws L sv sb Q hC hI hX hL hS hc hs hr ht
  obtain ⟨w, _, rfl, e0, hS0⟩ := hS.c
  simp only [Bool.and_eq_true, Bool.not_eq_true', decide_eq_true_eq] at hv
  exact lv_dup hC.1 hC.2.1 hd (okc e0 hv.1.1 hv.2 hv.1.2) (kk hC hI hX hL ⟨e0, e0, hS0⟩ hc hs hr ht)
theorem w_pop {v : Value} (hd : decode (mdB M) pc = .ok (.pop, 1)) (hv : (okV v && !wide v && decide (v ≠ vU)) = true) (kk : WP d M z k n (pc + 1) ls st h P) : WP d M z k n pc ls (v :: st) h P := by
  intro p l e R s m args below meth c D tc A H locs cells slots as ws L sv sb Q hC hI hX hL hS hc hs hr ht
  obtain ⟨w, _, rfl, e0, hS0⟩ := hS.c
  simp only [Bool.and_eq_true, Bool.not_eq_true', decide_eq_true_eq] at hv
  exact lv_pop hC.1 hC.2.1 hd (okc e0 hv.1.1 hv.2 hv.1.2) (kk hC hI hX hL hS0 hc hs hr ht)
theorem w_dup2 {v u : Value} (hd : decode (mdB M) pc = .ok (.dup2, 1)) (hv : (okV v && !wide v && decide (v ≠ vU)) = true) (hu : (okV u && !wide u && decide (u ≠ vU)) = true) (kk : WP d M z k n (pc + 1) ls (v :: u :: v :: u :: st) h P) : WP d M z k n pc ls (v :: u :: st) h P := by
  intro p l e R s m args below meth c D tc A H locs cells slots as ws L sv sb Q hC hI hX hL hS hc hs hr ht
  obtain ⟨w, _, rfl, e0, hS0⟩ := hS.c
  obtain ⟨w2, _, rfl, e1, hS1⟩ := hS0.c
  simp only [Bool.and_eq_true, Bool.not_eq_true', decide_eq_true_eq] at hv hu
  exact lv_dup2_11 hC.1 hC.2.1 hd (okc e0 hv.1.1 hv.2 hv.1.2) (okc e1 hu.1.1 hu.2 hu.1.2) (kk hC hI hX hL ⟨e0, e1, e0, e1, hS1⟩ hc hs hr ht)
theorem w_if_eq {x : Int32} {off : Int} {tgt : Nat} (hd : decode (mdB M) pc = .ok (.ifCond .eq off, 3)) (ht0 : (pc : Int) + off = (tgt : Int)) (kt : x = 0 → WP d M z k n tgt ls st h P) (kf : ¬ (x = 0) → WP d M z k n (pc + 3) ls st h P) : WP d M z k n pc ls (.int x :: st) h P := by
  intro p l e R s m args below meth c D tc A H locs cells slots as ws L sv sb Q hC hI hX hL hS hc hs hr ht
  obtain ⟨_, _, rfl, e0, hS0⟩ := hS.c
  cases e0
  exact lv_if_eq hC.1 hC.2.1 hd ht0 (fun q => kt q hC hI hX hL hS0 hc hs hr ht) (fun q => kf q hC hI hX hL hS0 hc hs hr ht)
theorem w_icmp_eq {x y : Int32} {off : Int} {tgt : Nat} (hd : decode (mdB M) pc = .ok (.if_icmp .eq off, 3)) (ht0 : (pc : Int) + off = (tgt : Int)) (kt : x = y → WP d M z k n tgt ls st h P) (kf : ¬ (x = y) → WP d M z k n (pc + 3) ls st h P) : WP d M z k n pc ls (.int y :: .int x :: st) h P := by
  intro p l e R s m args below meth c D tc A H locs cells slots as ws L sv sb Q hC hI hX hL hS hc hs hr ht
  obtain ⟨_, _, rfl, e0, hS0⟩ := hS.c
  obtain ⟨_, _, rfl, e1, hS1⟩ := hS0.c
  cases e0
  cases e1
  exact lv_icmp_eq hC.1 hC.2.1 hd ht0 (fun q => kt q hC hI hX hL hS1 hc hs hr ht) (fun q => kf q hC hI hX hL hS1 hc hs hr ht)
theorem w_if_ne {x : Int32} {off : Int} {tgt : Nat} (hd : decode (mdB M) pc = .ok (.ifCond .ne off, 3)) (ht0 : (pc : Int) + off = (tgt : Int)) (kt : ¬ x = 0 → WP d M z k n tgt ls st h P) (kf : x = 0 → WP d M z k n (pc + 3) ls st h P) : WP d M z k n pc ls (.int x :: st) h P := by
  intro p l e R s m args below meth c D tc A H locs cells slots as ws L sv sb Q hC hI hX hL hS hc hs hr ht
  obtain ⟨_, _, rfl, e0, hS0⟩ := hS.c
  cases e0
  exact lv_if_ne hC.1 hC.2.1 hd ht0 (fun q => kt q hC hI hX hL hS0 hc hs hr ht) (fun q => kf q hC hI hX hL hS0 hc hs hr ht)
theorem w_icmp_ne {x y : Int32} {off : Int} {tgt : Nat} (hd : decode (mdB M) pc = .ok (.if_icmp .ne off, 3)) (ht0 : (pc : Int) + off = (tgt : Int)) (kt : ¬ x = y → WP d M z k n tgt ls st h P) (kf : x = y → WP d M z k n (pc + 3) ls st h P) : WP d M z k n pc ls (.int y :: .int x :: st) h P := by
  intro p l e R s m args below meth c D tc A H locs cells slots as ws L sv sb Q hC hI hX hL hS hc hs hr ht
  obtain ⟨_, _, rfl, e0, hS0⟩ := hS.c
  obtain ⟨_, _, rfl, e1, hS1⟩ := hS0.c
  cases e0
  cases e1
  exact lv_icmp_ne hC.1 hC.2.1 hd ht0 (fun q => kt q hC hI hX hL hS1 hc hs hr ht) (fun q => kf q hC hI hX hL hS1 hc hs hr ht)
theorem w_if_lt {x : Int32} {off : Int} {tgt : Nat} (hd : decode (mdB M) pc = .ok (.ifCond .lt off, 3)) (ht0 : (pc : Int) + off = (tgt : Int)) (kt : x < 0 → WP d M z k n tgt ls st h P) (kf : ¬ (x < 0) → WP d M z k n (pc + 3) ls st h P) : WP d M z k n pc ls (.int x :: st) h P := by
  intro p l e R s m args below meth c D tc A H locs cells slots as ws L sv sb Q hC hI hX hL hS hc hs hr ht
  obtain ⟨_, _, rfl, e0, hS0⟩ := hS.c
  cases e0
  exact lv_if_lt hC.1 hC.2.1 hd ht0 (fun q => kt q hC hI hX hL hS0 hc hs hr ht) (fun q => kf q hC hI hX hL hS0 hc hs hr ht)
theorem w_icmp_lt {x y : Int32} {off : Int} {tgt : Nat} (hd : decode (mdB M) pc = .ok (.if_icmp .lt off, 3)) (ht0 : (pc : Int) + off = (tgt : Int)) (kt : x < y → WP d M z k n tgt ls st h P) (kf : ¬ (x < y) → WP d M z k n (pc + 3) ls st h P) : WP d M z k n pc ls (.int y :: .int x :: st) h P := by
  intro p l e R s m args below meth c D tc A H locs cells slots as ws L sv sb Q hC hI hX hL hS hc hs hr ht
  obtain ⟨_, _, rfl, e0, hS0⟩ := hS.c
  obtain ⟨_, _, rfl, e1, hS1⟩ := hS0.c
  cases e0
  cases e1
  exact lv_icmp_lt hC.1 hC.2.1 hd ht0 (fun q => kt q hC hI hX hL hS1 hc hs hr ht) (fun q => kf q hC hI hX hL hS1 hc hs hr ht)
theorem w_if_ge {x : Int32} {off : Int} {tgt : Nat} (hd : decode (mdB M) pc = .ok (.ifCond .ge off, 3)) (ht0 : (pc : Int) + off = (tgt : Int)) (kt : 0 ≤ x → WP d M z k n tgt ls st h P) (kf : ¬ (0 ≤ x) → WP d M z k n (pc + 3) ls st h P) : WP d M z k n pc ls (.int x :: st) h P := by
  intro p l e R s m args below meth c D tc A H locs cells slots as ws L sv sb Q hC hI hX hL hS hc hs hr ht
  obtain ⟨_, _, rfl, e0, hS0⟩ := hS.c
  cases e0
  exact lv_if_ge hC.1 hC.2.1 hd ht0 (fun q => kt q hC hI hX hL hS0 hc hs hr ht) (fun q => kf q hC hI hX hL hS0 hc hs hr ht)
theorem w_icmp_ge {x y : Int32} {off : Int} {tgt : Nat} (hd : decode (mdB M) pc = .ok (.if_icmp .ge off, 3)) (ht0 : (pc : Int) + off = (tgt : Int)) (kt : y ≤ x → WP d M z k n tgt ls st h P) (kf : ¬ (y ≤ x) → WP d M z k n (pc + 3) ls st h P) : WP d M z k n pc ls (.int y :: .int x :: st) h P := by
  intro p l e R s m args below meth c D tc A H locs cells slots as ws L sv sb Q hC hI hX hL hS hc hs hr ht
  obtain ⟨_, _, rfl, e0, hS0⟩ := hS.c
  obtain ⟨_, _, rfl, e1, hS1⟩ := hS0.c
  cases e0
  cases e1
  exact lv_icmp_ge hC.1 hC.2.1 hd ht0 (fun q => kt q hC hI hX hL hS1 hc hs hr ht) (fun q => kf q hC hI hX hL hS1 hc hs hr ht)
theorem w_if_gt {x : Int32} {off : Int} {tgt : Nat} (hd : decode (mdB M) pc = .ok (.ifCond .gt off, 3)) (ht0 : (pc : Int) + off = (tgt : Int)) (kt : 0 < x → WP d M z k n tgt ls st h P) (kf : ¬ (0 < x) → WP d M z k n (pc + 3) ls st h P) : WP d M z k n pc ls (.int x :: st) h P := by
  intro p l e R s m args below meth c D tc A H locs cells slots as ws L sv sb Q hC hI hX hL hS hc hs hr ht
  obtain ⟨_, _, rfl, e0, hS0⟩ := hS.c
  cases e0
  exact lv_if_gt hC.1 hC.2.1 hd ht0 (fun q => kt q hC hI hX hL hS0 hc hs hr ht) (fun q => kf q hC hI hX hL hS0 hc hs hr ht)
theorem w_icmp_gt {x y : Int32} {off : Int} {tgt : Nat} (hd : decode (mdB M) pc = .ok (.if_icmp .gt off, 3)) (ht0 : (pc : Int) + off = (tgt : Int)) (kt : y < x → WP d M z k n tgt ls st h P) (kf : ¬ (y < x) → WP d M z k n (pc + 3) ls st h P) : WP d M z k n pc ls (.int y :: .int x :: st) h P := by
  intro p l e R s m args below meth c D tc A H locs cells slots as ws L sv sb Q hC hI hX hL hS hc hs hr ht
  obtain ⟨_, _, rfl, e0, hS0⟩ := hS.c
  obtain ⟨_, _, rfl, e1, hS1⟩ := hS0.c
  cases e0
  cases e1
  exact lv_icmp_gt hC.1 hC.2.1 hd ht0 (fun q => kt q hC hI hX hL hS1 hc hs hr ht) (fun q => kf q hC hI hX hL hS1 hc hs hr ht)
theorem w_if_le {x : Int32} {off : Int} {tgt : Nat} (hd : decode (mdB M) pc = .ok (.ifCond .le off, 3)) (ht0 : (pc : Int) + off = (tgt : Int)) (kt : x ≤ 0 → WP d M z k n tgt ls st h P) (kf : ¬ (x ≤ 0) → WP d M z k n (pc + 3) ls st h P) : WP d M z k n pc ls (.int x :: st) h P := by
  intro p l e R s m args below meth c D tc A H locs cells slots as ws L sv sb Q hC hI hX hL hS hc hs hr ht
  obtain ⟨_, _, rfl, e0, hS0⟩ := hS.c
  cases e0
  exact lv_if_le hC.1 hC.2.1 hd ht0 (fun q => kt q hC hI hX hL hS0 hc hs hr ht) (fun q => kf q hC hI hX hL hS0 hc hs hr ht)
theorem w_icmp_le {x y : Int32} {off : Int} {tgt : Nat} (hd : decode (mdB M) pc = .ok (.if_icmp .le off, 3)) (ht0 : (pc : Int) + off = (tgt : Int)) (kt : x ≤ y → WP d M z k n tgt ls st h P) (kf : ¬ (x ≤ y) → WP d M z k n (pc + 3) ls st h P) : WP d M z k n pc ls (.int y :: .int x :: st) h P := by
  intro p l e R s m args below meth c D tc A H locs cells slots as ws L sv sb Q hC hI hX hL hS hc hs hr ht
  obtain ⟨_, _, rfl, e0, hS0⟩ := hS.c
  obtain ⟨_, _, rfl, e1, hS1⟩ := hS0.c
  cases e0
  cases e1
  exact lv_icmp_le hC.1 hC.2.1 hd ht0 (fun q => kt q hC hI hX hL hS1 hc hs hr ht) (fun q => kf q hC hI hX hL hS1 hc hs hr ht)
theorem w_goto {off : Int} {tgt : Nat} (hd : decode (mdB M) pc = .ok (.goto off, 3)) (ht0 : (pc : Int) + off = (tgt : Int)) (kk : WP d M z k n tgt ls st h P) : WP d M z k n pc ls st h P := by
  intro p l e R s m args below meth c D tc A H locs cells slots as ws L sv sb Q hC hI hX hL hS hc hs hr ht
  exact lv_goto hC.1 hC.2.1 hd ht0 (kk hC hI hX hL hS hc hs hr ht)
theorem w_tableOut {dflt lo hi : Int} {offs : Array Int} {len : Nat} {x : Int32} {tgt : Nat} (hd : decode (mdB M) pc = .ok (.tableswitch dflt lo hi offs, len)) (h0 : x.toInt < lo ∨ hi < x.toInt) (ht0 : (pc : Int) + dflt = (tgt : Int)) (kk : WP d M z k n tgt ls st h P) : WP d M z k n pc ls (.int x :: st) h P := by
  intro p l e R s m args below meth c D tc A H locs cells slots as ws L sv sb Q hC hI hX hL hS hc hs hr ht
  obtain ⟨_, _, rfl, e0, hS0⟩ := hS.c
  cases e0
  exact lv_tableOut hC.1 hC.2.1 hd h0 ht0 (kk hC hI hX hL hS0 hc hs hr ht)
theorem w_tableIn {dflt lo hi : Int} {offs : Array Int} {len : Nat} {x : Int32} {off : Int} {tgt : Nat} (hd : decode (mdB M) pc = .ok (.tableswitch dflt lo hi offs, len)) (h1 : ¬ x.toInt < lo) (h2 : ¬ hi < x.toInt) (ho : offs[(x.toInt - lo).toNat]? = some off) (ht0 : (pc : Int) + off = (tgt : Int)) (kk : WP d M z k n tgt ls st h P) : WP d M z k n pc ls (.int x :: st) h P := by
  intro p l e R s m args below meth c D tc A H locs cells slots as ws L sv sb Q hC hI hX hL hS hc hs hr ht
  obtain ⟨_, _, rfl, e0, hS0⟩ := hS.c
  cases e0
  exact lv_tableIn hC.1 hC.2.1 hd h1 h2 ho ht0 (kk hC hI hX hL hS0 hc hs hr ht)
end ROWS
