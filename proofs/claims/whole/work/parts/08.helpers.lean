/-! ROWS OF MY OWN over the kit's: a number on the stack by another name; calls with their frame in one row -/
/-- the classes of the arrays: ints, booleans, longs -/
abbrev ty3 (cI cZ cJ : ClassId) : List (ClassId × FieldType) := [(cI, .int), (cZ, .boolean), (cJ, .long)]
theorem hw_z {v : Int32} (h : v = 0 ∨ v = 1) : narrow .boolean (.int v) = .int v := by
  rcases h with rfl | rfl <;> decide +kernel
theorem hw_nar {v : Int32} (h : v = 0 ∨ v = 1) : vp_nar .boolean v = v := by
  rcases h with rfl | rfl <;> decide +kernel
/-- an array's contents by another name -/
theorem hw_cell {cA : ClassId} {n : Nat} {f g : Nat → Int32} (h : ∀ j, j < n → f j = g j) : vp_cell cA (n, .inl f) = vp_cell cA (n, .inl g) := by
  rw [vp_cell_i, vp_cell_i]
  unfold arrV
  congr 1
  apply Array.ext
  · simp
  · intro i h1 h2
    have hi : i < n := by simpa using h1
    simp [h i hi]
theorem hw_arr {D : va_G} {cl : List vw_C} {ws : va_W} {H : Heap} {p a n : Nat} {cA : ClassId} {f g : Nat → Int32} (hp : ws[p]? = some (a, .inl (cA, n, .inl f))) (h : ∀ j, j < n → f j = g j) (hP : va_P D cl ws H) : va_P D cl (ws.set p (a, .inl (cA, n, .inl g))) H := by
  intro k q hk
  by_cases e : p = k
  · subst e
    have hl : p < ws.length := (List.getElem?_eq_some_iff.mp hp).1
    rw [List.getElem?_set_self hl] at hk
    cases hk
    have h1 := hP p _ hp
    show H[a]? = some (vp_cell cA (n, .inl g))
    rw [← hw_cell h]
    exact h1
  · rw [List.getElem?_set_ne e] at hk
    exact hP k q hk
theorem hw_arrD {A : Nat → Prop} {ws : va_W} {p a n : Nat} {cA : ClassId} {f g : Nat → Int32} (hp : ws[p]? = some (a, .inl (cA, n, .inl f))) (hD : va_D A ws) : va_D A (ws.set p (a, .inl (cA, n, .inl g))) := hD.set hp
section HWN
variable {p : Program} {l : Launch} {e : Env} {R : Room} {s : State} {m : MethodId} {args : Array Value} {below : List Frame} {meth : Method} {c : Code} {H : Heap} {locs : List Loc} {cells slots : Nat} {Q : State → Prop}
variable {cc : ByteArray} {pc : Nat} {ls : Array Slot} {rest : List Value} {D : va_G} {cl : List vw_C} {A : Nat → Prop} {tys : List (ClassId × FieldType)} {ws : va_W} {H0 : Heap}
theorem hw_newa (t0 : Nat) (hexec : p.tables.exec = Jvm.exec) (hb : c.code = cc) {atype : ArrayType} (harr : (Cond.arrayClass (newarray.typeOf atype)).before args s = true) {ty : FieldType} (hty : newarray.typeOf atype = ty) (hK : va_K D cl tys s) {cA : ClassId} (ht : tys[t0]? = some (cA, ty)) (hP : va_P D cl ws H) (hD : va_D A ws) (hS : va_S A H0 H locs) (hA : ∀ q, H0.size ≤ q → A q)
    {n : Int32} {N' : Nat} {a0 : vp_A} (ha : ∀ cA : ClassId, vp_cell cA a0 = arrV cA N' (fun _ => defaultValue ty)) (hn : ¬ n < 0) (hN : n.toNatClampNeg = N') (hbytes : N' * componentBytes ty ≤ 536870912) (hcells : cells + 1 ≤ R.cells) (hslots : slots + N' ≤ R.slots) (hdg : decode cc pc = .ok (.newarray atype, 2))
    (kk : ∀ (q : Nat) (H1 : Heap), va_P D cl (ws ++ [(q, .inl (cA, a0))]) H1 → va_D A (ws ++ [(q, .inl (cA, a0))]) → va_S A H0 H1 locs →
      W p l e R s m args below meth c H1 locs (cells + 1) (slots + N') Q (F0 m (pc + 2) ls (.ref q :: rest))) : W p l e R s m args below meth c H locs cells slots Q (F0 m pc ls (.int n :: rest)) := by
  refine va_newa hexec hb harr hty hK hP hD hS hA ha hn hN hbytes hcells hslots hdg (fun q cB H1 hK1 hP1 hD1 hS1 => ?_)
  have h1 := (hK.2 t0 _ ht).2
  have h2 := (hK1.2 tys.length (cB, ty) (by simp)).2
  have e : cB = cA := by
    subst hty
    cases atype <;> exact Option.some.inj (Eq.trans (Eq.symm h2) h1)
  subst e
  exact kk q H1 hP1 hD1 hS1
theorem hw_newi (N' : Nat) (t0 : Nat) (hexec : p.tables.exec = Jvm.exec) (hb : c.code = cc) (harr : (Cond.arrayClass .int).before args s = true) (hK : va_K D cl tys s) {cA : ClassId} (ht : tys[t0]? = some (cA, .int)) (hP : va_P D cl ws H) (hD : va_D A ws) (hS : va_S A H0 H locs) (hA : ∀ q, H0.size ≤ q → A q)
    {n : Int32} (hn : ¬ n < 0) (hN : n.toNatClampNeg = N') (hbytes : N' ≤ 16384) (hcells : cells + 1 ≤ R.cells) (hslots : slots + N' ≤ R.slots) (hdg : decode cc pc = .ok (.newarray .int, 2))
    (kk : ∀ (q : Nat) (H1 : Heap), va_P D cl (ws ++ [(q, .inl (cA, N', .inl (fun _ => 0)))]) H1 → va_D A (ws ++ [(q, .inl (cA, N', .inl (fun _ => 0)))]) → va_S A H0 H1 locs →
      W p l e R s m args below meth c H1 locs (cells + 1) (slots + N') Q (F0 m (pc + 2) ls (.ref q :: rest))) : W p l e R s m args below meth c H locs cells slots Q (F0 m pc ls (.int n :: rest)) :=
  hw_newa (atype := .int) (ty := .int) (a0 := (N', .inl (fun _ => 0))) t0 hexec hb harr rfl hK ht hP hD hS hA (fun cA => rfl) hn hN (by simp only [componentBytes]; omega) hcells hslots hdg kk
theorem hw_newz (N' : Nat) (t0 : Nat) (hexec : p.tables.exec = Jvm.exec) (hb : c.code = cc) (harr : (Cond.arrayClass .boolean).before args s = true) (hK : va_K D cl tys s) {cA : ClassId} (ht : tys[t0]? = some (cA, .boolean)) (hP : va_P D cl ws H) (hD : va_D A ws) (hS : va_S A H0 H locs) (hA : ∀ q, H0.size ≤ q → A q)
    {n : Int32} (hn : ¬ n < 0) (hN : n.toNatClampNeg = N') (hbytes : N' ≤ 16384) (hcells : cells + 1 ≤ R.cells) (hslots : slots + N' ≤ R.slots) (hdg : decode cc pc = .ok (.newarray .boolean, 2))
    (kk : ∀ (q : Nat) (H1 : Heap), va_P D cl (ws ++ [(q, .inl (cA, N', .inl (fun _ => 0)))]) H1 → va_D A (ws ++ [(q, .inl (cA, N', .inl (fun _ => 0)))]) → va_S A H0 H1 locs →
      W p l e R s m args below meth c H1 locs (cells + 1) (slots + N') Q (F0 m (pc + 2) ls (.ref q :: rest))) : W p l e R s m args below meth c H locs cells slots Q (F0 m pc ls (.int n :: rest)) :=
  hw_newa (atype := .boolean) (ty := .boolean) (a0 := (N', .inl (fun _ => 0))) t0 hexec hb harr rfl hK ht hP hD hS hA (fun cA => rfl) hn hN (by simp only [componentBytes]; omega) hcells hslots hdg kk
theorem hw_newl (N' : Nat) (t0 : Nat) (hexec : p.tables.exec = Jvm.exec) (hb : c.code = cc) (harr : (Cond.arrayClass .long).before args s = true) (hK : va_K D cl tys s) {cA : ClassId} (ht : tys[t0]? = some (cA, .long)) (hP : va_P D cl ws H) (hD : va_D A ws) (hS : va_S A H0 H locs) (hA : ∀ q, H0.size ≤ q → A q)
    {n : Int32} (hn : ¬ n < 0) (hN : n.toNatClampNeg = N') (hbytes : N' ≤ 16384) (hcells : cells + 1 ≤ R.cells) (hslots : slots + N' ≤ R.slots) (hdg : decode cc pc = .ok (.newarray .long, 2))
    (kk : ∀ (q : Nat) (H1 : Heap), va_P D cl (ws ++ [(q, .inl (cA, N', .inr (.inl (fun _ => 0))))]) H1 → va_D A (ws ++ [(q, .inl (cA, N', .inr (.inl (fun _ => 0))))]) → va_S A H0 H1 locs →
      W p l e R s m args below meth c H1 locs (cells + 1) (slots + N') Q (F0 m (pc + 2) ls (.ref q :: rest))) : W p l e R s m args below meth c H locs cells slots Q (F0 m pc ls (.int n :: rest)) :=
  hw_newa (atype := .long) (ty := .long) (a0 := (N', .inr (.inl (fun _ => 0)))) t0 hexec hb harr rfl hK ht hP hD hS hA (fun cA => rfl) hn hN (by simp only [componentBytes]; omega) hcells hslots hdg kk
end HWN
section HWA
variable {p : Program} {l : Launch} {e : Env} {R : Room} {s : State} {m : MethodId} {args : Array Value} {below : List Frame} {meth : Method} {c : Code} {H : Heap} {locs : List Loc} {cells slots : Nat} {Q : State → Prop}
variable {pc : Nat} {ls : Array Slot} {rest st0 : List Value} {a : Array Value} {A0 : Nat → Prop} {mc ms : Nat} {D : va_G} {cl : List vw_C} {tys : List (ClassId × FieldType)} {ws wc wr : va_W}
theorem hw_i {x y : Int32} (h : x = y) (k : W p l e R s m args below meth c H locs cells slots Q (F0 m pc ls (.int y :: rest))) : W p l e R s m args below meth c H locs cells slots Q (F0 m pc ls (.int x :: rest)) := by
  rw [h]; exact k
theorem hw_l {x y : Int64} (h : x = y) (k : W p l e R s m args below meth c H locs cells slots Q (F0 m pc ls (.long y :: rest))) : W p l e R s m args below meth c H locs cells slots Q (F0 m pc ls (.long x :: rest)) := by
  rw [h]; exact k
/-- the coder's table, a static row that nobody writes -/
def zt (A : Nat → Prop) (U : State) : Prop := ∃ tb : Nat, va_Z "RefineRegions$States" "TABLE" "[I" (.ref tb) A U U.heap ∧ va_T .int tb 188 (fun j => .int (nI (sp_t j))) A U U.heap
theorem zt.at {B : Nat → Prop} {U : State} (h : zt A0 s) (hS : va_S A0 s.heap H locs) (hU : U.heap = H) (hW : s.WarmedH U.vm) (hB : ∀ q, B q → A0 q) : zt B U := by
  obtain ⟨tb, h1, h2⟩ := h
  have hk : ∀ a : Nat, a < s.heap.size → ¬ A0 a → U.heap[a]? = s.heap[a]? := fun a ha hn => by rw [hU]; exact hS.2.1 a ha hn
  exact ⟨tb, va_Z.moved hW.alike ((h1.kept hk).narrow hB), va_T.moved hW.alike ((h2.kept hk).narrow hB)⟩
theorem zt.blind {U : State} {g : JFrame} {mk : MethodId} {a : Array Value} (h : zt A0 U) : zt A0 (U.calling g mk a) := by
  obtain ⟨tb, h1, h2⟩ := h
  exact ⟨tb, va_Z.moved (u := U) (U := U.calling g mk a) (Vm.Alike.refl U.vm) h1, va_T.moved (u := U) (U := U.calling g mk a) (Vm.Alike.refl U.vm) h2⟩
/-- the start of a method that writes: sz cells, the world ws, the tables -/
def hw_Pre (D : va_G) (cl : List vw_C) (tys : List (ClassId × FieldType)) (ws : va_W) (sz : Nat) (av : List Value) : Array Value → State → Prop := va_Pc av (fun U => U.heap.size = sz ∧ va_P D cl ws U.heap ∧ va_K D cl tys U ∧ nw_ok U ∧ zt (va_A ws sz) U ∧ va_D (fun _ => True) ws)
/-- the start of a method that only reads -/
def hw_Ro (D : va_G) (cl : List vw_C) (tys : List (ClassId × FieldType)) (ws : va_W) (av : List Value) : Array Value → State → Prop := va_Pc av (fun U => va_P D cl ws U.heap ∧ va_K D cl tys U ∧ nw_ok U ∧ zt (fun _ => False) U)
theorem hw_Pre_bl {sz : Nat} {av : List Value} : FrameBlind (hw_Pre D cl tys ws sz av) := fun a U g mk q => by
  obtain ⟨q0, q1, qP, qK, qN, qZ, qD⟩ := q
  exact ⟨q0, q1, qP, va_K.moved (u := U) (U := U.calling g mk a) (Vm.Alike.refl U.vm) qK, nw_ok.same (u := U) (U := U.calling g mk a) rfl qN, qZ.blind, qD⟩
theorem hw_Ro_bl {av : List Value} : FrameBlind (hw_Ro D cl tys ws av) := fun a U g mk q => by
  obtain ⟨q0, qP, qK, qN, qZ⟩ := q
  exact ⟨q0, qP, va_K.moved (u := U) (U := U.calling g mk a) (Vm.Alike.refl U.vm) qK, nw_ok.same (u := U) (U := U.calling g mk a) rfl qN, qZ.blind⟩
theorem hw_map_sub {is : List Nat} {w w' : va_W} (h : is.map (fun i => w[i]?) = w'.map some) : is.filterMap (fun i => w[i]?) = w' := by
  have h2 : (is.map (fun i => w[i]?)).filterMap id = w' := by rw [h]; simp
  rw [List.filterMap_map] at h2
  exact h2
/-- what holds all along a walk: the tables of the start -/
def hw_K (D : va_G) (cl : List vw_C) (tys : List (ClassId × FieldType)) (A : Nat → Prop) (U : State) : Prop := va_K D cl tys U ∧ nw_ok U ∧ zt A U
/-- the callee's start out of the caller's world -/
theorem hw_pre {av : List Value} (hP : va_P D cl ws H) (hD : va_D A0 ws) (hS : va_S A0 s.heap H locs) (hA : ∀ q, s.heap.size ≤ q → A0 q) (hk : hw_K D cl tys A0 s) (isC : List Nat) (hn : va_nd isC = true) (hC : isC.map (fun i => ws[i]?) = wc.map some) : PreS s H (hw_Pre D cl tys wc H.size av) av :=
  ⟨hw_Pre_bl, fun U hU hW => ⟨rfl, by rw [hU], by rw [hU]; exact hP.sub isC (hw_map_sub hC), va_K.moved hW.alike hk.1, hk.2.1.warm hW, hk.2.2.at hS hU hW (va_free (wc := wc) hD hS hA isC hC), (hD.sub isC hn hC).weaken (fun _ _ _ _ => trivial)⟩⟩
theorem hw_ro {av : List Value} (hP : va_P D cl ws H) (hS : va_S A0 s.heap H locs) (hk : hw_K D cl tys A0 s) (isC : List Nat) (hC : isC.filterMap (fun i => ws[i]?) = wc) : PreS s H (hw_Ro D cl tys wc av) av :=
  ⟨hw_Ro_bl, fun U hU hW => ⟨rfl, by rw [hU]; exact hP.sub isC hC, va_K.moved hW.alike hk.1, hk.2.1.warm hW, hk.2.2.at hS hU hW (fun _ h => h.elim)⟩⟩
/-- for a receiver: the same with its class -/
theorem hw_preV {av : List Value} {b ci q0 : Nat} {q : vw_C} {fs : List Value} (hP : va_P D cl ws H) (hD : va_D A0 ws) (hS : va_S A0 s.heap H locs) (hA : ∀ q, s.heap.size ≤ q → A0 q) (hk : hw_K D cl tys A0 s) (isC : List Nat) (hn : va_nd isC = true) (hC : isC.map (fun i => ws[i]?) = wc.map some) (hc : cl[ci]? = some q) (he : ws[q0]? = some (b, .inr (ci, fs))) : PreV s H q.1 b (hw_Pre D cl tys wc H.size (.ref b :: av)) av :=
  ⟨hw_Pre_bl, va_recv hk.1 hP hc he, (hw_pre hP hD hS hA hk isC hn hC).2⟩
theorem hw_roV {av : List Value} {b ci q0 : Nat} {q : vw_C} {fs : List Value} (hP : va_P D cl ws H) (hS : va_S A0 s.heap H locs) (hk : hw_K D cl tys A0 s) (isC : List Nat) (hC : isC.filterMap (fun i => ws[i]?) = wc) (hc : cl[ci]? = some q) (he : ws[q0]? = some (b, .inr (ci, fs))) : PreV s H q.1 b (hw_Ro D cl tys wc (.ref b :: av)) av :=
  ⟨hw_Ro_bl, va_recv hk.1 hP hc he, (hw_ro hP hS hk isC hC).2⟩
/-- the world behind a method -/
def hw_at (D : va_G) (cl : List vw_C) (tys : List (ClassId × FieldType)) {S : Type} (wn : S → va_W) (A : Nat → Prop) (u : S) (t : State) : Prop := va_P D cl (wn u) t.heap ∧ va_K D cl tys t ∧ va_D A (wn u)
theorem hw_callv {S : Type} {post : S → Prop} {wn w2 : S → va_W} (hr : va_Run p l e R s m args below meth c H locs cells slots mc ms (F0 m pc ls st0) rest (va_Qv post (hw_at D cl tys wn (va_A wc H.size)) (va_A wc H.size) a) (va_A wc H.size)) (hP : va_P D cl ws H) (hD : va_D A0 ws) (hS : va_S A0 s.heap H locs) (hA : ∀ q, s.heap.size ≤ q → A0 q)
    (isC isR isB : List Nat) (hC : isC.map (fun i => ws[i]?) = wc.map some) (hR : isR.map (fun i => ws[i]?) = wr.map some) (hn : va_nd isR = true) (hdis : ∀ i ∈ isR, i ∉ isC) (hnB : va_nd isB = true) (hB : ∀ u, isB.map (fun i => (wr ++ wn u)[i]?) = (w2 u).map some)
    (kk : ∀ (u : S) (H : Heap) (locs : List Loc), post u → va_P D cl (w2 u) H → va_D A0 (w2 u) → va_S A0 s.heap H locs → W p l e R s m args below meth c H locs (cells + mc) (slots + ms) Q (F0 m (pc + 3) ls rest)) : W p l e R s m args below meth c H locs cells slots Q (F0 m pc ls st0) := by
  have hF := va_free (wc := wc) hD hS hA isC hC
  refine va_callv hr hS (fun q _ h => hF q h) hF (fun u t H1 locs1 ht hvm hw hB1 hz1 hk1 hS1 => ?_)
  obtain ⟨hP1, hK1, hD1⟩ := hB1
  rw [ht] at hP1
  obtain ⟨hP2, hD2⟩ := va_join (wr := wr) (w1 := wn u) hP hD isC isR hC hR hn hdis hk1 hF hP1 hD1
  exact kk u H1 locs1 hw (hP2.sub isB (hw_map_sub (hB u))) (hD2.sub isB hnB (hB u)) hS1
theorem hw_calli {S : Type} {post : Int32 → S → Prop} {wn w2 : S → va_W} (hr : va_Run p l e R s m args below meth c H locs cells slots mc ms (F0 m pc ls st0) rest (va_Qi post (hw_at D cl tys wn (va_A wc H.size)) (va_A wc H.size) a) (va_A wc H.size)) (hP : va_P D cl ws H) (hD : va_D A0 ws) (hS : va_S A0 s.heap H locs) (hA : ∀ q, s.heap.size ≤ q → A0 q)
    (isC isR isB : List Nat) (hC : isC.map (fun i => ws[i]?) = wc.map some) (hR : isR.map (fun i => ws[i]?) = wr.map some) (hn : va_nd isR = true) (hdis : ∀ i ∈ isR, i ∉ isC) (hnB : va_nd isB = true) (hB : ∀ u, isB.map (fun i => (wr ++ wn u)[i]?) = (w2 u).map some)
    (kk : ∀ (r : Int32) (u : S) (H : Heap) (locs : List Loc), post r u → va_P D cl (w2 u) H → va_D A0 (w2 u) → va_S A0 s.heap H locs → W p l e R s m args below meth c H locs (cells + mc) (slots + ms) Q (F0 m (pc + 3) ls (.int r :: rest))) : W p l e R s m args below meth c H locs cells slots Q (F0 m pc ls st0) := by
  have hF := va_free (wc := wc) hD hS hA isC hC
  refine va_calli hr hS (fun q _ h => hF q h) hF (fun r u t H1 locs1 ht hvm hw hB1 hz1 hk1 hS1 => ?_)
  obtain ⟨hP1, hK1, hD1⟩ := hB1
  rw [ht] at hP1
  obtain ⟨hP2, hD2⟩ := va_join (wr := wr) (w1 := wn u) hP hD isC isR hC hR hn hdis hk1 hF hP1 hD1
  exact kk r u H1 locs1 hw (hP2.sub isB (hw_map_sub (hB u))) (hD2.sub isB hnB (hB u)) hS1
/-- a call that only reads -/
theorem hw_callSi {post : Int32 → Prop} (hr : va_Run p l e R s m args below meth c H locs cells slots 0 0 (F0 m pc ls st0) rest (vp_Si post a) (fun _ => False))
    (kk : ∀ r : Int32, post r → W p l e R s m args below meth c H locs cells slots Q (F0 m (pc + 3) ls (.int r :: rest))) : W p l e R s m args below meth c H locs cells slots Q (F0 m pc ls st0) := vp_callSi hr.run kk
theorem hw_callSe {v : Int32} (hr : va_Run p l e R s m args below meth c H locs cells slots 0 0 (F0 m pc ls st0) rest (vp_Si (fun r => r = v) a) (fun _ => False))
    (kk : W p l e R s m args below meth c H locs cells slots Q (F0 m (pc + 3) ls (.int v :: rest))) : W p l e R s m args below meth c H locs cells slots Q (F0 m pc ls st0) := vp_callSi hr.run (fun r h => by rw [h]; exact kk)
theorem hw_calle {S : Type} {v : Int32} {wn w2 : S → va_W} (hr : va_Run p l e R s m args below meth c H locs cells slots mc ms (F0 m pc ls st0) rest (va_Qi (fun r _ => r = v) (hw_at D cl tys wn (va_A wc H.size)) (va_A wc H.size) a) (va_A wc H.size)) (hP : va_P D cl ws H) (hD : va_D A0 ws) (hS : va_S A0 s.heap H locs) (hA : ∀ q, s.heap.size ≤ q → A0 q)
    (isC isR isB : List Nat) (hC : isC.map (fun i => ws[i]?) = wc.map some) (hR : isR.map (fun i => ws[i]?) = wr.map some) (hn : va_nd isR = true) (hdis : ∀ i ∈ isR, i ∉ isC) (hnB : va_nd isB = true) (hB : ∀ u, isB.map (fun i => (wr ++ wn u)[i]?) = (w2 u).map some)
    (kk : ∀ (u : S) (H : Heap) (locs : List Loc), va_P D cl (w2 u) H → va_D A0 (w2 u) → va_S A0 s.heap H locs → W p l e R s m args below meth c H locs (cells + mc) (slots + ms) Q (F0 m (pc + 3) ls (.int v :: rest))) : W p l e R s m args below meth c H locs cells slots Q (F0 m pc ls st0) :=
  hw_calli hr hP hD hS hA isC isR isB hC hR hn hdis hnB hB (fun r u H locs h1 h2 h3 h4 => by rw [h1]; exact kk u H locs h2 h3 h4)
end HWA
