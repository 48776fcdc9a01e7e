/-! What a throw of the class needs of the tables, carried along; contracts of methods that throw and change nothing -/
section XT
def xt_N : List String := ["java/lang/RuntimeException", "java/lang/Exception"]
def xt_W : List Cond := (vx_atS RX7 86 "java/lang/IllegalArgumentException" ["java/lang/RuntimeException", "java/lang/Exception"]).filter (fun w => !goodWord w) ++ (vx_atS RX7 217 "java/lang/IllegalStateException" ["java/lang/RuntimeException", "java/lang/Exception"]).filter (fun w => !goodWord w) ++ (vx_atS RX7 112 "java/lang/IndexOutOfBoundsException" ["java/lang/RuntimeException", "java/lang/Exception"]).filter (fun w => !goodWord w)
def xt_dc : Cond → Bool
  | .declares _ => true
  | .castable _ _ => true
  | _ => false
theorem xt_W_dc : ∀ w ∈ xt_W, xt_dc w = true := by decide +kernel
theorem xt_W_on : ∀ w ∈ xt_W, w.onTables = true := by decide +kernel
def xt_S : List (Nat × String) := [(84, "width and height are 1 to 40"), (89, "the template is 0 or 1"), (110, "no such pixel in the picture"), (121, "width and height are 1 to 60"), (215, "there is no reference"), (132, "no such pixel in the reference"), (134, "an offset is -20 to 20"), (136, "an adaptive place is 0 or 1"), (144, "the adaptive place cannot be there"), (165, "1 to 8 bytes come at once"), (205, "what is told is 0 to 5"), (207, "a context is 0 to 8191")]
theorem xt_warm1 {w : Cond} {s U : State} (hd : xt_dc w = true) (hW : s.WarmedH U.vm) (h : va_Nw w s) : va_Nw w U := by
  cases w <;> first | exact va_Nw.warmD hW h | exact va_Nw.warmC hW h | (cases hd)
def xt (A : Nat → Prop) (U : State) : Prop := (∀ w ∈ xt_W, va_Nw w U) ∧ (∀ q ∈ xt_S, ∃ sa, vk_R RX7 q.1 q.2 sa U) ∧ vx_Zq Bundle.tN "UNASSIGNED_STACK" Bundle.steD A U U.heap ∧ vx_Zq Bundle.tN "SUPPRESSED_SENTINEL" Bundle.listD A U U.heap ∧ va_Nc "java/lang/IndexOutOfBoundsException" "java/lang/IllegalStateException" U ∧ va_Nc "java/lang/IllegalArgumentException" "java/lang/IllegalStateException" U
theorem xt.at {A0 B : Nat → Prop} {s U : State} {H : Heap} {locs : List Loc} (h : xt A0 s) (hS : va_S A0 s.heap H locs) (hU : U.heap = H) (hW : s.WarmedH U.vm) (hB : ∀ q, B q → A0 q) : xt B U := by
  obtain ⟨h1, h2, h3, h4, h5, h6⟩ := h
  have hk : ∀ a : Nat, a < s.heap.size → ¬ A0 a → U.heap[a]? = s.heap[a]? := fun a ha hn => by rw [hU]; exact hS.2.1 a ha hn
  refine ⟨fun w hw => xt_warm1 (xt_W_dc w hw) hW (h1 w hw), fun q hq => ?_, vx_Zq.moved hW.alike ((h3.kept hk).narrow hB), vx_Zq.moved hW.alike ((h4.kept hk).narrow hB), h5.moved hW.alike, h6.moved hW.alike⟩
  obtain ⟨sa, hsa⟩ := h2 q hq
  exact ⟨sa, vk_R.warm hW hsa⟩
theorem xt.blind {A0 : Nat → Prop} {U : State} {g : JFrame} {mk : MethodId} {a : Array Value} (h : xt A0 U) : xt A0 (U.calling g mk a) := by
  obtain ⟨h1, h2, h3, h4, h5, h6⟩ := h
  have al : U.vm.Alike (U.calling g mk a).vm := Vm.Alike.refl U.vm
  refine ⟨fun w hw => va_Nw.same (u := U) (U := U.calling g mk a) (xt_W_on w hw) rfl (h1 w hw), fun q hq => ?_, vx_Zq.moved (u := U) al h3, vx_Zq.moved (u := U) al h4, va_Nc.moved (u := U) al h5, va_Nc.moved (u := U) al h6⟩
  obtain ⟨sa, hsa⟩ := h2 q hq
  exact ⟨sa, vk_R.same (u := U) (U := U.calling g mk a) rfl hsa⟩
/-- the words of one class of exception: the good ones of the method's list, the others carried -/
theorem xt_hat {A : Nat → Prop} {args : Array Value} {s : State} {Ts L : List Cond} (hX : xt A s) (hts : ∀ w ∈ Ts, w.before args s = true) (h1 : ∀ w ∈ L.filter goodWord, w ∈ Ts) (h2 : ∀ w ∈ L.filter (fun w => !goodWord w), w ∈ xt_W) : ∀ w ∈ L, w.before args s = true :=
  vx_hat (B := xt_W) (fun w hw => hts w (h1 w hw)) h2 (fun w hw => va_Nw.use (xt_W_on w hw) (hX.1 w hw))
theorem xt_2a : ∀ w ∈ (vx_atS RX7 86 "java/lang/IllegalArgumentException" ["java/lang/RuntimeException", "java/lang/Exception"]).filter (fun w => !goodWord w), w ∈ xt_W := fun _ h => List.mem_append_left _ (List.mem_append_left _ h)
theorem xt_2s : ∀ w ∈ (vx_atS RX7 217 "java/lang/IllegalStateException" ["java/lang/RuntimeException", "java/lang/Exception"]).filter (fun w => !goodWord w), w ∈ xt_W := fun _ h => List.mem_append_left _ (List.mem_append_right _ h)
theorem xt_2i : ∀ w ∈ (vx_atS RX7 112 "java/lang/IndexOutOfBoundsException" ["java/lang/RuntimeException", "java/lang/Exception"]).filter (fun w => !goodWord w), w ∈ xt_W := fun _ h => List.mem_append_right _ h
theorem xt_ga : ∀ w ∈ Cond.classLink RX7 82 "java/lang/IllegalArgumentException" :: Cond.initialized "java/lang/IllegalArgumentException" :: vx_atS RX7 86 "java/lang/IllegalArgumentException" ["java/lang/RuntimeException", "java/lang/Exception"], vx_ot w = true := by decide +kernel
theorem xt_gs : ∀ w ∈ Cond.classLink RX7 213 "java/lang/IllegalStateException" :: Cond.initialized "java/lang/IllegalStateException" :: vx_atS RX7 217 "java/lang/IllegalStateException" ["java/lang/RuntimeException", "java/lang/Exception"], vx_ot w = true := by decide +kernel
theorem xt_gi : ∀ w ∈ Cond.classLink RX7 108 "java/lang/IndexOutOfBoundsException" :: Cond.initialized "java/lang/IndexOutOfBoundsException" :: vx_atS RX7 112 "java/lang/IndexOutOfBoundsException" ["java/lang/RuntimeException", "java/lang/Exception"], vx_ot w = true := by decide +kernel
variable {p : Program} {l : Launch} {e : Env} {R : Room} {s : State} {m : MethodId} {args : Array Value} {below : List Frame} {meth : Method} {c : Code} {H : Heap} {locs : List Loc} {cells slots : Nat} {Q : State → Prop} {mc ms : Nat} {A0 : Nat → Prop} {a : Array Value} {ls : Array Slot} {st0 rest : List Value} {pc : Nat} {D : va_G} {cl : List vw_C} {tys : List (ClassId × FieldType)} {ws wc wr : va_W}
/-- the start of a method that only reads, and may throw -/
def hw_RoX (D : va_G) (cl : List vw_C) (tys : List (ClassId × FieldType)) (ws : va_W) (av : List Value) : Array Value → State → Prop := va_Pc av (fun U => va_P D cl ws U.heap ∧ va_K D cl tys U ∧ nw_ok U ∧ zt (fun _ => False) U ∧ xt (fun _ => False) U)
theorem hw_RoX_bl {av : List Value} : FrameBlind (hw_RoX D cl tys ws av) := fun a U g mk q => by
  obtain ⟨q0, qP, qK, qN, qZ, qX⟩ := q
  exact ⟨q0, qP, va_K.moved (u := U) (U := U.calling g mk a) (Vm.Alike.refl U.vm) qK, nw_ok.same (u := U) (U := U.calling g mk a) rfl qN, qZ.blind, qX.blind⟩
theorem hw_roX {av : List Value} (hP : va_P D cl ws H) (hS : va_S A0 s.heap H locs) (hk : hw_K D cl tys A0 s) (hX : xt A0 s) (isC : List Nat) (hC : isC.filterMap (fun i => ws[i]?) = wc) : PreS s H (hw_RoX D cl tys wc av) av :=
  ⟨hw_RoX_bl, fun U hU hW => ⟨rfl, by rw [hU]; exact hP.sub isC hC, va_K.moved hW.alike hk.1, hk.2.1.warm hW, hk.2.2.at hS hU hW (fun _ h => h.elim), hX.at hS hU hW (fun _ h => h.elim)⟩⟩
theorem hw_roXV {av : List Value} {b ci q0 : Nat} {q : vw_C} {fs : List Value} (hP : va_P D cl ws H) (hS : va_S A0 s.heap H locs) (hk : hw_K D cl tys A0 s) (hX : xt A0 s) (isC : List Nat) (hC : isC.filterMap (fun i => ws[i]?) = wc) (hc : cl[ci]? = some q) (he : ws[q0]? = some (b, .inr (ci, fs))) : PreV s H q.1 b (hw_RoX D cl tys wc (.ref b :: av)) av :=
  ⟨hw_RoX_bl, va_recv hk.1 hP hc he, (hw_roX hP hS hk hX isC hC).2⟩
/-- it throws E and has changed nothing -/
def hw_X (E : String) : String → State → State → Prop := vx_X (fun _ : Unit => True) (fun F _ _ => F = E) (fun _ => False)
def hw_Nv : Array Value → State → Outcome → State → Prop := va_Qv (fun _ : Unit => False) (fun _ _ => True) (fun _ => False)
def hw_Ni : Array Value → State → Outcome → State → Prop := va_Qi (fun _ (_ : Unit) => False) (fun _ _ => True) (fun _ => False)
/-- behind a call that throws: E, the world as it was -/
theorem hw_callXv {E : String} (hr : vx_Run p l e R s m args below meth c H locs cells slots mc ms (F0 m pc ls st0) rest (hw_Nv a) (hw_X E) (fun _ => False)) (hP : va_P D cl ws H) (hS : va_S A0 s.heap H locs)
    (kx : ∀ (ce : Cell) (q9 : Addr) (H1 : Heap) (locs1 : List Loc), va_P D cl ws H1 → va_S A0 s.heap H1 locs1 → H.size ≤ H1.size → (∀ q : Nat, q < H.size → H1[q]? = H[q]?) → H1[q9]? = some ce → ce.vm = .none → s.vm.findClass E = some ce.cls → vx_W p l e R s m args below meth c H1 locs1 (cells + mc) (slots + ms) Q (F0 m pc ls rest) q9) : W p l e R s m args below meth c H locs cells slots Q (F0 m pc ls st0) := by
  refine vx_callv hr hS (fun q _ h => h.elim) (fun q h => h.elim) (fun q _ h => h.elim) (fun F ce q9 u t H1 locs1 ht hvm hp hB hz hq hS1 hc hv hcl => ?_) (fun u t H1 locs1 ht hvm hp => hp.elim)
  have hF : F = E := hB
  rw [hF] at hcl
  exact kx ce q9 H1 locs1 (hP.kept (fun k q hk => hq q.1 (vx_lt hP hk) (fun h => h))) hS1 hz (fun q h => hq q h (fun h => h)) hc hv hcl
theorem hw_callXi {E : String} (hr : vx_Run p l e R s m args below meth c H locs cells slots mc ms (F0 m pc ls st0) rest (hw_Ni a) (hw_X E) (fun _ => False)) (hP : va_P D cl ws H) (hS : va_S A0 s.heap H locs)
    (kx : ∀ (ce : Cell) (q9 : Addr) (H1 : Heap) (locs1 : List Loc), va_P D cl ws H1 → va_S A0 s.heap H1 locs1 → H.size ≤ H1.size → (∀ q : Nat, q < H.size → H1[q]? = H[q]?) → H1[q9]? = some ce → ce.vm = .none → s.vm.findClass E = some ce.cls → vx_W p l e R s m args below meth c H1 locs1 (cells + mc) (slots + ms) Q (F0 m pc ls rest) q9) : W p l e R s m args below meth c H locs cells slots Q (F0 m pc ls st0) := by
  refine vx_calli hr hS (fun q _ h => h.elim) (fun q h => h.elim) (fun q _ h => h.elim) (fun F ce q9 u t H1 locs1 ht hvm hp hB hz hq hS1 hc hv hcl => ?_) (fun r u t H1 locs1 ht hvm hp => hp.elim)
  have hF : F = E := hB
  rw [hF] at hcl
  exact kx ce q9 H1 locs1 (hP.kept (fun k q hk => hq q.1 (vx_lt hP hk) (fun h => h))) hS1 hz (fun q h => hq q h (fun h => h)) hc hv hcl
/-- a call that answers v, makes something new, and leaves the world as it was -/
theorem hw_callN {v : Int32} (hr : va_Run p l e R s m args below meth c H locs cells slots mc ms (F0 m pc ls st0) rest (va_Qi (fun r (_ : Unit) => r = v) (fun _ _ => True) (fun _ => False) a) (fun _ => False)) (hP : va_P D cl ws H) (hS : va_S A0 s.heap H locs)
    (kk : ∀ (H : Heap) (locs : List Loc), va_P D cl ws H → va_S A0 s.heap H locs → W p l e R s m args below meth c H locs (cells + mc) (slots + ms) Q (F0 m (pc + 3) ls (.int v :: rest))) : W p l e R s m args below meth c H locs cells slots Q (F0 m pc ls st0) := by
  refine va_calli hr hS (fun q _ h => h.elim) (fun q h => h.elim) (fun r u t H1 locs1 ht hvm hp hB hz hq hS1 => ?_)
  rw [hp]
  exact kk H1 locs1 (hP.kept (fun k q hk => hq q.1 (vx_lt hP hk) (fun h => h))) hS1
end XT
