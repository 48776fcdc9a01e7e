theorem sp_iw_out5 {x : Int32} (h : sp_iw x 0 5 = 0) : x.toInt < 0 ∨ 5 < x.toInt := by
  rcases Int.lt_or_le x.toInt 0 with q | q
  · exact Or.inl q
  · refine Or.inr (Int.not_le.mp (fun q2 => sp_iw_f h ?_ ?_))
    · rw [Int32.lt_iff_toInt_lt, show (0 : Int32).toInt = 0 from by decide]; omega
    · rw [Int32.lt_iff_toInt_lt, show (5 : Int32).toInt = 5 from by decide]; omega
section XT2
variable {p : Program} {l : Launch} {e : Env} {R : Room} {s : State} {m : MethodId} {args : Array Value} {below : List Frame} {meth : Method} {c : Code} {H : Heap} {locs : List Loc} {cells slots : Nat} {Q : State → Prop} {mc ms : Nat} {A0 : Nat → Prop} {a : Array Value} {ls : Array Slot} {st0 rest : List Value} {pc : Nat} {D : va_G} {cl : List vw_C} {ws : va_W}
theorem hw_callNv (hr : va_Run p l e R s m args below meth c H locs cells slots mc ms (F0 m pc ls st0) rest (va_Qv (fun _ : Unit => True) (fun _ _ => True) (fun _ => False) a) (fun _ => False)) (hP : va_P D cl ws H) (hS : va_S A0 s.heap H locs)
    (kk : ∀ (H : Heap) (locs : List Loc), va_P D cl ws H → va_S A0 s.heap H locs → W p l e R s m args below meth c H locs (cells + mc) (slots + ms) Q (F0 m (pc + 3) ls rest)) : W p l e R s m args below meth c H locs cells slots Q (F0 m pc ls st0) := by
  refine va_callv hr hS (fun q _ h => h.elim) (fun q h => h.elim) (fun u t H1 locs1 ht hvm hp hB hz hq hS1 => ?_)
  exact kk H1 locs1 (hP.kept (fun k q hk => hq q.1 (vx_lt hP hk) (fun h => h))) hS1
end XT2
theorem xm_X7_requireReference_s : ∀ w ∈ (vx_atS RX7 217 "java/lang/IllegalStateException" ["java/lang/RuntimeException", "java/lang/Exception"]).filter goodWord, w ∈ wsX7_requireReference := fun w h => List.mem_cons_of_mem _ (List.mem_append_right _ h)
theorem xm_X7_shape_a : ∀ w ∈ (vx_atS RX7 86 "java/lang/IllegalArgumentException" ["java/lang/RuntimeException", "java/lang/Exception"]).filter goodWord, w ∈ wsX7_shape := fun w h => List.mem_cons_of_mem _ (List.mem_append_right _ h)
theorem xm_X7_put_i : ∀ w ∈ (vx_atS RX7 112 "java/lang/IndexOutOfBoundsException" ["java/lang/RuntimeException", "java/lang/Exception"]).filter goodWord, w ∈ wsX7_put := fun w h => List.mem_cons_of_mem _ (List.mem_append_right _ h)
theorem xm_X7_reference_a : ∀ w ∈ (vx_atS RX7 86 "java/lang/IllegalArgumentException" ["java/lang/RuntimeException", "java/lang/Exception"]).filter goodWord, w ∈ wsX7_reference := fun w h => List.mem_cons_of_mem _ (List.mem_append_right _ h)
theorem xm_X7_refer_i : ∀ w ∈ (vx_atS RX7 112 "java/lang/IndexOutOfBoundsException" ["java/lang/RuntimeException", "java/lang/Exception"]).filter goodWord, w ∈ wsX7_refer := fun w h => List.mem_cons_of_mem _ (List.mem_append_left _ (List.mem_append_right _ h))
theorem xm_X7_offset_a : ∀ w ∈ (vx_atS RX7 86 "java/lang/IllegalArgumentException" ["java/lang/RuntimeException", "java/lang/Exception"]).filter goodWord, w ∈ wsX7_offset := fun w h => List.mem_cons_of_mem _ (List.mem_append_left _ (List.mem_append_right _ h))
theorem xm_X7_context_i : ∀ w ∈ (vx_atS RX7 112 "java/lang/IndexOutOfBoundsException" ["java/lang/RuntimeException", "java/lang/Exception"]).filter goodWord, w ∈ wsX7_context := fun w h => List.mem_cons_of_mem _ (List.mem_append_left _ (List.mem_append_right _ h))
theorem xm_X7_adaptive_a : ∀ w ∈ (vx_atS RX7 86 "java/lang/IllegalArgumentException" ["java/lang/RuntimeException", "java/lang/Exception"]).filter goodWord, w ∈ wsX7_adaptive := fun w h => List.mem_cons_of_mem _ (List.mem_append_right _ h)
theorem xm_X7_feed_a : ∀ w ∈ (vx_atS RX7 86 "java/lang/IllegalArgumentException" ["java/lang/RuntimeException", "java/lang/Exception"]).filter goodWord, w ∈ wsX7_feed := fun w h => List.mem_cons_of_mem _ (List.mem_append_right _ h)
theorem xm_X7_state_a : ∀ w ∈ (vx_atS RX7 86 "java/lang/IllegalArgumentException" ["java/lang/RuntimeException", "java/lang/Exception"]).filter goodWord, w ∈ wsX7_state := fun w h => List.mem_cons_of_mem _ (List.mem_append_right _ h)
theorem xm_X7_told_a : ∀ w ∈ (vx_atS RX7 86 "java/lang/IllegalArgumentException" ["java/lang/RuntimeException", "java/lang/Exception"]).filter goodWord, w ∈ wsX7_told := fun w h => List.mem_cons_of_mem _ (List.mem_append_right _ h)
set_option maxHeartbeats 4000000 in
set_option maxRecDepth 100000 in
/-- requireReference(), where there is none -/
theorem t_X7_requireReference (l : Launch) (dC : Nat → ClassId) (dI : Nat → Nat → Nat) (cI cZ cJ : ClassId) (hO : Nat) (a1 : Nat) (a2 : Nat) (a3 : Nat) (a4 : Nat) (a5 : Nat) (a6 : Nat) (a7 : Nat) (a8 : Nat) (a9 : Nat) (a10 : Nat) (a11 : Nat) (a12 : Nat) (a13 : Nat) (a14 : Nat) (a15 : Nat) (tb : Bool) (kb : Bool) (sfb : Bool) (dx : Int32) (dy : Int32) (tp : Int32) (p0 : Int32) (q0 : Int32) (p1 : Int32) (q1 : Int32) (rl : Int32) (sk : Nat) (tr : Nat) (co : Nat) (w : Nat) (h : Nat) (fw : Nat) (fh : Nat) (rwd : Nat) (rht : Nat) (k : Nat) (wa : Nat) (wc : Nat) (wt : Nat) (ra : Nat) (b : Nat) (pf : Nat → Int32) (ff : Nat → Int32) (rg : Nat → Int32) (f : Nat → Int32) (rc : Int64) (SW : Nat → Nat) (SR : Nat → Nat) (hl0 : l.stackTraces = false) : vx_Met l yX7_requireReference wsX7_requireReference ({ frames := 6, cells := 1, slots := 6, locals := 90 }) (hw_RoX (dC, dI) vwCl (ty3 cI cZ cJ) [(hO, .inr (6, [.ref a1, .ref a3, .ref a5, .ref a8, .ref a10, .ref a13, .int (sp_z tb), .int (sp_z kb), .int (sp_z false), .int (sp_z sfb), .int (nI sk), .int (nI tr), .int (nI co)])), (a1, .inr (0, [.int (nI 40), .ref a2, .int (nI w), .int (nI h)])), (a2, .inl (cI, 40 * 40, .inl pf)), (a3, .inr (0, [.int (nI 40), .ref a4, .int (nI fw), .int (nI fh)])), (a4, .inl (cI, 40 * 40, .inl ff)), (a5, .inr (4, [.ref a6, .int dx, .int dy, .int tp, .int p0, .int q0, .int p1, .int q1])), (a6, .inr (0, [.int (nI 60), .ref a7, .int (nI rwd), .int (nI rht)])), (a7, .inl (cI, 60 * 60, .inl rg)), (a8, .inr (1, [.ref a9, .int (nI k)])), (a9, .inl (cI, 4096, .inl f)), (a10, .inr (5, [.ref a11, .ref a8, .int (nI wa), .int (nI wc), .int (nI wt)])), (a11, .inr (3, [.ref a12])), (a12, .inl (cI, 8192, .inl (fun j => nI (SW j)))), (a13, .inr (2, [.ref a14, .ref a8, .int (nI ra), .long rc, .int rl, .int (nI b)])), (a14, .inr (3, [.ref a15])), (a15, .inl (cI, 8192, .inl (fun j => nI (SR j))))] [.ref hO]) hw_Nv (hw_X "java/lang/IllegalStateException") 1 6 (fun _ => False) := by
  refine vx_ofW (cc := cX7_requireReference) (maxL := 1) (ret := none) (by decide) rfl ?_
  intro pg ev s m args below meth cd s₁ B hml htab hv
  obtain ⟨rfl, hP, hK, hN, hZ, hX⟩ := hv
  have hx := B.exec
  have hb := B.bytes
  have hr := B.returns
  have hts := atoms_spec (ws := wsX7_requireReference) B.pre
  have hown : s.vm.findClass RX7 = some m.cls := findClass_of_methodNamed B.named
  have hlocks := B.notSynchronized
  have hS : va_S (fun _ => False) s.heap s.heap [] := va_S.rf
  have hk : hw_K (dC, dI) vwCl (ty3 cI cZ cJ) (fun _ => False) s := ⟨hK, hN, hZ⟩
  have hiX7 : ∀ w ∈ u_ws RX7 TX7 13, w ∈ wsX7_requireReference := by decide +kernel
  have hl := lv_entry ([.ref hO]) (n := 1) (Nat.le_of_ble_eq_true rfl)
  rw [lg_entry_eq]
  generalize (lg_sl ([.ref hO]) ++ List.replicate (1 - (lg_sl ([.ref hO])).length) Slot.unset).toArray = ls at hl ⊢
  have hl : lv_has ls 1 [(0, .ref hO)] := hl
  refine lv_aload_n hx hb dX7_requireReference_0 rfl (lv_at hl 0 rfl) ?_
  refine va_get (D := (dC, dI)) (ci := 6) (v := .int (sp_z false)) (C := RX7) (T := TX7) (N := 13) hx hb hts hiX7 hown hK hP 0 rfl rfl 8 (by decide) (hts (.fieldLink RX7 58 "RefineRegions" "referenceThere" "Z") (by decide +kernel)) (fun _ h9 => h9) rfl dX7_requireReference_1 ?_
  refine lv_if_ne (tgt := 17) hx hb dX7_requireReference_4 (by decide) (fun c_4 => absurd c_4 (fun h9 => h9 rfl)) (fun c_4 => ?_)
  obtain ⟨sa, hsa⟩ := hX.2.1 (215, "there is no reference") (by decide +kernel)
  exact vx_throwS (A := fun _ => False) (names := ["java/lang/RuntimeException", "java/lang/Exception"]) hx hb hl0 hown (by decide +kernel) (by decide +kernel) (hts (.classLink RX7 213 "java/lang/IllegalStateException") (by decide +kernel)) (hts (.initialized "java/lang/IllegalStateException") (by decide +kernel)) hsa (xt_hat hX hts xm_X7_requireReference_s xt_2s) xt_gs hX.2.2.1 hX.2.2.2.1 hS (by rw [hml]; exact hl.1) dX7_requireReference_7 dX7_requireReference_10 dX7_requireReference_11 dX7_requireReference_13 dX7_requireReference_16 (fun x9 h9 => (htab x9 h9).elim) (Nat.le_of_ble_eq_true rfl) (Nat.le_of_ble_eq_true rfl) (Nat.le_of_ble_eq_true rfl) (Nat.le_of_ble_eq_true rfl) hlocks (fun t h1 h2 h3 => ⟨(), trivial, rfl, Nat.le_trans hS.1 h2, fun q hq _ => (h3 q (Nat.lt_of_lt_of_le hq hS.1)).trans (hS.2.1 q hq (fun z => z))⟩) hS.2.2 (Nat.le_of_ble_eq_true rfl) (Nat.le_of_ble_eq_true rfl)

set_option maxHeartbeats 4000000 in
set_option maxRecDepth 100000 in
/-- requireReference(), where there is one: nothing changes -/
theorem v_X7_requireReference (l : Launch) (dC : Nat → ClassId) (dI : Nat → Nat → Nat) (cI cZ cJ : ClassId) (hO : Nat) (a1 : Nat) (a2 : Nat) (a3 : Nat) (a4 : Nat) (a5 : Nat) (a6 : Nat) (a7 : Nat) (a8 : Nat) (a9 : Nat) (a10 : Nat) (a11 : Nat) (a12 : Nat) (a13 : Nat) (a14 : Nat) (a15 : Nat) (tb : Bool) (kb : Bool) (sfb : Bool) (dx : Int32) (dy : Int32) (tp : Int32) (p0 : Int32) (q0 : Int32) (p1 : Int32) (q1 : Int32) (rl : Int32) (sk : Nat) (tr : Nat) (co : Nat) (w : Nat) (h : Nat) (fw : Nat) (fh : Nat) (rwd : Nat) (rht : Nat) (k : Nat) (wa : Nat) (wc : Nat) (wt : Nat) (ra : Nat) (b : Nat) (pf : Nat → Int32) (ff : Nat → Int32) (rg : Nat → Int32) (f : Nat → Int32) (rc : Int64) (SW : Nat → Nat) (SR : Nat → Nat) : Met l yX7_requireReference wsX7_requireReference ({ frames := 0, cells := 0, slots := 0, locals := 0 }) (hw_Ro (dC, dI) vwCl (ty3 cI cZ cJ) [(hO, .inr (6, [.ref a1, .ref a3, .ref a5, .ref a8, .ref a10, .ref a13, .int (sp_z tb), .int (sp_z kb), .int (sp_z true), .int (sp_z sfb), .int (nI sk), .int (nI tr), .int (nI co)])), (a1, .inr (0, [.int (nI 40), .ref a2, .int (nI w), .int (nI h)])), (a2, .inl (cI, 40 * 40, .inl pf)), (a3, .inr (0, [.int (nI 40), .ref a4, .int (nI fw), .int (nI fh)])), (a4, .inl (cI, 40 * 40, .inl ff)), (a5, .inr (4, [.ref a6, .int dx, .int dy, .int tp, .int p0, .int q0, .int p1, .int q1])), (a6, .inr (0, [.int (nI 60), .ref a7, .int (nI rwd), .int (nI rht)])), (a7, .inl (cI, 60 * 60, .inl rg)), (a8, .inr (1, [.ref a9, .int (nI k)])), (a9, .inl (cI, 4096, .inl f)), (a10, .inr (5, [.ref a11, .ref a8, .int (nI wa), .int (nI wc), .int (nI wt)])), (a11, .inr (3, [.ref a12])), (a12, .inl (cI, 8192, .inl (fun j => nI (SW j)))), (a13, .inr (2, [.ref a14, .ref a8, .int (nI ra), .long rc, .int rl, .int (nI b)])), (a14, .inr (3, [.ref a15])), (a15, .inl (cI, 8192, .inl (fun j => nI (SR j))))] [.ref hO]) (va_Qv (fun _ : Unit => True) (fun _ _ => True) (fun _ => False)) 0 0 (fun _ => False) := by
  refine Met.ofW (cc := cX7_requireReference) (maxL := 1) (ret := none) (by decide) rfl ?_
  intro pg ev s m args below meth cd s₁ B hml hv
  obtain ⟨rfl, hP, hK, hN, hZ⟩ := hv
  have hx := B.exec
  have hb := B.bytes
  have hr := B.returns
  have hts := atoms_spec (ws := wsX7_requireReference) B.pre
  have hown : s.vm.findClass RX7 = some m.cls := findClass_of_methodNamed B.named
  have hlocks := B.notSynchronized
  have hS : va_S (fun _ => False) s.heap s.heap [] := va_S.rf
  have hiX7 : ∀ w ∈ u_ws RX7 TX7 13, w ∈ wsX7_requireReference := by decide +kernel
  have hl := lv_entry ([.ref hO]) (n := 1) (Nat.le_of_ble_eq_true rfl)
  rw [lg_entry_eq]
  generalize (lg_sl ([.ref hO]) ++ List.replicate (1 - (lg_sl ([.ref hO])).length) Slot.unset).toArray = ls at hl ⊢
  have hl : lv_has ls 1 [(0, .ref hO)] := hl
  refine lv_aload_n hx hb dX7_requireReference_0 rfl (lv_at hl 0 rfl) ?_
  refine va_get (D := (dC, dI)) (ci := 6) (v := .int (sp_z true)) (C := RX7) (T := TX7) (N := 13) hx hb hts hiX7 hown hK hP 0 rfl rfl 8 (by decide) (hts (.fieldLink RX7 58 "RefineRegions" "referenceThere" "Z") (by decide +kernel)) (fun _ h9 => h9) rfl dX7_requireReference_1 ?_
  refine lv_if_ne (tgt := 17) hx hb dX7_requireReference_4 (by decide) (fun c_4 => ?_) (fun c_4 => absurd c_4 (by decide))
  exact W.vret hx hb hr (fun t ht hW => ⟨⟨(), rfl, trivial, trivial⟩, hS.F ht⟩) hS.2.2 dX7_requireReference_17

set_option maxHeartbeats 4000000 in
set_option maxRecDepth 100000 in
/-- shape, refused -/
theorem t_X7_shape (l : Launch) (dC : Nat → ClassId) (dI : Nat → Nat → Nat) (cI cZ cJ : ClassId) (hO : Nat) (a1 : Nat) (a2 : Nat) (a3 : Nat) (a4 : Nat) (a5 : Nat) (a6 : Nat) (a7 : Nat) (a8 : Nat) (a9 : Nat) (a10 : Nat) (a11 : Nat) (a12 : Nat) (a13 : Nat) (a14 : Nat) (a15 : Nat) (tb : Bool) (kb : Bool) (rtb : Bool) (sfb : Bool) (dx : Int32) (dy : Int32) (tp : Int32) (p0 : Int32) (q0 : Int32) (p1 : Int32) (q1 : Int32) (rl : Int32) (sk : Nat) (tr : Nat) (co : Nat) (w : Nat) (h : Nat) (fw : Nat) (fh : Nat) (rwd : Nat) (rht : Nat) (k : Nat) (wa : Nat) (wc : Nat) (wt : Nat) (ra : Nat) (b : Nat) (pf : Nat → Int32) (ff : Nat → Int32) (rg : Nat → Int32) (f : Nat → Int32) (rc : Int64) (SW : Nat → Nat) (SR : Nat → Nat) (x : Int32) (y : Int32) (z : Int32) (bb : Bool) (hno : sp_iw x 1 40 = 0 ∨ sp_iw y 1 40 = 0 ∨ sp_iw z 0 1 = 0) (hl0 : l.stackTraces = false) : vx_Met l yX7_shape wsX7_shape ({ frames := 6, cells := 1, slots := 6, locals := 90 }) (hw_RoX (dC, dI) vwCl (ty3 cI cZ cJ) [(hO, .inr (6, [.ref a1, .ref a3, .ref a5, .ref a8, .ref a10, .ref a13, .int (sp_z tb), .int (sp_z kb), .int (sp_z rtb), .int (sp_z sfb), .int (nI sk), .int (nI tr), .int (nI co)])), (a1, .inr (0, [.int (nI 40), .ref a2, .int (nI w), .int (nI h)])), (a2, .inl (cI, 40 * 40, .inl pf)), (a3, .inr (0, [.int (nI 40), .ref a4, .int (nI fw), .int (nI fh)])), (a4, .inl (cI, 40 * 40, .inl ff)), (a5, .inr (4, [.ref a6, .int dx, .int dy, .int tp, .int p0, .int q0, .int p1, .int q1])), (a6, .inr (0, [.int (nI 60), .ref a7, .int (nI rwd), .int (nI rht)])), (a7, .inl (cI, 60 * 60, .inl rg)), (a8, .inr (1, [.ref a9, .int (nI k)])), (a9, .inl (cI, 4096, .inl f)), (a10, .inr (5, [.ref a11, .ref a8, .int (nI wa), .int (nI wc), .int (nI wt)])), (a11, .inr (3, [.ref a12])), (a12, .inl (cI, 8192, .inl (fun j => nI (SW j)))), (a13, .inr (2, [.ref a14, .ref a8, .int (nI ra), .long rc, .int rl, .int (nI b)])), (a14, .inr (3, [.ref a15])), (a15, .inl (cI, 8192, .inl (fun j => nI (SR j))))] [.ref hO, .int x, .int y, .int z, .int (sp_z bb)]) hw_Nv (hw_X "java/lang/IllegalArgumentException") 1 6 (fun _ => False) := by
  refine vx_ofW (cc := cX7_shape) (maxL := 5) (ret := none) (by decide) rfl ?_
  intro pg ev s m args below meth cd s₁ B hml htab hv
  obtain ⟨rfl, hP, hK, hN, hZ, hX⟩ := hv
  have hx := B.exec
  have hb := B.bytes
  have hr := B.returns
  have hts := atoms_spec (ws := wsX7_shape) B.pre
  have hown : s.vm.findClass RX7 = some m.cls := findClass_of_methodNamed B.named
  have hlocks := B.notSynchronized
  have hS : va_S (fun _ => False) s.heap s.heap [] := va_S.rf
  have hk : hw_K (dC, dI) vwCl (ty3 cI cZ cJ) (fun _ => False) s := ⟨hK, hN, hZ⟩
  have hiX3 : ∀ w ∈ u_ws RX3 TX3 6, w ∈ wsX7_shape := by decide +kernel
  have hiX6 : ∀ w ∈ u_ws RX6 TX6 5, w ∈ wsX7_shape := by decide +kernel
  have hiX7 : ∀ w ∈ u_ws RX7 TX7 13, w ∈ wsX7_shape := by decide +kernel
  have hl := lv_entry ([.ref hO, .int x, .int y, .int z, .int (sp_z bb)]) (n := 5) (Nat.le_of_ble_eq_true rfl)
  rw [lg_entry_eq]
  generalize (lg_sl ([.ref hO, .int x, .int y, .int z, .int (sp_z bb)]) ++ List.replicate (5 - (lg_sl ([.ref hO, .int x, .int y, .int z, .int (sp_z bb)])).length) Slot.unset).toArray = ls at hl ⊢
  have hl : lv_has ls 5 [(0, .ref hO), (1, .int x), (2, .int y), (3, .int z), (4, .int (sp_z bb))] := hl
  refine lv_iload_n hx hb dX7_shape_0 rfl (lv_at hl 1 rfl) ?_
  refine lv_iconst (v := 1) hx hb dX7_shape_1 (by decide) ?_
  refine lv_bipush (v := 40) hx hb dX7_shape_2 (by decide) ?_
  refine hw_callSe (va_runS (As := [.int x, .int 1, .int 40]) (rest := []) ⟨hx, hb, hml, hown, hts⟩ (c_X7_isWithin l dC dI cI cZ cJ x 1 40) (cwS 3 hts gX7_shape_X7_isWithin rfl rfl rfl (by decide +kernel) ⟨Nat.le_of_ble_eq_true rfl, Nat.le_of_ble_eq_true rfl⟩) (hw_ro hP hS hk [] rfl) rfl rfl hl.1 rfl (lv_room (Nat.le_of_ble_eq_true rfl)) dX7_shape_4 ⟨Nat.le_of_ble_eq_true rfl, Nat.le_of_ble_eq_true rfl⟩) ?_
  refine lv_if_eq (tgt := 20) hx hb dX7_shape_7 (by decide) (fun c_7 => ?_) (fun c_7 => ?_)
  · obtain ⟨sa, hsa⟩ := hX.2.1 (84, "width and height are 1 to 40") (by decide +kernel)
    exact vx_throwS (A := fun _ => False) (names := ["java/lang/RuntimeException", "java/lang/Exception"]) hx hb hl0 hown (by decide +kernel) (by decide +kernel) (hts (.classLink RX7 82 "java/lang/IllegalArgumentException") (by decide +kernel)) (hts (.initialized "java/lang/IllegalArgumentException") (by decide +kernel)) hsa (xt_hat hX hts xm_X7_shape_a xt_2a) xt_ga hX.2.2.1 hX.2.2.2.1 hS (by rw [hml]; exact hl.1) dX7_shape_20 dX7_shape_23 dX7_shape_24 dX7_shape_26 dX7_shape_29 (fun x9 h9 => (htab x9 h9).elim) (Nat.le_of_ble_eq_true rfl) (Nat.le_of_ble_eq_true rfl) (Nat.le_of_ble_eq_true rfl) (Nat.le_of_ble_eq_true rfl) hlocks (fun t h1 h2 h3 => ⟨(), trivial, rfl, Nat.le_trans hS.1 h2, fun q hq _ => (h3 q (Nat.lt_of_lt_of_le hq hS.1)).trans (hS.2.1 q hq (fun z => z))⟩) hS.2.2 (Nat.le_of_ble_eq_true rfl) (Nat.le_of_ble_eq_true rfl)
  · refine lv_iload_n hx hb dX7_shape_10 rfl (lv_at hl 2 rfl) ?_
    refine lv_iconst (v := 1) hx hb dX7_shape_11 (by decide) ?_
    refine lv_bipush (v := 40) hx hb dX7_shape_12 (by decide) ?_
    refine hw_callSe (va_runS (As := [.int y, .int 1, .int 40]) (rest := []) ⟨hx, hb, hml, hown, hts⟩ (c_X7_isWithin l dC dI cI cZ cJ y 1 40) (cwS 3 hts gX7_shape_X7_isWithin rfl rfl rfl (by decide +kernel) ⟨Nat.le_of_ble_eq_true rfl, Nat.le_of_ble_eq_true rfl⟩) (hw_ro hP hS hk [] rfl) rfl rfl hl.1 rfl (lv_room (Nat.le_of_ble_eq_true rfl)) dX7_shape_14 ⟨Nat.le_of_ble_eq_true rfl, Nat.le_of_ble_eq_true rfl⟩) ?_
    refine lv_if_ne (tgt := 30) hx hb dX7_shape_17 (by decide) (fun c_17 => ?_) (fun c_17 => ?_)
    · refine lv_iload_n hx hb dX7_shape_30 rfl (lv_at hl 3 rfl) ?_
      refine lv_iconst (v := 0) hx hb dX7_shape_31 (by decide) ?_
      refine lv_iconst (v := 1) hx hb dX7_shape_32 (by decide) ?_
      refine hw_callSe (va_runS (As := [.int z, .int 0, .int 1]) (rest := []) ⟨hx, hb, hml, hown, hts⟩ (c_X7_isWithin l dC dI cI cZ cJ z 0 1) (cwS 3 hts gX7_shape_X7_isWithin rfl rfl rfl (by decide +kernel) ⟨Nat.le_of_ble_eq_true rfl, Nat.le_of_ble_eq_true rfl⟩) (hw_ro hP hS hk [] rfl) rfl rfl hl.1 rfl (lv_room (Nat.le_of_ble_eq_true rfl)) dX7_shape_33 ⟨Nat.le_of_ble_eq_true rfl, Nat.le_of_ble_eq_true rfl⟩) ?_
      refine lv_if_ne (tgt := 49) hx hb dX7_shape_36 (by decide) (fun c_36 => absurd c_36 (fun h9 => hno.elim c_7 (fun q9 => q9.elim c_17 h9))) (fun c_36 => ?_)
      obtain ⟨sa, hsa⟩ := hX.2.1 (89, "the template is 0 or 1") (by decide +kernel)
      exact vx_throwS (A := fun _ => False) (names := ["java/lang/RuntimeException", "java/lang/Exception"]) hx hb hl0 hown (by decide +kernel) (by decide +kernel) (hts (.classLink RX7 82 "java/lang/IllegalArgumentException") (by decide +kernel)) (hts (.initialized "java/lang/IllegalArgumentException") (by decide +kernel)) hsa (xt_hat hX hts xm_X7_shape_a xt_2a) xt_ga hX.2.2.1 hX.2.2.2.1 hS (by rw [hml]; exact hl.1) dX7_shape_39 dX7_shape_42 dX7_shape_43 dX7_shape_45 dX7_shape_48 (fun x9 h9 => (htab x9 h9).elim) (Nat.le_of_ble_eq_true rfl) (Nat.le_of_ble_eq_true rfl) (Nat.le_of_ble_eq_true rfl) (Nat.le_of_ble_eq_true rfl) hlocks (fun t h1 h2 h3 => ⟨(), trivial, rfl, Nat.le_trans hS.1 h2, fun q hq _ => (h3 q (Nat.lt_of_lt_of_le hq hS.1)).trans (hS.2.1 q hq (fun z => z))⟩) hS.2.2 (Nat.le_of_ble_eq_true rfl) (Nat.le_of_ble_eq_true rfl)
    · obtain ⟨sa, hsa⟩ := hX.2.1 (84, "width and height are 1 to 40") (by decide +kernel)
      exact vx_throwS (A := fun _ => False) (names := ["java/lang/RuntimeException", "java/lang/Exception"]) hx hb hl0 hown (by decide +kernel) (by decide +kernel) (hts (.classLink RX7 82 "java/lang/IllegalArgumentException") (by decide +kernel)) (hts (.initialized "java/lang/IllegalArgumentException") (by decide +kernel)) hsa (xt_hat hX hts xm_X7_shape_a xt_2a) xt_ga hX.2.2.1 hX.2.2.2.1 hS (by rw [hml]; exact hl.1) dX7_shape_20 dX7_shape_23 dX7_shape_24 dX7_shape_26 dX7_shape_29 (fun x9 h9 => (htab x9 h9).elim) (Nat.le_of_ble_eq_true rfl) (Nat.le_of_ble_eq_true rfl) (Nat.le_of_ble_eq_true rfl) (Nat.le_of_ble_eq_true rfl) hlocks (fun t h1 h2 h3 => ⟨(), trivial, rfl, Nat.le_trans hS.1 h2, fun q hq _ => (h3 q (Nat.lt_of_lt_of_le hq hS.1)).trans (hS.2.1 q hq (fun z => z))⟩) hS.2.2 (Nat.le_of_ble_eq_true rfl) (Nat.le_of_ble_eq_true rfl)

set_option maxHeartbeats 4000000 in
set_option maxRecDepth 100000 in
/-- put, refused -/
theorem t_X7_put (l : Launch) (dC : Nat → ClassId) (dI : Nat → Nat → Nat) (cI cZ cJ : ClassId) (hO : Nat) (a1 : Nat) (a2 : Nat) (a3 : Nat) (a4 : Nat) (a5 : Nat) (a6 : Nat) (a7 : Nat) (a8 : Nat) (a9 : Nat) (a10 : Nat) (a11 : Nat) (a12 : Nat) (a13 : Nat) (a14 : Nat) (a15 : Nat) (tb : Bool) (kb : Bool) (rtb : Bool) (sfb : Bool) (dx : Int32) (dy : Int32) (tp : Int32) (p0 : Int32) (q0 : Int32) (p1 : Int32) (q1 : Int32) (rl : Int32) (sk : Nat) (tr : Nat) (co : Nat) (w : Nat) (h : Nat) (fw : Nat) (fh : Nat) (rwd : Nat) (rht : Nat) (k : Nat) (wa : Nat) (wc : Nat) (wt : Nat) (ra : Nat) (b : Nat) (pf : Nat → Int32) (ff : Nat → Int32) (rg : Nat → Int32) (f : Nat → Int32) (rc : Int64) (SW : Nat → Nat) (SR : Nat → Nat) (x : Int32) (y : Int32) (bb : Bool) (hxy : sp_ho (nI w) (nI h) x y = 0) (hl0 : l.stackTraces = false) : vx_Met l yX7_put wsX7_put ({ frames := 6, cells := 1, slots := 6, locals := 90 }) (hw_RoX (dC, dI) vwCl (ty3 cI cZ cJ) [(hO, .inr (6, [.ref a1, .ref a3, .ref a5, .ref a8, .ref a10, .ref a13, .int (sp_z tb), .int (sp_z kb), .int (sp_z rtb), .int (sp_z sfb), .int (nI sk), .int (nI tr), .int (nI co)])), (a1, .inr (0, [.int (nI 40), .ref a2, .int (nI w), .int (nI h)])), (a2, .inl (cI, 40 * 40, .inl pf)), (a3, .inr (0, [.int (nI 40), .ref a4, .int (nI fw), .int (nI fh)])), (a4, .inl (cI, 40 * 40, .inl ff)), (a5, .inr (4, [.ref a6, .int dx, .int dy, .int tp, .int p0, .int q0, .int p1, .int q1])), (a6, .inr (0, [.int (nI 60), .ref a7, .int (nI rwd), .int (nI rht)])), (a7, .inl (cI, 60 * 60, .inl rg)), (a8, .inr (1, [.ref a9, .int (nI k)])), (a9, .inl (cI, 4096, .inl f)), (a10, .inr (5, [.ref a11, .ref a8, .int (nI wa), .int (nI wc), .int (nI wt)])), (a11, .inr (3, [.ref a12])), (a12, .inl (cI, 8192, .inl (fun j => nI (SW j)))), (a13, .inr (2, [.ref a14, .ref a8, .int (nI ra), .long rc, .int rl, .int (nI b)])), (a14, .inr (3, [.ref a15])), (a15, .inl (cI, 8192, .inl (fun j => nI (SR j))))] [.ref hO, .int x, .int y, .int (sp_z bb)]) hw_Ni (hw_X "java/lang/IndexOutOfBoundsException") 1 6 (fun _ => False) := by
  refine vx_ofW (cc := cX7_put) (maxL := 5) (ret := (some .boolean)) (by decide) rfl ?_
  intro pg ev s m args below meth cd s₁ B hml htab hv
  obtain ⟨rfl, hP, hK, hN, hZ, hX⟩ := hv
  have hx := B.exec
  have hb := B.bytes
  have hr := B.returns
  have hts := atoms_spec (ws := wsX7_put) B.pre
  have hown : s.vm.findClass RX7 = some m.cls := findClass_of_methodNamed B.named
  have hlocks := B.notSynchronized
  have hS : va_S (fun _ => False) s.heap s.heap [] := va_S.rf
  have hk : hw_K (dC, dI) vwCl (ty3 cI cZ cJ) (fun _ => False) s := ⟨hK, hN, hZ⟩
  have hiX7 : ∀ w ∈ u_ws RX7 TX7 13, w ∈ wsX7_put := by decide +kernel
  have hl := lv_entry ([.ref hO, .int x, .int y, .int (sp_z bb)]) (n := 5) (Nat.le_of_ble_eq_true rfl)
  rw [lg_entry_eq]
  generalize (lg_sl ([.ref hO, .int x, .int y, .int (sp_z bb)]) ++ List.replicate (5 - (lg_sl ([.ref hO, .int x, .int y, .int (sp_z bb)])).length) Slot.unset).toArray = ls at hl ⊢
  have hl : lv_has ls 5 [(0, .ref hO), (1, .int x), (2, .int y), (3, .int (sp_z bb))] := hl
  refine lv_aload_n hx hb dX7_put_0 rfl (lv_at hl 0 rfl) ?_
  refine va_get (D := (dC, dI)) (ci := 6) (v := .ref a1) (C := RX7) (T := TX7) (N := 13) hx hb hts hiX7 hown hK hP 0 rfl rfl 0 (by decide) (hts (.fieldLink RX7 14 "RefineRegions" "picture" "LRefineRegions$Bitmap;") (by decide +kernel)) (fun _ h9 => h9) rfl dX7_put_1 ?_
  refine lv_iload_n hx hb dX7_put_4 rfl (lv_at hl 1 rfl) ?_
  refine lv_iload_n hx hb dX7_put_5 rfl (lv_at hl 2 rfl) ?_
  refine hw_callSe (va_runVN (As := [.int x, .int y]) (rest := []) ⟨hx, hb, hml, hown, hts⟩ (c_X1_holds l dC dI cI cZ cJ a1 a2 40 w h pf x y) ⟨va_cnB 2 hts gX7_put_X1_holds_n104 rfl rfl rfl (nw_X7_104 hN) (hts (.initialized RX1) (by decide +kernel)) (by decide +kernel) ⟨Nat.le_of_ble_eq_true rfl, Nat.le_of_ble_eq_true rfl⟩, hts (.instanceMethod yX1_holds) (by decide +kernel), hts (.selects RX1 yX1_holds yX1_holds) (by decide +kernel)⟩ (hw_roV hP hS hk [1, 2] rfl (ci := 0) (q0 := 1) rfl rfl) rfl rfl hl.1 rfl (lv_room (Nat.le_of_ble_eq_true rfl)) dX7_put_6 ⟨Nat.le_of_ble_eq_true rfl, Nat.le_of_ble_eq_true rfl⟩) ?_
  refine lv_if_ne (tgt := 22) hx hb dX7_put_9 (by decide) (fun c_9 => absurd c_9 (fun h9 => h9 hxy)) (fun c_9 => ?_)
  obtain ⟨sa, hsa⟩ := hX.2.1 (110, "no such pixel in the picture") (by decide +kernel)
  exact vx_throwS (A := fun _ => False) (names := ["java/lang/RuntimeException", "java/lang/Exception"]) hx hb hl0 hown (by decide +kernel) (by decide +kernel) (hts (.classLink RX7 108 "java/lang/IndexOutOfBoundsException") (by decide +kernel)) (hts (.initialized "java/lang/IndexOutOfBoundsException") (by decide +kernel)) hsa (xt_hat hX hts xm_X7_put_i xt_2i) xt_gi hX.2.2.1 hX.2.2.2.1 hS (by rw [hml]; exact hl.1) dX7_put_12 dX7_put_15 dX7_put_16 dX7_put_18 dX7_put_21 (fun x9 h9 => (htab x9 h9).elim) (Nat.le_of_ble_eq_true rfl) (Nat.le_of_ble_eq_true rfl) (Nat.le_of_ble_eq_true rfl) (Nat.le_of_ble_eq_true rfl) hlocks (fun t h1 h2 h3 => ⟨(), trivial, rfl, Nat.le_trans hS.1 h2, fun q hq _ => (h3 q (Nat.lt_of_lt_of_le hq hS.1)).trans (hS.2.1 q hq (fun z => z))⟩) hS.2.2 (Nat.le_of_ble_eq_true rfl) (Nat.le_of_ble_eq_true rfl)

set_option maxHeartbeats 4000000 in
set_option maxRecDepth 100000 in
/-- reference, refused -/
theorem t_X7_reference (l : Launch) (dC : Nat → ClassId) (dI : Nat → Nat → Nat) (cI cZ cJ : ClassId) (hO : Nat) (a1 : Nat) (a2 : Nat) (a3 : Nat) (a4 : Nat) (a5 : Nat) (a6 : Nat) (a7 : Nat) (a8 : Nat) (a9 : Nat) (a10 : Nat) (a11 : Nat) (a12 : Nat) (a13 : Nat) (a14 : Nat) (a15 : Nat) (tb : Bool) (kb : Bool) (rtb : Bool) (sfb : Bool) (dx : Int32) (dy : Int32) (tp : Int32) (p0 : Int32) (q0 : Int32) (p1 : Int32) (q1 : Int32) (rl : Int32) (sk : Nat) (tr : Nat) (co : Nat) (w : Nat) (h : Nat) (fw : Nat) (fh : Nat) (rwd : Nat) (rht : Nat) (k : Nat) (wa : Nat) (wc : Nat) (wt : Nat) (ra : Nat) (b : Nat) (pf : Nat → Int32) (ff : Nat → Int32) (rg : Nat → Int32) (f : Nat → Int32) (rc : Int64) (SW : Nat → Nat) (SR : Nat → Nat) (x : Int32) (y : Int32) (hno : sp_iw x 1 60 = 0 ∨ sp_iw y 1 60 = 0) (hl0 : l.stackTraces = false) : vx_Met l yX7_reference wsX7_reference ({ frames := 6, cells := 1, slots := 6, locals := 90 }) (hw_RoX (dC, dI) vwCl (ty3 cI cZ cJ) [(hO, .inr (6, [.ref a1, .ref a3, .ref a5, .ref a8, .ref a10, .ref a13, .int (sp_z tb), .int (sp_z kb), .int (sp_z rtb), .int (sp_z sfb), .int (nI sk), .int (nI tr), .int (nI co)])), (a1, .inr (0, [.int (nI 40), .ref a2, .int (nI w), .int (nI h)])), (a2, .inl (cI, 40 * 40, .inl pf)), (a3, .inr (0, [.int (nI 40), .ref a4, .int (nI fw), .int (nI fh)])), (a4, .inl (cI, 40 * 40, .inl ff)), (a5, .inr (4, [.ref a6, .int dx, .int dy, .int tp, .int p0, .int q0, .int p1, .int q1])), (a6, .inr (0, [.int (nI 60), .ref a7, .int (nI rwd), .int (nI rht)])), (a7, .inl (cI, 60 * 60, .inl rg)), (a8, .inr (1, [.ref a9, .int (nI k)])), (a9, .inl (cI, 4096, .inl f)), (a10, .inr (5, [.ref a11, .ref a8, .int (nI wa), .int (nI wc), .int (nI wt)])), (a11, .inr (3, [.ref a12])), (a12, .inl (cI, 8192, .inl (fun j => nI (SW j)))), (a13, .inr (2, [.ref a14, .ref a8, .int (nI ra), .long rc, .int rl, .int (nI b)])), (a14, .inr (3, [.ref a15])), (a15, .inl (cI, 8192, .inl (fun j => nI (SR j))))] [.ref hO, .int x, .int y]) hw_Nv (hw_X "java/lang/IllegalArgumentException") 1 6 (fun _ => False) := by
  refine vx_ofW (cc := cX7_reference) (maxL := 3) (ret := none) (by decide) rfl ?_
  intro pg ev s m args below meth cd s₁ B hml htab hv
  obtain ⟨rfl, hP, hK, hN, hZ, hX⟩ := hv
  have hx := B.exec
  have hb := B.bytes
  have hr := B.returns
  have hts := atoms_spec (ws := wsX7_reference) B.pre
  have hown : s.vm.findClass RX7 = some m.cls := findClass_of_methodNamed B.named
  have hlocks := B.notSynchronized
  have hS : va_S (fun _ => False) s.heap s.heap [] := va_S.rf
  have hk : hw_K (dC, dI) vwCl (ty3 cI cZ cJ) (fun _ => False) s := ⟨hK, hN, hZ⟩
  have hiX5 : ∀ w ∈ u_ws RX5 TX5 8, w ∈ wsX7_reference := by decide +kernel
  have hiX7 : ∀ w ∈ u_ws RX7 TX7 13, w ∈ wsX7_reference := by decide +kernel
  have hl := lv_entry ([.ref hO, .int x, .int y]) (n := 3) (Nat.le_of_ble_eq_true rfl)
  rw [lg_entry_eq]
  generalize (lg_sl ([.ref hO, .int x, .int y]) ++ List.replicate (3 - (lg_sl ([.ref hO, .int x, .int y])).length) Slot.unset).toArray = ls at hl ⊢
  have hl : lv_has ls 3 [(0, .ref hO), (1, .int x), (2, .int y)] := hl
  refine lv_iload_n hx hb dX7_reference_0 rfl (lv_at hl 1 rfl) ?_
  refine lv_iconst (v := 1) hx hb dX7_reference_1 (by decide) ?_
  refine lv_bipush (v := 60) hx hb dX7_reference_2 (by decide) ?_
  refine hw_callSe (va_runS (As := [.int x, .int 1, .int 60]) (rest := []) ⟨hx, hb, hml, hown, hts⟩ (c_X7_isWithin l dC dI cI cZ cJ x 1 60) (cwS 3 hts gX7_reference_X7_isWithin rfl rfl rfl (by decide +kernel) ⟨Nat.le_of_ble_eq_true rfl, Nat.le_of_ble_eq_true rfl⟩) (hw_ro hP hS hk [] rfl) rfl rfl hl.1 rfl (lv_room (Nat.le_of_ble_eq_true rfl)) dX7_reference_4 ⟨Nat.le_of_ble_eq_true rfl, Nat.le_of_ble_eq_true rfl⟩) ?_
  refine lv_if_eq (tgt := 20) hx hb dX7_reference_7 (by decide) (fun c_7 => ?_) (fun c_7 => ?_)
  · obtain ⟨sa, hsa⟩ := hX.2.1 (121, "width and height are 1 to 60") (by decide +kernel)
    exact vx_throwS (A := fun _ => False) (names := ["java/lang/RuntimeException", "java/lang/Exception"]) hx hb hl0 hown (by decide +kernel) (by decide +kernel) (hts (.classLink RX7 82 "java/lang/IllegalArgumentException") (by decide +kernel)) (hts (.initialized "java/lang/IllegalArgumentException") (by decide +kernel)) hsa (xt_hat hX hts xm_X7_reference_a xt_2a) xt_ga hX.2.2.1 hX.2.2.2.1 hS (by rw [hml]; exact hl.1) dX7_reference_20 dX7_reference_23 dX7_reference_24 dX7_reference_26 dX7_reference_29 (fun x9 h9 => (htab x9 h9).elim) (Nat.le_of_ble_eq_true rfl) (Nat.le_of_ble_eq_true rfl) (Nat.le_of_ble_eq_true rfl) (Nat.le_of_ble_eq_true rfl) hlocks (fun t h1 h2 h3 => ⟨(), trivial, rfl, Nat.le_trans hS.1 h2, fun q hq _ => (h3 q (Nat.lt_of_lt_of_le hq hS.1)).trans (hS.2.1 q hq (fun z => z))⟩) hS.2.2 (Nat.le_of_ble_eq_true rfl) (Nat.le_of_ble_eq_true rfl)
  · refine lv_iload_n hx hb dX7_reference_10 rfl (lv_at hl 2 rfl) ?_
    refine lv_iconst (v := 1) hx hb dX7_reference_11 (by decide) ?_
    refine lv_bipush (v := 60) hx hb dX7_reference_12 (by decide) ?_
    refine hw_callSe (va_runS (As := [.int y, .int 1, .int 60]) (rest := []) ⟨hx, hb, hml, hown, hts⟩ (c_X7_isWithin l dC dI cI cZ cJ y 1 60) (cwS 3 hts gX7_reference_X7_isWithin rfl rfl rfl (by decide +kernel) ⟨Nat.le_of_ble_eq_true rfl, Nat.le_of_ble_eq_true rfl⟩) (hw_ro hP hS hk [] rfl) rfl rfl hl.1 rfl (lv_room (Nat.le_of_ble_eq_true rfl)) dX7_reference_14 ⟨Nat.le_of_ble_eq_true rfl, Nat.le_of_ble_eq_true rfl⟩) ?_
    refine lv_if_ne (tgt := 30) hx hb dX7_reference_17 (by decide) (fun c_17 => absurd c_17 (fun h9 => hno.elim c_7 h9)) (fun c_17 => ?_)
    obtain ⟨sa, hsa⟩ := hX.2.1 (121, "width and height are 1 to 60") (by decide +kernel)
    exact vx_throwS (A := fun _ => False) (names := ["java/lang/RuntimeException", "java/lang/Exception"]) hx hb hl0 hown (by decide +kernel) (by decide +kernel) (hts (.classLink RX7 82 "java/lang/IllegalArgumentException") (by decide +kernel)) (hts (.initialized "java/lang/IllegalArgumentException") (by decide +kernel)) hsa (xt_hat hX hts xm_X7_reference_a xt_2a) xt_ga hX.2.2.1 hX.2.2.2.1 hS (by rw [hml]; exact hl.1) dX7_reference_20 dX7_reference_23 dX7_reference_24 dX7_reference_26 dX7_reference_29 (fun x9 h9 => (htab x9 h9).elim) (Nat.le_of_ble_eq_true rfl) (Nat.le_of_ble_eq_true rfl) (Nat.le_of_ble_eq_true rfl) (Nat.le_of_ble_eq_true rfl) hlocks (fun t h1 h2 h3 => ⟨(), trivial, rfl, Nat.le_trans hS.1 h2, fun q hq _ => (h3 q (Nat.lt_of_lt_of_le hq hS.1)).trans (hS.2.1 q hq (fun z => z))⟩) hS.2.2 (Nat.le_of_ble_eq_true rfl) (Nat.le_of_ble_eq_true rfl)

set_option maxHeartbeats 4000000 in
set_option maxRecDepth 100000 in
/-- refer, no reference -/
theorem t_X7_refer_1 (l : Launch) (dC : Nat → ClassId) (dI : Nat → Nat → Nat) (cI cZ cJ : ClassId) (hO : Nat) (a1 : Nat) (a2 : Nat) (a3 : Nat) (a4 : Nat) (a5 : Nat) (a6 : Nat) (a7 : Nat) (a8 : Nat) (a9 : Nat) (a10 : Nat) (a11 : Nat) (a12 : Nat) (a13 : Nat) (a14 : Nat) (a15 : Nat) (tb : Bool) (kb : Bool) (sfb : Bool) (dx : Int32) (dy : Int32) (tp : Int32) (p0 : Int32) (q0 : Int32) (p1 : Int32) (q1 : Int32) (rl : Int32) (sk : Nat) (tr : Nat) (co : Nat) (w : Nat) (h : Nat) (fw : Nat) (fh : Nat) (rwd : Nat) (rht : Nat) (k : Nat) (wa : Nat) (wc : Nat) (wt : Nat) (ra : Nat) (b : Nat) (pf : Nat → Int32) (ff : Nat → Int32) (rg : Nat → Int32) (f : Nat → Int32) (rc : Int64) (SW : Nat → Nat) (SR : Nat → Nat) (x : Int32) (y : Int32) (bb : Bool) (hl0 : l.stackTraces = false) : vx_Met l yX7_refer wsX7_refer ({ frames := 7, cells := 1, slots := 6, locals := 110 }) (hw_RoX (dC, dI) vwCl (ty3 cI cZ cJ) [(hO, .inr (6, [.ref a1, .ref a3, .ref a5, .ref a8, .ref a10, .ref a13, .int (sp_z tb), .int (sp_z kb), .int (sp_z false), .int (sp_z sfb), .int (nI sk), .int (nI tr), .int (nI co)])), (a1, .inr (0, [.int (nI 40), .ref a2, .int (nI w), .int (nI h)])), (a2, .inl (cI, 40 * 40, .inl pf)), (a3, .inr (0, [.int (nI 40), .ref a4, .int (nI fw), .int (nI fh)])), (a4, .inl (cI, 40 * 40, .inl ff)), (a5, .inr (4, [.ref a6, .int dx, .int dy, .int tp, .int p0, .int q0, .int p1, .int q1])), (a6, .inr (0, [.int (nI 60), .ref a7, .int (nI rwd), .int (nI rht)])), (a7, .inl (cI, 60 * 60, .inl rg)), (a8, .inr (1, [.ref a9, .int (nI k)])), (a9, .inl (cI, 4096, .inl f)), (a10, .inr (5, [.ref a11, .ref a8, .int (nI wa), .int (nI wc), .int (nI wt)])), (a11, .inr (3, [.ref a12])), (a12, .inl (cI, 8192, .inl (fun j => nI (SW j)))), (a13, .inr (2, [.ref a14, .ref a8, .int (nI ra), .long rc, .int rl, .int (nI b)])), (a14, .inr (3, [.ref a15])), (a15, .inl (cI, 8192, .inl (fun j => nI (SR j))))] [.ref hO, .int x, .int y, .int (sp_z bb)]) hw_Ni (hw_X "java/lang/IllegalStateException") 1 6 (fun _ => False) := by
  refine vx_ofW (cc := cX7_refer) (maxL := 5) (ret := (some .boolean)) (by decide) rfl ?_
  intro pg ev s m args below meth cd s₁ B hml htab hv
  obtain ⟨rfl, hP, hK, hN, hZ, hX⟩ := hv
  have hx := B.exec
  have hb := B.bytes
  have hr := B.returns
  have hts := atoms_spec (ws := wsX7_refer) B.pre
  have hown : s.vm.findClass RX7 = some m.cls := findClass_of_methodNamed B.named
  have hlocks := B.notSynchronized
  have hS : va_S (fun _ => False) s.heap s.heap [] := va_S.rf
  have hk : hw_K (dC, dI) vwCl (ty3 cI cZ cJ) (fun _ => False) s := ⟨hK, hN, hZ⟩
  have hiX5 : ∀ w ∈ u_ws RX5 TX5 8, w ∈ wsX7_refer := by decide +kernel
  have hiX7 : ∀ w ∈ u_ws RX7 TX7 13, w ∈ wsX7_refer := by decide +kernel
  have hl := lv_entry ([.ref hO, .int x, .int y, .int (sp_z bb)]) (n := 5) (Nat.le_of_ble_eq_true rfl)
  rw [lg_entry_eq]
  generalize (lg_sl ([.ref hO, .int x, .int y, .int (sp_z bb)]) ++ List.replicate (5 - (lg_sl ([.ref hO, .int x, .int y, .int (sp_z bb)])).length) Slot.unset).toArray = ls at hl ⊢
  have hl : lv_has ls 5 [(0, .ref hO), (1, .int x), (2, .int y), (3, .int (sp_z bb))] := hl
  refine lv_aload_n hx hb dX7_refer_0 rfl (lv_at hl 0 rfl) ?_
  refine hw_callXv (vx_runV (As := []) (rest := []) ⟨hx, hb, hml, hown, hts⟩ (t_X7_requireReference l dC dI cI cZ cJ hO a1 a2 a3 a4 a5 a6 a7 a8 a9 a10 a11 a12 a13 a14 a15 tb kb sfb dx dy tp p0 q0 p1 q1 rl sk tr co w h fw fh rwd rht k wa wc wt ra b pf ff rg f rc SW SR hl0) (cwV 0 hts gX7_refer_X7_requireReference rfl rfl rfl (by decide +kernel) ⟨Nat.le_of_ble_eq_true rfl, Nat.le_of_ble_eq_true rfl⟩) (hw_roXV hP hS hk hX [0, 1, 2, 3, 4, 5, 6, 7, 8, 9, 10, 11, 12, 13, 14, 15] rfl (ci := 6) (q0 := 0) rfl rfl) rfl rfl hl.1 rfl (lv_room (Nat.le_of_ble_eq_true rfl)) dX7_refer_1 ⟨Nat.le_of_ble_eq_true rfl, Nat.le_of_ble_eq_true rfl⟩) hP hS (fun ce q9 H locs hP hS hz9 hq9 hc9 hv9 hcl9 => ?_)
  exact vx_out (fun x9 h9 => (htab x9 h9).elim) hlocks hc9 hv9 hcl9 (fun t h1 h2 => ⟨(), trivial, rfl, hS.F h1⟩) hS.2.2 (Nat.le_of_ble_eq_true rfl) (Nat.le_of_ble_eq_true rfl)

set_option maxHeartbeats 4000000 in
set_option maxRecDepth 100000 in
/-- offset, no reference -/
theorem t_X7_offset_1 (l : Launch) (dC : Nat → ClassId) (dI : Nat → Nat → Nat) (cI cZ cJ : ClassId) (hO : Nat) (a1 : Nat) (a2 : Nat) (a3 : Nat) (a4 : Nat) (a5 : Nat) (a6 : Nat) (a7 : Nat) (a8 : Nat) (a9 : Nat) (a10 : Nat) (a11 : Nat) (a12 : Nat) (a13 : Nat) (a14 : Nat) (a15 : Nat) (tb : Bool) (kb : Bool) (sfb : Bool) (dx : Int32) (dy : Int32) (tp : Int32) (p0 : Int32) (q0 : Int32) (p1 : Int32) (q1 : Int32) (rl : Int32) (sk : Nat) (tr : Nat) (co : Nat) (w : Nat) (h : Nat) (fw : Nat) (fh : Nat) (rwd : Nat) (rht : Nat) (k : Nat) (wa : Nat) (wc : Nat) (wt : Nat) (ra : Nat) (b : Nat) (pf : Nat → Int32) (ff : Nat → Int32) (rg : Nat → Int32) (f : Nat → Int32) (rc : Int64) (SW : Nat → Nat) (SR : Nat → Nat) (x : Int32) (y : Int32) (hl0 : l.stackTraces = false) : vx_Met l yX7_offset wsX7_offset ({ frames := 7, cells := 1, slots := 6, locals := 110 }) (hw_RoX (dC, dI) vwCl (ty3 cI cZ cJ) [(hO, .inr (6, [.ref a1, .ref a3, .ref a5, .ref a8, .ref a10, .ref a13, .int (sp_z tb), .int (sp_z kb), .int (sp_z false), .int (sp_z sfb), .int (nI sk), .int (nI tr), .int (nI co)])), (a1, .inr (0, [.int (nI 40), .ref a2, .int (nI w), .int (nI h)])), (a2, .inl (cI, 40 * 40, .inl pf)), (a3, .inr (0, [.int (nI 40), .ref a4, .int (nI fw), .int (nI fh)])), (a4, .inl (cI, 40 * 40, .inl ff)), (a5, .inr (4, [.ref a6, .int dx, .int dy, .int tp, .int p0, .int q0, .int p1, .int q1])), (a6, .inr (0, [.int (nI 60), .ref a7, .int (nI rwd), .int (nI rht)])), (a7, .inl (cI, 60 * 60, .inl rg)), (a8, .inr (1, [.ref a9, .int (nI k)])), (a9, .inl (cI, 4096, .inl f)), (a10, .inr (5, [.ref a11, .ref a8, .int (nI wa), .int (nI wc), .int (nI wt)])), (a11, .inr (3, [.ref a12])), (a12, .inl (cI, 8192, .inl (fun j => nI (SW j)))), (a13, .inr (2, [.ref a14, .ref a8, .int (nI ra), .long rc, .int rl, .int (nI b)])), (a14, .inr (3, [.ref a15])), (a15, .inl (cI, 8192, .inl (fun j => nI (SR j))))] [.ref hO, .int x, .int y]) hw_Nv (hw_X "java/lang/IllegalStateException") 1 6 (fun _ => False) := by
  refine vx_ofW (cc := cX7_offset) (maxL := 3) (ret := none) (by decide) rfl ?_
  intro pg ev s m args below meth cd s₁ B hml htab hv
  obtain ⟨rfl, hP, hK, hN, hZ, hX⟩ := hv
  have hx := B.exec
  have hb := B.bytes
  have hr := B.returns
  have hts := atoms_spec (ws := wsX7_offset) B.pre
  have hown : s.vm.findClass RX7 = some m.cls := findClass_of_methodNamed B.named
  have hlocks := B.notSynchronized
  have hS : va_S (fun _ => False) s.heap s.heap [] := va_S.rf
  have hk : hw_K (dC, dI) vwCl (ty3 cI cZ cJ) (fun _ => False) s := ⟨hK, hN, hZ⟩
  have hiX7 : ∀ w ∈ u_ws RX7 TX7 13, w ∈ wsX7_offset := by decide +kernel
  have hl := lv_entry ([.ref hO, .int x, .int y]) (n := 3) (Nat.le_of_ble_eq_true rfl)
  rw [lg_entry_eq]
  generalize (lg_sl ([.ref hO, .int x, .int y]) ++ List.replicate (3 - (lg_sl ([.ref hO, .int x, .int y])).length) Slot.unset).toArray = ls at hl ⊢
  have hl : lv_has ls 3 [(0, .ref hO), (1, .int x), (2, .int y)] := hl
  refine lv_aload_n hx hb dX7_offset_0 rfl (lv_at hl 0 rfl) ?_
  refine hw_callXv (vx_runV (As := []) (rest := []) ⟨hx, hb, hml, hown, hts⟩ (t_X7_requireReference l dC dI cI cZ cJ hO a1 a2 a3 a4 a5 a6 a7 a8 a9 a10 a11 a12 a13 a14 a15 tb kb sfb dx dy tp p0 q0 p1 q1 rl sk tr co w h fw fh rwd rht k wa wc wt ra b pf ff rg f rc SW SR hl0) (cwV 0 hts gX7_offset_X7_requireReference rfl rfl rfl (by decide +kernel) ⟨Nat.le_of_ble_eq_true rfl, Nat.le_of_ble_eq_true rfl⟩) (hw_roXV hP hS hk hX [0, 1, 2, 3, 4, 5, 6, 7, 8, 9, 10, 11, 12, 13, 14, 15] rfl (ci := 6) (q0 := 0) rfl rfl) rfl rfl hl.1 rfl (lv_room (Nat.le_of_ble_eq_true rfl)) dX7_offset_1 ⟨Nat.le_of_ble_eq_true rfl, Nat.le_of_ble_eq_true rfl⟩) hP hS (fun ce q9 H locs hP hS hz9 hq9 hc9 hv9 hcl9 => ?_)
  exact vx_out (fun x9 h9 => (htab x9 h9).elim) hlocks hc9 hv9 hcl9 (fun t h1 h2 => ⟨(), trivial, rfl, hS.F h1⟩) hS.2.2 (Nat.le_of_ble_eq_true rfl) (Nat.le_of_ble_eq_true rfl)

set_option maxHeartbeats 4000000 in
set_option maxRecDepth 100000 in
/-- context, no reference -/
theorem t_X7_context_1 (l : Launch) (dC : Nat → ClassId) (dI : Nat → Nat → Nat) (cI cZ cJ : ClassId) (hO : Nat) (a1 : Nat) (a2 : Nat) (a3 : Nat) (a4 : Nat) (a5 : Nat) (a6 : Nat) (a7 : Nat) (a8 : Nat) (a9 : Nat) (a10 : Nat) (a11 : Nat) (a12 : Nat) (a13 : Nat) (a14 : Nat) (a15 : Nat) (tb : Bool) (kb : Bool) (sfb : Bool) (dx : Int32) (dy : Int32) (tp : Int32) (p0 : Int32) (q0 : Int32) (p1 : Int32) (q1 : Int32) (rl : Int32) (sk : Nat) (tr : Nat) (co : Nat) (w : Nat) (h : Nat) (fw : Nat) (fh : Nat) (rwd : Nat) (rht : Nat) (k : Nat) (wa : Nat) (wc : Nat) (wt : Nat) (ra : Nat) (b : Nat) (pf : Nat → Int32) (ff : Nat → Int32) (rg : Nat → Int32) (f : Nat → Int32) (rc : Int64) (SW : Nat → Nat) (SR : Nat → Nat) (x : Int32) (y : Int32) (hl0 : l.stackTraces = false) : vx_Met l yX7_context wsX7_context ({ frames := 7, cells := 1, slots := 6, locals := 110 }) (hw_RoX (dC, dI) vwCl (ty3 cI cZ cJ) [(hO, .inr (6, [.ref a1, .ref a3, .ref a5, .ref a8, .ref a10, .ref a13, .int (sp_z tb), .int (sp_z kb), .int (sp_z false), .int (sp_z sfb), .int (nI sk), .int (nI tr), .int (nI co)])), (a1, .inr (0, [.int (nI 40), .ref a2, .int (nI w), .int (nI h)])), (a2, .inl (cI, 40 * 40, .inl pf)), (a3, .inr (0, [.int (nI 40), .ref a4, .int (nI fw), .int (nI fh)])), (a4, .inl (cI, 40 * 40, .inl ff)), (a5, .inr (4, [.ref a6, .int dx, .int dy, .int tp, .int p0, .int q0, .int p1, .int q1])), (a6, .inr (0, [.int (nI 60), .ref a7, .int (nI rwd), .int (nI rht)])), (a7, .inl (cI, 60 * 60, .inl rg)), (a8, .inr (1, [.ref a9, .int (nI k)])), (a9, .inl (cI, 4096, .inl f)), (a10, .inr (5, [.ref a11, .ref a8, .int (nI wa), .int (nI wc), .int (nI wt)])), (a11, .inr (3, [.ref a12])), (a12, .inl (cI, 8192, .inl (fun j => nI (SW j)))), (a13, .inr (2, [.ref a14, .ref a8, .int (nI ra), .long rc, .int rl, .int (nI b)])), (a14, .inr (3, [.ref a15])), (a15, .inl (cI, 8192, .inl (fun j => nI (SR j))))] [.ref hO, .int x, .int y]) hw_Ni (hw_X "java/lang/IllegalStateException") 1 6 (fun _ => False) := by
  refine vx_ofW (cc := cX7_context) (maxL := 3) (ret := (some .int)) (by decide) rfl ?_
  intro pg ev s m args below meth cd s₁ B hml htab hv
  obtain ⟨rfl, hP, hK, hN, hZ, hX⟩ := hv
  have hx := B.exec
  have hb := B.bytes
  have hr := B.returns
  have hts := atoms_spec (ws := wsX7_context) B.pre
  have hown : s.vm.findClass RX7 = some m.cls := findClass_of_methodNamed B.named
  have hlocks := B.notSynchronized
  have hS : va_S (fun _ => False) s.heap s.heap [] := va_S.rf
  have hk : hw_K (dC, dI) vwCl (ty3 cI cZ cJ) (fun _ => False) s := ⟨hK, hN, hZ⟩
  have hiX7 : ∀ w ∈ u_ws RX7 TX7 13, w ∈ wsX7_context := by decide +kernel
  have hl := lv_entry ([.ref hO, .int x, .int y]) (n := 3) (Nat.le_of_ble_eq_true rfl)
  rw [lg_entry_eq]
  generalize (lg_sl ([.ref hO, .int x, .int y]) ++ List.replicate (3 - (lg_sl ([.ref hO, .int x, .int y])).length) Slot.unset).toArray = ls at hl ⊢
  have hl : lv_has ls 3 [(0, .ref hO), (1, .int x), (2, .int y)] := hl
  refine lv_aload_n hx hb dX7_context_0 rfl (lv_at hl 0 rfl) ?_
  refine hw_callXv (vx_runV (As := []) (rest := []) ⟨hx, hb, hml, hown, hts⟩ (t_X7_requireReference l dC dI cI cZ cJ hO a1 a2 a3 a4 a5 a6 a7 a8 a9 a10 a11 a12 a13 a14 a15 tb kb sfb dx dy tp p0 q0 p1 q1 rl sk tr co w h fw fh rwd rht k wa wc wt ra b pf ff rg f rc SW SR hl0) (cwV 0 hts gX7_context_X7_requireReference rfl rfl rfl (by decide +kernel) ⟨Nat.le_of_ble_eq_true rfl, Nat.le_of_ble_eq_true rfl⟩) (hw_roXV hP hS hk hX [0, 1, 2, 3, 4, 5, 6, 7, 8, 9, 10, 11, 12, 13, 14, 15] rfl (ci := 6) (q0 := 0) rfl rfl) rfl rfl hl.1 rfl (lv_room (Nat.le_of_ble_eq_true rfl)) dX7_context_1 ⟨Nat.le_of_ble_eq_true rfl, Nat.le_of_ble_eq_true rfl⟩) hP hS (fun ce q9 H locs hP hS hz9 hq9 hc9 hv9 hcl9 => ?_)
  exact vx_out (fun x9 h9 => (htab x9 h9).elim) hlocks hc9 hv9 hcl9 (fun t h1 h2 => ⟨(), trivial, rfl, hS.F h1⟩) hS.2.2 (Nat.le_of_ble_eq_true rfl) (Nat.le_of_ble_eq_true rfl)

set_option maxHeartbeats 4000000 in
set_option maxRecDepth 100000 in
/-- encode, no reference -/
theorem t_X7_encode_1 (l : Launch) (dC : Nat → ClassId) (dI : Nat → Nat → Nat) (cI cZ cJ : ClassId) (hO : Nat) (a1 : Nat) (a2 : Nat) (a3 : Nat) (a4 : Nat) (a5 : Nat) (a6 : Nat) (a7 : Nat) (a8 : Nat) (a9 : Nat) (a10 : Nat) (a11 : Nat) (a12 : Nat) (a13 : Nat) (a14 : Nat) (a15 : Nat) (tb : Bool) (kb : Bool) (sfb : Bool) (dx : Int32) (dy : Int32) (tp : Int32) (p0 : Int32) (q0 : Int32) (p1 : Int32) (q1 : Int32) (rl : Int32) (sk : Nat) (tr : Nat) (co : Nat) (w : Nat) (h : Nat) (fw : Nat) (fh : Nat) (rwd : Nat) (rht : Nat) (k : Nat) (wa : Nat) (wc : Nat) (wt : Nat) (ra : Nat) (b : Nat) (pf : Nat → Int32) (ff : Nat → Int32) (rg : Nat → Int32) (f : Nat → Int32) (rc : Int64) (SW : Nat → Nat) (SR : Nat → Nat) (hl0 : l.stackTraces = false) : vx_Met l yX7_encode wsX7_encode ({ frames := 7, cells := 1, slots := 6, locals := 110 }) (hw_RoX (dC, dI) vwCl (ty3 cI cZ cJ) [(hO, .inr (6, [.ref a1, .ref a3, .ref a5, .ref a8, .ref a10, .ref a13, .int (sp_z tb), .int (sp_z kb), .int (sp_z false), .int (sp_z sfb), .int (nI sk), .int (nI tr), .int (nI co)])), (a1, .inr (0, [.int (nI 40), .ref a2, .int (nI w), .int (nI h)])), (a2, .inl (cI, 40 * 40, .inl pf)), (a3, .inr (0, [.int (nI 40), .ref a4, .int (nI fw), .int (nI fh)])), (a4, .inl (cI, 40 * 40, .inl ff)), (a5, .inr (4, [.ref a6, .int dx, .int dy, .int tp, .int p0, .int q0, .int p1, .int q1])), (a6, .inr (0, [.int (nI 60), .ref a7, .int (nI rwd), .int (nI rht)])), (a7, .inl (cI, 60 * 60, .inl rg)), (a8, .inr (1, [.ref a9, .int (nI k)])), (a9, .inl (cI, 4096, .inl f)), (a10, .inr (5, [.ref a11, .ref a8, .int (nI wa), .int (nI wc), .int (nI wt)])), (a11, .inr (3, [.ref a12])), (a12, .inl (cI, 8192, .inl (fun j => nI (SW j)))), (a13, .inr (2, [.ref a14, .ref a8, .int (nI ra), .long rc, .int rl, .int (nI b)])), (a14, .inr (3, [.ref a15])), (a15, .inl (cI, 8192, .inl (fun j => nI (SR j))))] [.ref hO]) hw_Ni (hw_X "java/lang/IllegalStateException") 1 6 (fun _ => False) := by
  refine vx_ofW (cc := cX7_encode) (maxL := 1) (ret := (some .int)) (by decide) rfl ?_
  intro pg ev s m args below meth cd s₁ B hml htab hv
  obtain ⟨rfl, hP, hK, hN, hZ, hX⟩ := hv
  have hx := B.exec
  have hb := B.bytes
  have hr := B.returns
  have hts := atoms_spec (ws := wsX7_encode) B.pre
  have hown : s.vm.findClass RX7 = some m.cls := findClass_of_methodNamed B.named
  have hlocks := B.notSynchronized
  have hS : va_S (fun _ => False) s.heap s.heap [] := va_S.rf
  have hk : hw_K (dC, dI) vwCl (ty3 cI cZ cJ) (fun _ => False) s := ⟨hK, hN, hZ⟩
  have hiX6 : ∀ w ∈ u_ws RX6 TX6 5, w ∈ wsX7_encode := by decide +kernel
  have hiX7 : ∀ w ∈ u_ws RX7 TX7 13, w ∈ wsX7_encode := by decide +kernel
  have hl := lv_entry ([.ref hO]) (n := 1) (Nat.le_of_ble_eq_true rfl)
  rw [lg_entry_eq]
  generalize (lg_sl ([.ref hO]) ++ List.replicate (1 - (lg_sl ([.ref hO])).length) Slot.unset).toArray = ls at hl ⊢
  have hl : lv_has ls 1 [(0, .ref hO)] := hl
  refine lv_aload_n hx hb dX7_encode_0 rfl (lv_at hl 0 rfl) ?_
  refine hw_callXv (vx_runV (As := []) (rest := []) ⟨hx, hb, hml, hown, hts⟩ (t_X7_requireReference l dC dI cI cZ cJ hO a1 a2 a3 a4 a5 a6 a7 a8 a9 a10 a11 a12 a13 a14 a15 tb kb sfb dx dy tp p0 q0 p1 q1 rl sk tr co w h fw fh rwd rht k wa wc wt ra b pf ff rg f rc SW SR hl0) (cwV 0 hts gX7_encode_X7_requireReference rfl rfl rfl (by decide +kernel) ⟨Nat.le_of_ble_eq_true rfl, Nat.le_of_ble_eq_true rfl⟩) (hw_roXV hP hS hk hX [0, 1, 2, 3, 4, 5, 6, 7, 8, 9, 10, 11, 12, 13, 14, 15] rfl (ci := 6) (q0 := 0) rfl rfl) rfl rfl hl.1 rfl (lv_room (Nat.le_of_ble_eq_true rfl)) dX7_encode_1 ⟨Nat.le_of_ble_eq_true rfl, Nat.le_of_ble_eq_true rfl⟩) hP hS (fun ce q9 H locs hP hS hz9 hq9 hc9 hv9 hcl9 => ?_)
  exact vx_out (fun x9 h9 => (htab x9 h9).elim) hlocks hc9 hv9 hcl9 (fun t h1 h2 => ⟨(), trivial, rfl, hS.F h1⟩) hS.2.2 (Nat.le_of_ble_eq_true rfl) (Nat.le_of_ble_eq_true rfl)

set_option maxHeartbeats 4000000 in
set_option maxRecDepth 100000 in
/-- decode, no reference -/
theorem t_X7_decode_1 (l : Launch) (dC : Nat → ClassId) (dI : Nat → Nat → Nat) (cI cZ cJ : ClassId) (hO : Nat) (a1 : Nat) (a2 : Nat) (a3 : Nat) (a4 : Nat) (a5 : Nat) (a6 : Nat) (a7 : Nat) (a8 : Nat) (a9 : Nat) (a10 : Nat) (a11 : Nat) (a12 : Nat) (a13 : Nat) (a14 : Nat) (a15 : Nat) (tb : Bool) (kb : Bool) (sfb : Bool) (dx : Int32) (dy : Int32) (tp : Int32) (p0 : Int32) (q0 : Int32) (p1 : Int32) (q1 : Int32) (rl : Int32) (sk : Nat) (tr : Nat) (co : Nat) (w : Nat) (h : Nat) (fw : Nat) (fh : Nat) (rwd : Nat) (rht : Nat) (k : Nat) (wa : Nat) (wc : Nat) (wt : Nat) (ra : Nat) (b : Nat) (pf : Nat → Int32) (ff : Nat → Int32) (rg : Nat → Int32) (f : Nat → Int32) (rc : Int64) (SW : Nat → Nat) (SR : Nat → Nat) (hl0 : l.stackTraces = false) : vx_Met l yX7_decode wsX7_decode ({ frames := 7, cells := 1, slots := 6, locals := 110 }) (hw_RoX (dC, dI) vwCl (ty3 cI cZ cJ) [(hO, .inr (6, [.ref a1, .ref a3, .ref a5, .ref a8, .ref a10, .ref a13, .int (sp_z tb), .int (sp_z kb), .int (sp_z false), .int (sp_z sfb), .int (nI sk), .int (nI tr), .int (nI co)])), (a1, .inr (0, [.int (nI 40), .ref a2, .int (nI w), .int (nI h)])), (a2, .inl (cI, 40 * 40, .inl pf)), (a3, .inr (0, [.int (nI 40), .ref a4, .int (nI fw), .int (nI fh)])), (a4, .inl (cI, 40 * 40, .inl ff)), (a5, .inr (4, [.ref a6, .int dx, .int dy, .int tp, .int p0, .int q0, .int p1, .int q1])), (a6, .inr (0, [.int (nI 60), .ref a7, .int (nI rwd), .int (nI rht)])), (a7, .inl (cI, 60 * 60, .inl rg)), (a8, .inr (1, [.ref a9, .int (nI k)])), (a9, .inl (cI, 4096, .inl f)), (a10, .inr (5, [.ref a11, .ref a8, .int (nI wa), .int (nI wc), .int (nI wt)])), (a11, .inr (3, [.ref a12])), (a12, .inl (cI, 8192, .inl (fun j => nI (SW j)))), (a13, .inr (2, [.ref a14, .ref a8, .int (nI ra), .long rc, .int rl, .int (nI b)])), (a14, .inr (3, [.ref a15])), (a15, .inl (cI, 8192, .inl (fun j => nI (SR j))))] [.ref hO]) hw_Ni (hw_X "java/lang/IllegalStateException") 1 6 (fun _ => False) := by
  refine vx_ofW (cc := cX7_decode) (maxL := 1) (ret := (some .int)) (by decide) rfl ?_
  intro pg ev s m args below meth cd s₁ B hml htab hv
  obtain ⟨rfl, hP, hK, hN, hZ, hX⟩ := hv
  have hx := B.exec
  have hb := B.bytes
  have hr := B.returns
  have hts := atoms_spec (ws := wsX7_decode) B.pre
  have hown : s.vm.findClass RX7 = some m.cls := findClass_of_methodNamed B.named
  have hlocks := B.notSynchronized
  have hS : va_S (fun _ => False) s.heap s.heap [] := va_S.rf
  have hk : hw_K (dC, dI) vwCl (ty3 cI cZ cJ) (fun _ => False) s := ⟨hK, hN, hZ⟩
  have hiX1 : ∀ w ∈ u_ws RX1 TX1 4, w ∈ wsX7_decode := by decide +kernel
  have hiX3 : ∀ w ∈ u_ws RX3 TX3 6, w ∈ wsX7_decode := by decide +kernel
  have hiX7 : ∀ w ∈ u_ws RX7 TX7 13, w ∈ wsX7_decode := by decide +kernel
  have hl := lv_entry ([.ref hO]) (n := 1) (Nat.le_of_ble_eq_true rfl)
  rw [lg_entry_eq]
  generalize (lg_sl ([.ref hO]) ++ List.replicate (1 - (lg_sl ([.ref hO])).length) Slot.unset).toArray = ls at hl ⊢
  have hl : lv_has ls 1 [(0, .ref hO)] := hl
  refine lv_aload_n hx hb dX7_decode_0 rfl (lv_at hl 0 rfl) ?_
  refine hw_callXv (vx_runV (As := []) (rest := []) ⟨hx, hb, hml, hown, hts⟩ (t_X7_requireReference l dC dI cI cZ cJ hO a1 a2 a3 a4 a5 a6 a7 a8 a9 a10 a11 a12 a13 a14 a15 tb kb sfb dx dy tp p0 q0 p1 q1 rl sk tr co w h fw fh rwd rht k wa wc wt ra b pf ff rg f rc SW SR hl0) (cwV 0 hts gX7_decode_X7_requireReference rfl rfl rfl (by decide +kernel) ⟨Nat.le_of_ble_eq_true rfl, Nat.le_of_ble_eq_true rfl⟩) (hw_roXV hP hS hk hX [0, 1, 2, 3, 4, 5, 6, 7, 8, 9, 10, 11, 12, 13, 14, 15] rfl (ci := 6) (q0 := 0) rfl rfl) rfl rfl hl.1 rfl (lv_room (Nat.le_of_ble_eq_true rfl)) dX7_decode_1 ⟨Nat.le_of_ble_eq_true rfl, Nat.le_of_ble_eq_true rfl⟩) hP hS (fun ce q9 H locs hP hS hz9 hq9 hc9 hv9 hcl9 => ?_)
  exact vx_out (fun x9 h9 => (htab x9 h9).elim) hlocks hc9 hv9 hcl9 (fun t h1 h2 => ⟨(), trivial, rfl, hS.F h1⟩) hS.2.2 (Nat.le_of_ble_eq_true rfl) (Nat.le_of_ble_eq_true rfl)

set_option maxHeartbeats 4000000 in
set_option maxRecDepth 100000 in
/-- refer, no such pixel -/
theorem t_X7_refer_2 (l : Launch) (dC : Nat → ClassId) (dI : Nat → Nat → Nat) (cI cZ cJ : ClassId) (hO : Nat) (a1 : Nat) (a2 : Nat) (a3 : Nat) (a4 : Nat) (a5 : Nat) (a6 : Nat) (a7 : Nat) (a8 : Nat) (a9 : Nat) (a10 : Nat) (a11 : Nat) (a12 : Nat) (a13 : Nat) (a14 : Nat) (a15 : Nat) (tb : Bool) (kb : Bool) (sfb : Bool) (dx : Int32) (dy : Int32) (tp : Int32) (p0 : Int32) (q0 : Int32) (p1 : Int32) (q1 : Int32) (rl : Int32) (sk : Nat) (tr : Nat) (co : Nat) (w : Nat) (h : Nat) (fw : Nat) (fh : Nat) (rwd : Nat) (rht : Nat) (k : Nat) (wa : Nat) (wc : Nat) (wt : Nat) (ra : Nat) (b : Nat) (pf : Nat → Int32) (ff : Nat → Int32) (rg : Nat → Int32) (f : Nat → Int32) (rc : Int64) (SW : Nat → Nat) (SR : Nat → Nat) (x : Int32) (y : Int32) (bb : Bool) (hxy : sp_ho (nI rwd) (nI rht) x y = 0) (hl0 : l.stackTraces = false) : vx_Met l yX7_refer wsX7_refer ({ frames := 6, cells := 1, slots := 6, locals := 90 }) (hw_RoX (dC, dI) vwCl (ty3 cI cZ cJ) [(hO, .inr (6, [.ref a1, .ref a3, .ref a5, .ref a8, .ref a10, .ref a13, .int (sp_z tb), .int (sp_z kb), .int (sp_z true), .int (sp_z sfb), .int (nI sk), .int (nI tr), .int (nI co)])), (a1, .inr (0, [.int (nI 40), .ref a2, .int (nI w), .int (nI h)])), (a2, .inl (cI, 40 * 40, .inl pf)), (a3, .inr (0, [.int (nI 40), .ref a4, .int (nI fw), .int (nI fh)])), (a4, .inl (cI, 40 * 40, .inl ff)), (a5, .inr (4, [.ref a6, .int dx, .int dy, .int tp, .int p0, .int q0, .int p1, .int q1])), (a6, .inr (0, [.int (nI 60), .ref a7, .int (nI rwd), .int (nI rht)])), (a7, .inl (cI, 60 * 60, .inl rg)), (a8, .inr (1, [.ref a9, .int (nI k)])), (a9, .inl (cI, 4096, .inl f)), (a10, .inr (5, [.ref a11, .ref a8, .int (nI wa), .int (nI wc), .int (nI wt)])), (a11, .inr (3, [.ref a12])), (a12, .inl (cI, 8192, .inl (fun j => nI (SW j)))), (a13, .inr (2, [.ref a14, .ref a8, .int (nI ra), .long rc, .int rl, .int (nI b)])), (a14, .inr (3, [.ref a15])), (a15, .inl (cI, 8192, .inl (fun j => nI (SR j))))] [.ref hO, .int x, .int y, .int (sp_z bb)]) hw_Ni (hw_X "java/lang/IndexOutOfBoundsException") 1 6 (fun _ => False) := by
  refine vx_ofW (cc := cX7_refer) (maxL := 5) (ret := (some .boolean)) (by decide) rfl ?_
  intro pg ev s m args below meth cd s₁ B hml htab hv
  obtain ⟨rfl, hP, hK, hN, hZ, hX⟩ := hv
  have hx := B.exec
  have hb := B.bytes
  have hr := B.returns
  have hts := atoms_spec (ws := wsX7_refer) B.pre
  have hown : s.vm.findClass RX7 = some m.cls := findClass_of_methodNamed B.named
  have hlocks := B.notSynchronized
  have hS : va_S (fun _ => False) s.heap s.heap [] := va_S.rf
  have hk : hw_K (dC, dI) vwCl (ty3 cI cZ cJ) (fun _ => False) s := ⟨hK, hN, hZ⟩
  have hiX5 : ∀ w ∈ u_ws RX5 TX5 8, w ∈ wsX7_refer := by decide +kernel
  have hiX7 : ∀ w ∈ u_ws RX7 TX7 13, w ∈ wsX7_refer := by decide +kernel
  have hl := lv_entry ([.ref hO, .int x, .int y, .int (sp_z bb)]) (n := 5) (Nat.le_of_ble_eq_true rfl)
  rw [lg_entry_eq]
  generalize (lg_sl ([.ref hO, .int x, .int y, .int (sp_z bb)]) ++ List.replicate (5 - (lg_sl ([.ref hO, .int x, .int y, .int (sp_z bb)])).length) Slot.unset).toArray = ls at hl ⊢
  have hl : lv_has ls 5 [(0, .ref hO), (1, .int x), (2, .int y), (3, .int (sp_z bb))] := hl
  refine lv_aload_n hx hb dX7_refer_0 rfl (lv_at hl 0 rfl) ?_
  refine hw_callNv (va_runV (As := []) (rest := []) ⟨hx, hb, hml, hown, hts⟩ (v_X7_requireReference l dC dI cI cZ cJ hO a1 a2 a3 a4 a5 a6 a7 a8 a9 a10 a11 a12 a13 a14 a15 tb kb sfb dx dy tp p0 q0 p1 q1 rl sk tr co w h fw fh rwd rht k wa wc wt ra b pf ff rg f rc SW SR) (cwV 0 hts gX7_refer_X7_requireReference rfl rfl rfl (by decide +kernel) ⟨Nat.le_of_ble_eq_true rfl, Nat.le_of_ble_eq_true rfl⟩) (hw_roV hP hS hk [0, 1, 2, 3, 4, 5, 6, 7, 8, 9, 10, 11, 12, 13, 14, 15] rfl (ci := 6) (q0 := 0) rfl rfl) rfl rfl hl.1 rfl (lv_room (Nat.le_of_ble_eq_true rfl)) dX7_refer_1 ⟨Nat.le_of_ble_eq_true rfl, Nat.le_of_ble_eq_true rfl⟩) hP hS (fun H locs hP hS => ?_)
  refine lv_aload_n hx hb dX7_refer_4 rfl (lv_at hl 0 rfl) ?_
  refine va_get (D := (dC, dI)) (ci := 6) (v := .ref a5) (C := RX7) (T := TX7) (N := 13) hx hb hts hiX7 hown hK hP 0 rfl rfl 2 (by decide) (hts (.fieldLink RX7 24 "RefineRegions" "around" "LRefineRegions$Surroundings;") (by decide +kernel)) (fun _ h9 => h9) rfl dX7_refer_5 ?_
  refine va_getN (D := (dC, dI)) (ci := 4) (v := .ref a6) (C := RX5) (T := TX5) (N := 8) hx hb hts hiX5 hown hK hP 5 rfl rfl 0 (by decide) (va_Nw.use rfl (nw_X7_123 hN)) (fun _ h9 => h9) rfl dX7_refer_8 ?_
  refine lv_iload_n hx hb dX7_refer_11 rfl (lv_at hl 1 rfl) ?_
  refine lv_iload_n hx hb dX7_refer_12 rfl (lv_at hl 2 rfl) ?_
  refine hw_callSe (va_runVN (As := [.int x, .int y]) (rest := []) ⟨hx, hb, hml, hown, hts⟩ (c_X1_holds l dC dI cI cZ cJ a6 a7 60 rwd rht rg x y) ⟨va_cnB 2 hts gX7_refer_X1_holds_n104 rfl rfl rfl (nw_X7_104 hN) (hts (.initialized RX1) (by decide +kernel)) (by decide +kernel) ⟨Nat.le_of_ble_eq_true rfl, Nat.le_of_ble_eq_true rfl⟩, hts (.instanceMethod yX1_holds) (by decide +kernel), hts (.selects RX1 yX1_holds yX1_holds) (by decide +kernel)⟩ (hw_roV hP hS hk [6, 7] rfl (ci := 0) (q0 := 6) rfl rfl) rfl rfl hl.1 rfl (lv_room (Nat.le_of_ble_eq_true rfl)) dX7_refer_13 ⟨Nat.le_of_ble_eq_true rfl, Nat.le_of_ble_eq_true rfl⟩) ?_
  refine lv_if_ne (tgt := 29) hx hb dX7_refer_16 (by decide) (fun c_16 => absurd c_16 (fun h9 => h9 hxy)) (fun c_16 => ?_)
  obtain ⟨sa, hsa⟩ := hX.2.1 (132, "no such pixel in the reference") (by decide +kernel)
  exact vx_throwS (A := fun _ => False) (names := ["java/lang/RuntimeException", "java/lang/Exception"]) hx hb hl0 hown (by decide +kernel) (by decide +kernel) (hts (.classLink RX7 108 "java/lang/IndexOutOfBoundsException") (by decide +kernel)) (hts (.initialized "java/lang/IndexOutOfBoundsException") (by decide +kernel)) hsa (xt_hat hX hts xm_X7_refer_i xt_2i) xt_gi hX.2.2.1 hX.2.2.2.1 hS (by rw [hml]; exact hl.1) dX7_refer_19 dX7_refer_22 dX7_refer_23 dX7_refer_25 dX7_refer_28 (fun x9 h9 => (htab x9 h9).elim) (Nat.le_of_ble_eq_true rfl) (Nat.le_of_ble_eq_true rfl) (Nat.le_of_ble_eq_true rfl) (Nat.le_of_ble_eq_true rfl) hlocks (fun t h1 h2 h3 => ⟨(), trivial, rfl, Nat.le_trans hS.1 h2, fun q hq _ => (h3 q (Nat.lt_of_lt_of_le hq hS.1)).trans (hS.2.1 q hq (fun z => z))⟩) hS.2.2 (Nat.le_of_ble_eq_true rfl) (Nat.le_of_ble_eq_true rfl)

set_option maxHeartbeats 4000000 in
set_option maxRecDepth 100000 in
/-- offset, out of bounds -/
theorem t_X7_offset_2 (l : Launch) (dC : Nat → ClassId) (dI : Nat → Nat → Nat) (cI cZ cJ : ClassId) (hO : Nat) (a1 : Nat) (a2 : Nat) (a3 : Nat) (a4 : Nat) (a5 : Nat) (a6 : Nat) (a7 : Nat) (a8 : Nat) (a9 : Nat) (a10 : Nat) (a11 : Nat) (a12 : Nat) (a13 : Nat) (a14 : Nat) (a15 : Nat) (tb : Bool) (kb : Bool) (sfb : Bool) (dx : Int32) (dy : Int32) (tp : Int32) (p0 : Int32) (q0 : Int32) (p1 : Int32) (q1 : Int32) (rl : Int32) (sk : Nat) (tr : Nat) (co : Nat) (w : Nat) (h : Nat) (fw : Nat) (fh : Nat) (rwd : Nat) (rht : Nat) (k : Nat) (wa : Nat) (wc : Nat) (wt : Nat) (ra : Nat) (b : Nat) (pf : Nat → Int32) (ff : Nat → Int32) (rg : Nat → Int32) (f : Nat → Int32) (rc : Int64) (SW : Nat → Nat) (SR : Nat → Nat) (x : Int32) (y : Int32) (hno : sp_iw x (-20) 20 = 0 ∨ sp_iw y (-20) 20 = 0) (hl0 : l.stackTraces = false) : vx_Met l yX7_offset wsX7_offset ({ frames := 6, cells := 1, slots := 6, locals := 90 }) (hw_RoX (dC, dI) vwCl (ty3 cI cZ cJ) [(hO, .inr (6, [.ref a1, .ref a3, .ref a5, .ref a8, .ref a10, .ref a13, .int (sp_z tb), .int (sp_z kb), .int (sp_z true), .int (sp_z sfb), .int (nI sk), .int (nI tr), .int (nI co)])), (a1, .inr (0, [.int (nI 40), .ref a2, .int (nI w), .int (nI h)])), (a2, .inl (cI, 40 * 40, .inl pf)), (a3, .inr (0, [.int (nI 40), .ref a4, .int (nI fw), .int (nI fh)])), (a4, .inl (cI, 40 * 40, .inl ff)), (a5, .inr (4, [.ref a6, .int dx, .int dy, .int tp, .int p0, .int q0, .int p1, .int q1])), (a6, .inr (0, [.int (nI 60), .ref a7, .int (nI rwd), .int (nI rht)])), (a7, .inl (cI, 60 * 60, .inl rg)), (a8, .inr (1, [.ref a9, .int (nI k)])), (a9, .inl (cI, 4096, .inl f)), (a10, .inr (5, [.ref a11, .ref a8, .int (nI wa), .int (nI wc), .int (nI wt)])), (a11, .inr (3, [.ref a12])), (a12, .inl (cI, 8192, .inl (fun j => nI (SW j)))), (a13, .inr (2, [.ref a14, .ref a8, .int (nI ra), .long rc, .int rl, .int (nI b)])), (a14, .inr (3, [.ref a15])), (a15, .inl (cI, 8192, .inl (fun j => nI (SR j))))] [.ref hO, .int x, .int y]) hw_Nv (hw_X "java/lang/IllegalArgumentException") 1 6 (fun _ => False) := by
  refine vx_ofW (cc := cX7_offset) (maxL := 3) (ret := none) (by decide) rfl ?_
  intro pg ev s m args below meth cd s₁ B hml htab hv
  obtain ⟨rfl, hP, hK, hN, hZ, hX⟩ := hv
  have hx := B.exec
  have hb := B.bytes
  have hr := B.returns
  have hts := atoms_spec (ws := wsX7_offset) B.pre
  have hown : s.vm.findClass RX7 = some m.cls := findClass_of_methodNamed B.named
  have hlocks := B.notSynchronized
  have hS : va_S (fun _ => False) s.heap s.heap [] := va_S.rf
  have hk : hw_K (dC, dI) vwCl (ty3 cI cZ cJ) (fun _ => False) s := ⟨hK, hN, hZ⟩
  have hiX7 : ∀ w ∈ u_ws RX7 TX7 13, w ∈ wsX7_offset := by decide +kernel
  have hl := lv_entry ([.ref hO, .int x, .int y]) (n := 3) (Nat.le_of_ble_eq_true rfl)
  rw [lg_entry_eq]
  generalize (lg_sl ([.ref hO, .int x, .int y]) ++ List.replicate (3 - (lg_sl ([.ref hO, .int x, .int y])).length) Slot.unset).toArray = ls at hl ⊢
  have hl : lv_has ls 3 [(0, .ref hO), (1, .int x), (2, .int y)] := hl
  refine lv_aload_n hx hb dX7_offset_0 rfl (lv_at hl 0 rfl) ?_
  refine hw_callNv (va_runV (As := []) (rest := []) ⟨hx, hb, hml, hown, hts⟩ (v_X7_requireReference l dC dI cI cZ cJ hO a1 a2 a3 a4 a5 a6 a7 a8 a9 a10 a11 a12 a13 a14 a15 tb kb sfb dx dy tp p0 q0 p1 q1 rl sk tr co w h fw fh rwd rht k wa wc wt ra b pf ff rg f rc SW SR) (cwV 0 hts gX7_offset_X7_requireReference rfl rfl rfl (by decide +kernel) ⟨Nat.le_of_ble_eq_true rfl, Nat.le_of_ble_eq_true rfl⟩) (hw_roV hP hS hk [0, 1, 2, 3, 4, 5, 6, 7, 8, 9, 10, 11, 12, 13, 14, 15] rfl (ci := 6) (q0 := 0) rfl rfl) rfl rfl hl.1 rfl (lv_room (Nat.le_of_ble_eq_true rfl)) dX7_offset_1 ⟨Nat.le_of_ble_eq_true rfl, Nat.le_of_ble_eq_true rfl⟩) hP hS (fun H locs hP hS => ?_)
  refine lv_iload_n hx hb dX7_offset_4 rfl (lv_at hl 1 rfl) ?_
  refine lv_bipush (v := (-20)) hx hb dX7_offset_5 (by decide) ?_
  refine lv_bipush (v := 20) hx hb dX7_offset_7 (by decide) ?_
  refine hw_callSe (va_runS (As := [.int x, .int (-20), .int 20]) (rest := []) ⟨hx, hb, hml, hown, hts⟩ (c_X7_isWithin l dC dI cI cZ cJ x (-20) 20) (cwS 3 hts gX7_offset_X7_isWithin rfl rfl rfl (by decide +kernel) ⟨Nat.le_of_ble_eq_true rfl, Nat.le_of_ble_eq_true rfl⟩) (hw_ro hP hS hk [] rfl) rfl rfl hl.1 rfl (lv_room (Nat.le_of_ble_eq_true rfl)) dX7_offset_9 ⟨Nat.le_of_ble_eq_true rfl, Nat.le_of_ble_eq_true rfl⟩) ?_
  refine lv_if_eq (tgt := 26) hx hb dX7_offset_12 (by decide) (fun c_12 => ?_) (fun c_12 => ?_)
  · obtain ⟨sa, hsa⟩ := hX.2.1 (134, "an offset is -20 to 20") (by decide +kernel)
    exact vx_throwS (A := fun _ => False) (names := ["java/lang/RuntimeException", "java/lang/Exception"]) hx hb hl0 hown (by decide +kernel) (by decide +kernel) (hts (.classLink RX7 82 "java/lang/IllegalArgumentException") (by decide +kernel)) (hts (.initialized "java/lang/IllegalArgumentException") (by decide +kernel)) hsa (xt_hat hX hts xm_X7_offset_a xt_2a) xt_ga hX.2.2.1 hX.2.2.2.1 hS (by rw [hml]; exact hl.1) dX7_offset_26 dX7_offset_29 dX7_offset_30 dX7_offset_32 dX7_offset_35 (fun x9 h9 => (htab x9 h9).elim) (Nat.le_of_ble_eq_true rfl) (Nat.le_of_ble_eq_true rfl) (Nat.le_of_ble_eq_true rfl) (Nat.le_of_ble_eq_true rfl) hlocks (fun t h1 h2 h3 => ⟨(), trivial, rfl, Nat.le_trans hS.1 h2, fun q hq _ => (h3 q (Nat.lt_of_lt_of_le hq hS.1)).trans (hS.2.1 q hq (fun z => z))⟩) hS.2.2 (Nat.le_of_ble_eq_true rfl) (Nat.le_of_ble_eq_true rfl)
  · refine lv_iload_n hx hb dX7_offset_15 rfl (lv_at hl 2 rfl) ?_
    refine lv_bipush (v := (-20)) hx hb dX7_offset_16 (by decide) ?_
    refine lv_bipush (v := 20) hx hb dX7_offset_18 (by decide) ?_
    refine hw_callSe (va_runS (As := [.int y, .int (-20), .int 20]) (rest := []) ⟨hx, hb, hml, hown, hts⟩ (c_X7_isWithin l dC dI cI cZ cJ y (-20) 20) (cwS 3 hts gX7_offset_X7_isWithin rfl rfl rfl (by decide +kernel) ⟨Nat.le_of_ble_eq_true rfl, Nat.le_of_ble_eq_true rfl⟩) (hw_ro hP hS hk [] rfl) rfl rfl hl.1 rfl (lv_room (Nat.le_of_ble_eq_true rfl)) dX7_offset_20 ⟨Nat.le_of_ble_eq_true rfl, Nat.le_of_ble_eq_true rfl⟩) ?_
    refine lv_if_ne (tgt := 36) hx hb dX7_offset_23 (by decide) (fun c_23 => absurd c_23 (fun h9 => hno.elim c_12 h9)) (fun c_23 => ?_)
    obtain ⟨sa, hsa⟩ := hX.2.1 (134, "an offset is -20 to 20") (by decide +kernel)
    exact vx_throwS (A := fun _ => False) (names := ["java/lang/RuntimeException", "java/lang/Exception"]) hx hb hl0 hown (by decide +kernel) (by decide +kernel) (hts (.classLink RX7 82 "java/lang/IllegalArgumentException") (by decide +kernel)) (hts (.initialized "java/lang/IllegalArgumentException") (by decide +kernel)) hsa (xt_hat hX hts xm_X7_offset_a xt_2a) xt_ga hX.2.2.1 hX.2.2.2.1 hS (by rw [hml]; exact hl.1) dX7_offset_26 dX7_offset_29 dX7_offset_30 dX7_offset_32 dX7_offset_35 (fun x9 h9 => (htab x9 h9).elim) (Nat.le_of_ble_eq_true rfl) (Nat.le_of_ble_eq_true rfl) (Nat.le_of_ble_eq_true rfl) (Nat.le_of_ble_eq_true rfl) hlocks (fun t h1 h2 h3 => ⟨(), trivial, rfl, Nat.le_trans hS.1 h2, fun q hq _ => (h3 q (Nat.lt_of_lt_of_le hq hS.1)).trans (hS.2.1 q hq (fun z => z))⟩) hS.2.2 (Nat.le_of_ble_eq_true rfl) (Nat.le_of_ble_eq_true rfl)

set_option maxHeartbeats 4000000 in
set_option maxRecDepth 100000 in
/-- context, no such pixel -/
theorem t_X7_context_2 (l : Launch) (dC : Nat → ClassId) (dI : Nat → Nat → Nat) (cI cZ cJ : ClassId) (hO : Nat) (a1 : Nat) (a2 : Nat) (a3 : Nat) (a4 : Nat) (a5 : Nat) (a6 : Nat) (a7 : Nat) (a8 : Nat) (a9 : Nat) (a10 : Nat) (a11 : Nat) (a12 : Nat) (a13 : Nat) (a14 : Nat) (a15 : Nat) (tb : Bool) (kb : Bool) (sfb : Bool) (dx : Int32) (dy : Int32) (tp : Int32) (p0 : Int32) (q0 : Int32) (p1 : Int32) (q1 : Int32) (rl : Int32) (sk : Nat) (tr : Nat) (co : Nat) (w : Nat) (h : Nat) (fw : Nat) (fh : Nat) (rwd : Nat) (rht : Nat) (k : Nat) (wa : Nat) (wc : Nat) (wt : Nat) (ra : Nat) (b : Nat) (pf : Nat → Int32) (ff : Nat → Int32) (rg : Nat → Int32) (f : Nat → Int32) (rc : Int64) (SW : Nat → Nat) (SR : Nat → Nat) (x : Int32) (y : Int32) (hxy : sp_ho (nI w) (nI h) x y = 0) (hl0 : l.stackTraces = false) : vx_Met l yX7_context wsX7_context ({ frames := 6, cells := 1, slots := 6, locals := 90 }) (hw_RoX (dC, dI) vwCl (ty3 cI cZ cJ) [(hO, .inr (6, [.ref a1, .ref a3, .ref a5, .ref a8, .ref a10, .ref a13, .int (sp_z tb), .int (sp_z kb), .int (sp_z true), .int (sp_z sfb), .int (nI sk), .int (nI tr), .int (nI co)])), (a1, .inr (0, [.int (nI 40), .ref a2, .int (nI w), .int (nI h)])), (a2, .inl (cI, 40 * 40, .inl pf)), (a3, .inr (0, [.int (nI 40), .ref a4, .int (nI fw), .int (nI fh)])), (a4, .inl (cI, 40 * 40, .inl ff)), (a5, .inr (4, [.ref a6, .int dx, .int dy, .int tp, .int p0, .int q0, .int p1, .int q1])), (a6, .inr (0, [.int (nI 60), .ref a7, .int (nI rwd), .int (nI rht)])), (a7, .inl (cI, 60 * 60, .inl rg)), (a8, .inr (1, [.ref a9, .int (nI k)])), (a9, .inl (cI, 4096, .inl f)), (a10, .inr (5, [.ref a11, .ref a8, .int (nI wa), .int (nI wc), .int (nI wt)])), (a11, .inr (3, [.ref a12])), (a12, .inl (cI, 8192, .inl (fun j => nI (SW j)))), (a13, .inr (2, [.ref a14, .ref a8, .int (nI ra), .long rc, .int rl, .int (nI b)])), (a14, .inr (3, [.ref a15])), (a15, .inl (cI, 8192, .inl (fun j => nI (SR j))))] [.ref hO, .int x, .int y]) hw_Ni (hw_X "java/lang/IndexOutOfBoundsException") 1 6 (fun _ => False) := by
  refine vx_ofW (cc := cX7_context) (maxL := 3) (ret := (some .int)) (by decide) rfl ?_
  intro pg ev s m args below meth cd s₁ B hml htab hv
  obtain ⟨rfl, hP, hK, hN, hZ, hX⟩ := hv
  have hx := B.exec
  have hb := B.bytes
  have hr := B.returns
  have hts := atoms_spec (ws := wsX7_context) B.pre
  have hown : s.vm.findClass RX7 = some m.cls := findClass_of_methodNamed B.named
  have hlocks := B.notSynchronized
  have hS : va_S (fun _ => False) s.heap s.heap [] := va_S.rf
  have hk : hw_K (dC, dI) vwCl (ty3 cI cZ cJ) (fun _ => False) s := ⟨hK, hN, hZ⟩
  have hiX7 : ∀ w ∈ u_ws RX7 TX7 13, w ∈ wsX7_context := by decide +kernel
  have hl := lv_entry ([.ref hO, .int x, .int y]) (n := 3) (Nat.le_of_ble_eq_true rfl)
  rw [lg_entry_eq]
  generalize (lg_sl ([.ref hO, .int x, .int y]) ++ List.replicate (3 - (lg_sl ([.ref hO, .int x, .int y])).length) Slot.unset).toArray = ls at hl ⊢
  have hl : lv_has ls 3 [(0, .ref hO), (1, .int x), (2, .int y)] := hl
  refine lv_aload_n hx hb dX7_context_0 rfl (lv_at hl 0 rfl) ?_
  refine hw_callNv (va_runV (As := []) (rest := []) ⟨hx, hb, hml, hown, hts⟩ (v_X7_requireReference l dC dI cI cZ cJ hO a1 a2 a3 a4 a5 a6 a7 a8 a9 a10 a11 a12 a13 a14 a15 tb kb sfb dx dy tp p0 q0 p1 q1 rl sk tr co w h fw fh rwd rht k wa wc wt ra b pf ff rg f rc SW SR) (cwV 0 hts gX7_context_X7_requireReference rfl rfl rfl (by decide +kernel) ⟨Nat.le_of_ble_eq_true rfl, Nat.le_of_ble_eq_true rfl⟩) (hw_roV hP hS hk [0, 1, 2, 3, 4, 5, 6, 7, 8, 9, 10, 11, 12, 13, 14, 15] rfl (ci := 6) (q0 := 0) rfl rfl) rfl rfl hl.1 rfl (lv_room (Nat.le_of_ble_eq_true rfl)) dX7_context_1 ⟨Nat.le_of_ble_eq_true rfl, Nat.le_of_ble_eq_true rfl⟩) hP hS (fun H locs hP hS => ?_)
  refine lv_aload_n hx hb dX7_context_4 rfl (lv_at hl 0 rfl) ?_
  refine va_get (D := (dC, dI)) (ci := 6) (v := .ref a1) (C := RX7) (T := TX7) (N := 13) hx hb hts hiX7 hown hK hP 0 rfl rfl 0 (by decide) (hts (.fieldLink RX7 14 "RefineRegions" "picture" "LRefineRegions$Bitmap;") (by decide +kernel)) (fun _ h9 => h9) rfl dX7_context_5 ?_
  refine lv_iload_n hx hb dX7_context_8 rfl (lv_at hl 1 rfl) ?_
  refine lv_iload_n hx hb dX7_context_9 rfl (lv_at hl 2 rfl) ?_
  refine hw_callSe (va_runVN (As := [.int x, .int y]) (rest := []) ⟨hx, hb, hml, hown, hts⟩ (c_X1_holds l dC dI cI cZ cJ a1 a2 40 w h pf x y) ⟨va_cnB 2 hts gX7_context_X1_holds_n104 rfl rfl rfl (nw_X7_104 hN) (hts (.initialized RX1) (by decide +kernel)) (by decide +kernel) ⟨Nat.le_of_ble_eq_true rfl, Nat.le_of_ble_eq_true rfl⟩, hts (.instanceMethod yX1_holds) (by decide +kernel), hts (.selects RX1 yX1_holds yX1_holds) (by decide +kernel)⟩ (hw_roV hP hS hk [1, 2] rfl (ci := 0) (q0 := 1) rfl rfl) rfl rfl hl.1 rfl (lv_room (Nat.le_of_ble_eq_true rfl)) dX7_context_10 ⟨Nat.le_of_ble_eq_true rfl, Nat.le_of_ble_eq_true rfl⟩) ?_
  refine lv_if_ne (tgt := 26) hx hb dX7_context_13 (by decide) (fun c_13 => absurd c_13 (fun h9 => h9 hxy)) (fun c_13 => ?_)
  obtain ⟨sa, hsa⟩ := hX.2.1 (110, "no such pixel in the picture") (by decide +kernel)
  exact vx_throwS (A := fun _ => False) (names := ["java/lang/RuntimeException", "java/lang/Exception"]) hx hb hl0 hown (by decide +kernel) (by decide +kernel) (hts (.classLink RX7 108 "java/lang/IndexOutOfBoundsException") (by decide +kernel)) (hts (.initialized "java/lang/IndexOutOfBoundsException") (by decide +kernel)) hsa (xt_hat hX hts xm_X7_context_i xt_2i) xt_gi hX.2.2.1 hX.2.2.2.1 hS (by rw [hml]; exact hl.1) dX7_context_16 dX7_context_19 dX7_context_20 dX7_context_22 dX7_context_25 (fun x9 h9 => (htab x9 h9).elim) (Nat.le_of_ble_eq_true rfl) (Nat.le_of_ble_eq_true rfl) (Nat.le_of_ble_eq_true rfl) (Nat.le_of_ble_eq_true rfl) hlocks (fun t h1 h2 h3 => ⟨(), trivial, rfl, Nat.le_trans hS.1 h2, fun q hq _ => (h3 q (Nat.lt_of_lt_of_le hq hS.1)).trans (hS.2.1 q hq (fun z => z))⟩) hS.2.2 (Nat.le_of_ble_eq_true rfl) (Nat.le_of_ble_eq_true rfl)

set_option maxHeartbeats 4000000 in
set_option maxRecDepth 100000 in
/-- adaptive, no such place -/
theorem t_X7_adaptive_x (l : Launch) (dC : Nat → ClassId) (dI : Nat → Nat → Nat) (cI cZ cJ : ClassId) (hO : Nat) (a1 : Nat) (a2 : Nat) (a3 : Nat) (a4 : Nat) (a5 : Nat) (a6 : Nat) (a7 : Nat) (a8 : Nat) (a9 : Nat) (a10 : Nat) (a11 : Nat) (a12 : Nat) (a13 : Nat) (a14 : Nat) (a15 : Nat) (tb : Bool) (kb : Bool) (rtb : Bool) (sfb : Bool) (dx : Int32) (dy : Int32) (tp : Int32) (p0 : Int32) (q0 : Int32) (p1 : Int32) (q1 : Int32) (rl : Int32) (sk : Nat) (tr : Nat) (co : Nat) (w : Nat) (h : Nat) (fw : Nat) (fh : Nat) (rwd : Nat) (rht : Nat) (k : Nat) (wa : Nat) (wc : Nat) (wt : Nat) (ra : Nat) (b : Nat) (pf : Nat → Int32) (ff : Nat → Int32) (rg : Nat → Int32) (f : Nat → Int32) (rc : Int64) (SW : Nat → Nat) (SR : Nat → Nat) (z : Int32) (x : Int32) (y : Int32) (hno : sp_iw z 0 1 = 0) (hl0 : l.stackTraces = false) : vx_Met l yX7_adaptive wsX7_adaptive ({ frames := 6, cells := 1, slots := 6, locals := 90 }) (hw_RoX (dC, dI) vwCl (ty3 cI cZ cJ) [(hO, .inr (6, [.ref a1, .ref a3, .ref a5, .ref a8, .ref a10, .ref a13, .int (sp_z tb), .int (sp_z kb), .int (sp_z rtb), .int (sp_z sfb), .int (nI sk), .int (nI tr), .int (nI co)])), (a1, .inr (0, [.int (nI 40), .ref a2, .int (nI w), .int (nI h)])), (a2, .inl (cI, 40 * 40, .inl pf)), (a3, .inr (0, [.int (nI 40), .ref a4, .int (nI fw), .int (nI fh)])), (a4, .inl (cI, 40 * 40, .inl ff)), (a5, .inr (4, [.ref a6, .int dx, .int dy, .int tp, .int p0, .int q0, .int p1, .int q1])), (a6, .inr (0, [.int (nI 60), .ref a7, .int (nI rwd), .int (nI rht)])), (a7, .inl (cI, 60 * 60, .inl rg)), (a8, .inr (1, [.ref a9, .int (nI k)])), (a9, .inl (cI, 4096, .inl f)), (a10, .inr (5, [.ref a11, .ref a8, .int (nI wa), .int (nI wc), .int (nI wt)])), (a11, .inr (3, [.ref a12])), (a12, .inl (cI, 8192, .inl (fun j => nI (SW j)))), (a13, .inr (2, [.ref a14, .ref a8, .int (nI ra), .long rc, .int rl, .int (nI b)])), (a14, .inr (3, [.ref a15])), (a15, .inl (cI, 8192, .inl (fun j => nI (SR j))))] [.ref hO, .int z, .int x, .int y]) hw_Nv (hw_X "java/lang/IllegalArgumentException") 1 6 (fun _ => False) := by
  refine vx_ofW (cc := cX7_adaptive) (maxL := 4) (ret := none) (by decide) rfl ?_
  intro pg ev s m args below meth cd s₁ B hml htab hv
  obtain ⟨rfl, hP, hK, hN, hZ, hX⟩ := hv
  have hx := B.exec
  have hb := B.bytes
  have hr := B.returns
  have hts := atoms_spec (ws := wsX7_adaptive) B.pre
  have hown : s.vm.findClass RX7 = some m.cls := findClass_of_methodNamed B.named
  have hlocks := B.notSynchronized
  have hS : va_S (fun _ => False) s.heap s.heap [] := va_S.rf
  have hk : hw_K (dC, dI) vwCl (ty3 cI cZ cJ) (fun _ => False) s := ⟨hK, hN, hZ⟩
  have hiX7 : ∀ w ∈ u_ws RX7 TX7 13, w ∈ wsX7_adaptive := by decide +kernel
  have hl := lv_entry ([.ref hO, .int z, .int x, .int y]) (n := 4) (Nat.le_of_ble_eq_true rfl)
  rw [lg_entry_eq]
  generalize (lg_sl ([.ref hO, .int z, .int x, .int y]) ++ List.replicate (4 - (lg_sl ([.ref hO, .int z, .int x, .int y])).length) Slot.unset).toArray = ls at hl ⊢
  have hl : lv_has ls 4 [(0, .ref hO), (1, .int z), (2, .int x), (3, .int y)] := hl
  refine lv_iload_n hx hb dX7_adaptive_0 rfl (lv_at hl 1 rfl) ?_
  refine lv_iconst (v := 0) hx hb dX7_adaptive_1 (by decide) ?_
  refine lv_iconst (v := 1) hx hb dX7_adaptive_2 (by decide) ?_
  refine hw_callSe (va_runS (As := [.int z, .int 0, .int 1]) (rest := []) ⟨hx, hb, hml, hown, hts⟩ (c_X7_isWithin l dC dI cI cZ cJ z 0 1) (cwS 3 hts gX7_adaptive_X7_isWithin rfl rfl rfl (by decide +kernel) ⟨Nat.le_of_ble_eq_true rfl, Nat.le_of_ble_eq_true rfl⟩) (hw_ro hP hS hk [] rfl) rfl rfl hl.1 rfl (lv_room (Nat.le_of_ble_eq_true rfl)) dX7_adaptive_3 ⟨Nat.le_of_ble_eq_true rfl, Nat.le_of_ble_eq_true rfl⟩) ?_
  refine lv_if_ne (tgt := 19) hx hb dX7_adaptive_6 (by decide) (fun c_6 => absurd c_6 (fun h9 => h9 hno)) (fun c_6 => ?_)
  obtain ⟨sa, hsa⟩ := hX.2.1 (136, "an adaptive place is 0 or 1") (by decide +kernel)
  exact vx_throwS (A := fun _ => False) (names := ["java/lang/RuntimeException", "java/lang/Exception"]) hx hb hl0 hown (by decide +kernel) (by decide +kernel) (hts (.classLink RX7 82 "java/lang/IllegalArgumentException") (by decide +kernel)) (hts (.initialized "java/lang/IllegalArgumentException") (by decide +kernel)) hsa (xt_hat hX hts xm_X7_adaptive_a xt_2a) xt_ga hX.2.2.1 hX.2.2.2.1 hS (by rw [hml]; exact hl.1) dX7_adaptive_9 dX7_adaptive_12 dX7_adaptive_13 dX7_adaptive_15 dX7_adaptive_18 (fun x9 h9 => (htab x9 h9).elim) (Nat.le_of_ble_eq_true rfl) (Nat.le_of_ble_eq_true rfl) (Nat.le_of_ble_eq_true rfl) (Nat.le_of_ble_eq_true rfl) hlocks (fun t h1 h2 h3 => ⟨(), trivial, rfl, Nat.le_trans hS.1 h2, fun q hq _ => (h3 q (Nat.lt_of_lt_of_le hq hS.1)).trans (hS.2.1 q hq (fun z => z))⟩) hS.2.2 (Nat.le_of_ble_eq_true rfl) (Nat.le_of_ble_eq_true rfl)

set_option maxHeartbeats 4000000 in
set_option maxRecDepth 100000 in
/-- adaptive(0, ..), it cannot be there -/
theorem t_X7_adaptive_0 (l : Launch) (dC : Nat → ClassId) (dI : Nat → Nat → Nat) (cI cZ cJ : ClassId) (hO : Nat) (a1 : Nat) (a2 : Nat) (a3 : Nat) (a4 : Nat) (a5 : Nat) (a6 : Nat) (a7 : Nat) (a8 : Nat) (a9 : Nat) (a10 : Nat) (a11 : Nat) (a12 : Nat) (a13 : Nat) (a14 : Nat) (a15 : Nat) (tb : Bool) (kb : Bool) (rtb : Bool) (sfb : Bool) (dx : Int32) (dy : Int32) (tp : Int32) (p0 : Int32) (q0 : Int32) (p1 : Int32) (q1 : Int32) (rl : Int32) (sk : Nat) (tr : Nat) (co : Nat) (w : Nat) (h : Nat) (fw : Nat) (fh : Nat) (rwd : Nat) (rht : Nat) (k : Nat) (wa : Nat) (wc : Nat) (wt : Nat) (ra : Nat) (b : Nat) (pf : Nat → Int32) (ff : Nat → Int32) (rg : Nat → Int32) (f : Nat → Int32) (rc : Int64) (SW : Nat → Nat) (SR : Nat → Nat) (x : Int32) (y : Int32) (hno : sp_pl0 x y = 0) (hl0 : l.stackTraces = false) : vx_Met l yX7_adaptive wsX7_adaptive ({ frames := 6, cells := 1, slots := 6, locals := 90 }) (hw_RoX (dC, dI) vwCl (ty3 cI cZ cJ) [(hO, .inr (6, [.ref a1, .ref a3, .ref a5, .ref a8, .ref a10, .ref a13, .int (sp_z tb), .int (sp_z kb), .int (sp_z rtb), .int (sp_z sfb), .int (nI sk), .int (nI tr), .int (nI co)])), (a1, .inr (0, [.int (nI 40), .ref a2, .int (nI w), .int (nI h)])), (a2, .inl (cI, 40 * 40, .inl pf)), (a3, .inr (0, [.int (nI 40), .ref a4, .int (nI fw), .int (nI fh)])), (a4, .inl (cI, 40 * 40, .inl ff)), (a5, .inr (4, [.ref a6, .int dx, .int dy, .int tp, .int p0, .int q0, .int p1, .int q1])), (a6, .inr (0, [.int (nI 60), .ref a7, .int (nI rwd), .int (nI rht)])), (a7, .inl (cI, 60 * 60, .inl rg)), (a8, .inr (1, [.ref a9, .int (nI k)])), (a9, .inl (cI, 4096, .inl f)), (a10, .inr (5, [.ref a11, .ref a8, .int (nI wa), .int (nI wc), .int (nI wt)])), (a11, .inr (3, [.ref a12])), (a12, .inl (cI, 8192, .inl (fun j => nI (SW j)))), (a13, .inr (2, [.ref a14, .ref a8, .int (nI ra), .long rc, .int rl, .int (nI b)])), (a14, .inr (3, [.ref a15])), (a15, .inl (cI, 8192, .inl (fun j => nI (SR j))))] [.ref hO, .int 0, .int x, .int y]) hw_Nv (hw_X "java/lang/IllegalArgumentException") 1 6 (fun _ => False) := by
  refine vx_ofW (cc := cX7_adaptive) (maxL := 4) (ret := none) (by decide) rfl ?_
  intro pg ev s m args below meth cd s₁ B hml htab hv
  obtain ⟨rfl, hP, hK, hN, hZ, hX⟩ := hv
  have hx := B.exec
  have hb := B.bytes
  have hr := B.returns
  have hts := atoms_spec (ws := wsX7_adaptive) B.pre
  have hown : s.vm.findClass RX7 = some m.cls := findClass_of_methodNamed B.named
  have hlocks := B.notSynchronized
  have hS : va_S (fun _ => False) s.heap s.heap [] := va_S.rf
  have hk : hw_K (dC, dI) vwCl (ty3 cI cZ cJ) (fun _ => False) s := ⟨hK, hN, hZ⟩
  have hiX7 : ∀ w ∈ u_ws RX7 TX7 13, w ∈ wsX7_adaptive := by decide +kernel
  have hl := lv_entry ([.ref hO, .int 0, .int x, .int y]) (n := 4) (Nat.le_of_ble_eq_true rfl)
  rw [lg_entry_eq]
  generalize (lg_sl ([.ref hO, .int 0, .int x, .int y]) ++ List.replicate (4 - (lg_sl ([.ref hO, .int 0, .int x, .int y])).length) Slot.unset).toArray = ls at hl ⊢
  have hl : lv_has ls 4 [(0, .ref hO), (1, .int 0), (2, .int x), (3, .int y)] := hl
  refine lv_iload_n hx hb dX7_adaptive_0 rfl (lv_at hl 1 rfl) ?_
  refine lv_iconst (v := 0) hx hb dX7_adaptive_1 (by decide) ?_
  refine lv_iconst (v := 1) hx hb dX7_adaptive_2 (by decide) ?_
  refine hw_callSe (va_runS (As := [.int 0, .int 0, .int 1]) (rest := []) ⟨hx, hb, hml, hown, hts⟩ (c_X7_isWithin l dC dI cI cZ cJ 0 0 1) (cwS 3 hts gX7_adaptive_X7_isWithin rfl rfl rfl (by decide +kernel) ⟨Nat.le_of_ble_eq_true rfl, Nat.le_of_ble_eq_true rfl⟩) (hw_ro hP hS hk [] rfl) rfl rfl hl.1 rfl (lv_room (Nat.le_of_ble_eq_true rfl)) dX7_adaptive_3 ⟨Nat.le_of_ble_eq_true rfl, Nat.le_of_ble_eq_true rfl⟩) ?_
  refine hw_i (y := 1) (by decide +kernel) ?_
  refine lv_if_ne (tgt := 19) hx hb dX7_adaptive_6 (by decide) (fun _ => ?_) (fun c9 => absurd c9 (by decide))
  refine lv_iload_n hx hb dX7_adaptive_19 rfl (lv_at hl 1 rfl) ?_
  refine lv_if_ne (tgt := 34) hx hb dX7_adaptive_20 (by decide) (fun c9 => absurd c9 (by decide)) (fun _ => ?_)
  refine lv_iload_n hx hb dX7_adaptive_23 rfl (lv_at hl 2 rfl) ?_
  refine lv_iload_n hx hb dX7_adaptive_24 rfl (lv_at hl 3 rfl) ?_
  refine hw_callSe (va_runS (As := [.int x, .int y]) (rest := []) ⟨hx, hb, hml, hown, hts⟩ (c_X7_canBePlace0 l dC dI cI cZ cJ x y) (cwS 2 hts gX7_adaptive_X7_canBePlace0 rfl rfl rfl (by decide +kernel) ⟨Nat.le_of_ble_eq_true rfl, Nat.le_of_ble_eq_true rfl⟩) (hw_ro hP hS hk [] rfl) rfl rfl hl.1 rfl (lv_room (Nat.le_of_ble_eq_true rfl)) dX7_adaptive_25 ⟨Nat.le_of_ble_eq_true rfl, Nat.le_of_ble_eq_true rfl⟩) ?_
  refine lv_if_ne (tgt := 52) hx hb dX7_adaptive_28 (by decide) (fun c_28 => absurd c_28 (fun h9 => h9 hno)) (fun c_28 => ?_)
  refine lv_goto (tgt := 42) hx hb dX7_adaptive_31 (by decide) ?_
  obtain ⟨sa, hsa⟩ := hX.2.1 (144, "the adaptive place cannot be there") (by decide +kernel)
  exact vx_throwS (A := fun _ => False) (names := ["java/lang/RuntimeException", "java/lang/Exception"]) hx hb hl0 hown (by decide +kernel) (by decide +kernel) (hts (.classLink RX7 82 "java/lang/IllegalArgumentException") (by decide +kernel)) (hts (.initialized "java/lang/IllegalArgumentException") (by decide +kernel)) hsa (xt_hat hX hts xm_X7_adaptive_a xt_2a) xt_ga hX.2.2.1 hX.2.2.2.1 hS (by rw [hml]; exact hl.1) dX7_adaptive_42 dX7_adaptive_45 dX7_adaptive_46 dX7_adaptive_48 dX7_adaptive_51 (fun x9 h9 => (htab x9 h9).elim) (Nat.le_of_ble_eq_true rfl) (Nat.le_of_ble_eq_true rfl) (Nat.le_of_ble_eq_true rfl) (Nat.le_of_ble_eq_true rfl) hlocks (fun t h1 h2 h3 => ⟨(), trivial, rfl, Nat.le_trans hS.1 h2, fun q hq _ => (h3 q (Nat.lt_of_lt_of_le hq hS.1)).trans (hS.2.1 q hq (fun z => z))⟩) hS.2.2 (Nat.le_of_ble_eq_true rfl) (Nat.le_of_ble_eq_true rfl)

set_option maxHeartbeats 4000000 in
set_option maxRecDepth 100000 in
/-- adaptive(1, ..), it cannot be there -/
theorem t_X7_adaptive_1 (l : Launch) (dC : Nat → ClassId) (dI : Nat → Nat → Nat) (cI cZ cJ : ClassId) (hO : Nat) (a1 : Nat) (a2 : Nat) (a3 : Nat) (a4 : Nat) (a5 : Nat) (a6 : Nat) (a7 : Nat) (a8 : Nat) (a9 : Nat) (a10 : Nat) (a11 : Nat) (a12 : Nat) (a13 : Nat) (a14 : Nat) (a15 : Nat) (tb : Bool) (kb : Bool) (rtb : Bool) (sfb : Bool) (dx : Int32) (dy : Int32) (tp : Int32) (p0 : Int32) (q0 : Int32) (p1 : Int32) (q1 : Int32) (rl : Int32) (sk : Nat) (tr : Nat) (co : Nat) (w : Nat) (h : Nat) (fw : Nat) (fh : Nat) (rwd : Nat) (rht : Nat) (k : Nat) (wa : Nat) (wc : Nat) (wt : Nat) (ra : Nat) (b : Nat) (pf : Nat → Int32) (ff : Nat → Int32) (rg : Nat → Int32) (f : Nat → Int32) (rc : Int64) (SW : Nat → Nat) (SR : Nat → Nat) (x : Int32) (y : Int32) (hno : sp_pl1 x y = 0) (hl0 : l.stackTraces = false) : vx_Met l yX7_adaptive wsX7_adaptive ({ frames := 6, cells := 1, slots := 6, locals := 90 }) (hw_RoX (dC, dI) vwCl (ty3 cI cZ cJ) [(hO, .inr (6, [.ref a1, .ref a3, .ref a5, .ref a8, .ref a10, .ref a13, .int (sp_z tb), .int (sp_z kb), .int (sp_z rtb), .int (sp_z sfb), .int (nI sk), .int (nI tr), .int (nI co)])), (a1, .inr (0, [.int (nI 40), .ref a2, .int (nI w), .int (nI h)])), (a2, .inl (cI, 40 * 40, .inl pf)), (a3, .inr (0, [.int (nI 40), .ref a4, .int (nI fw), .int (nI fh)])), (a4, .inl (cI, 40 * 40, .inl ff)), (a5, .inr (4, [.ref a6, .int dx, .int dy, .int tp, .int p0, .int q0, .int p1, .int q1])), (a6, .inr (0, [.int (nI 60), .ref a7, .int (nI rwd), .int (nI rht)])), (a7, .inl (cI, 60 * 60, .inl rg)), (a8, .inr (1, [.ref a9, .int (nI k)])), (a9, .inl (cI, 4096, .inl f)), (a10, .inr (5, [.ref a11, .ref a8, .int (nI wa), .int (nI wc), .int (nI wt)])), (a11, .inr (3, [.ref a12])), (a12, .inl (cI, 8192, .inl (fun j => nI (SW j)))), (a13, .inr (2, [.ref a14, .ref a8, .int (nI ra), .long rc, .int rl, .int (nI b)])), (a14, .inr (3, [.ref a15])), (a15, .inl (cI, 8192, .inl (fun j => nI (SR j))))] [.ref hO, .int 1, .int x, .int y]) hw_Nv (hw_X "java/lang/IllegalArgumentException") 1 6 (fun _ => False) := by
  refine vx_ofW (cc := cX7_adaptive) (maxL := 4) (ret := none) (by decide) rfl ?_
  intro pg ev s m args below meth cd s₁ B hml htab hv
  obtain ⟨rfl, hP, hK, hN, hZ, hX⟩ := hv
  have hx := B.exec
  have hb := B.bytes
  have hr := B.returns
  have hts := atoms_spec (ws := wsX7_adaptive) B.pre
  have hown : s.vm.findClass RX7 = some m.cls := findClass_of_methodNamed B.named
  have hlocks := B.notSynchronized
  have hS : va_S (fun _ => False) s.heap s.heap [] := va_S.rf
  have hk : hw_K (dC, dI) vwCl (ty3 cI cZ cJ) (fun _ => False) s := ⟨hK, hN, hZ⟩
  have hiX7 : ∀ w ∈ u_ws RX7 TX7 13, w ∈ wsX7_adaptive := by decide +kernel
  have hl := lv_entry ([.ref hO, .int 1, .int x, .int y]) (n := 4) (Nat.le_of_ble_eq_true rfl)
  rw [lg_entry_eq]
  generalize (lg_sl ([.ref hO, .int 1, .int x, .int y]) ++ List.replicate (4 - (lg_sl ([.ref hO, .int 1, .int x, .int y])).length) Slot.unset).toArray = ls at hl ⊢
  have hl : lv_has ls 4 [(0, .ref hO), (1, .int 1), (2, .int x), (3, .int y)] := hl
  refine lv_iload_n hx hb dX7_adaptive_0 rfl (lv_at hl 1 rfl) ?_
  refine lv_iconst (v := 0) hx hb dX7_adaptive_1 (by decide) ?_
  refine lv_iconst (v := 1) hx hb dX7_adaptive_2 (by decide) ?_
  refine hw_callSe (va_runS (As := [.int 1, .int 0, .int 1]) (rest := []) ⟨hx, hb, hml, hown, hts⟩ (c_X7_isWithin l dC dI cI cZ cJ 1 0 1) (cwS 3 hts gX7_adaptive_X7_isWithin rfl rfl rfl (by decide +kernel) ⟨Nat.le_of_ble_eq_true rfl, Nat.le_of_ble_eq_true rfl⟩) (hw_ro hP hS hk [] rfl) rfl rfl hl.1 rfl (lv_room (Nat.le_of_ble_eq_true rfl)) dX7_adaptive_3 ⟨Nat.le_of_ble_eq_true rfl, Nat.le_of_ble_eq_true rfl⟩) ?_
  refine hw_i (y := 1) (by decide +kernel) ?_
  refine lv_if_ne (tgt := 19) hx hb dX7_adaptive_6 (by decide) (fun _ => ?_) (fun c9 => absurd c9 (by decide))
  refine lv_iload_n hx hb dX7_adaptive_19 rfl (lv_at hl 1 rfl) ?_
  refine lv_if_ne (tgt := 34) hx hb dX7_adaptive_20 (by decide) (fun _ => ?_) (fun c9 => absurd c9 (by decide))
  refine lv_iload_n hx hb dX7_adaptive_34 rfl (lv_at hl 2 rfl) ?_
  refine lv_iload_n hx hb dX7_adaptive_35 rfl (lv_at hl 3 rfl) ?_
  refine hw_callSe (va_runS (As := [.int x, .int y]) (rest := []) ⟨hx, hb, hml, hown, hts⟩ (c_X7_canBePlace1 l dC dI cI cZ cJ x y) (cwS 2 hts gX7_adaptive_X7_canBePlace1 rfl rfl rfl (by decide +kernel) ⟨Nat.le_of_ble_eq_true rfl, Nat.le_of_ble_eq_true rfl⟩) (hw_ro hP hS hk [] rfl) rfl rfl hl.1 rfl (lv_room (Nat.le_of_ble_eq_true rfl)) dX7_adaptive_36 ⟨Nat.le_of_ble_eq_true rfl, Nat.le_of_ble_eq_true rfl⟩) ?_
  refine lv_if_ne (tgt := 52) hx hb dX7_adaptive_39 (by decide) (fun c_39 => absurd c_39 (fun h9 => h9 hno)) (fun c_39 => ?_)
  obtain ⟨sa, hsa⟩ := hX.2.1 (144, "the adaptive place cannot be there") (by decide +kernel)
  exact vx_throwS (A := fun _ => False) (names := ["java/lang/RuntimeException", "java/lang/Exception"]) hx hb hl0 hown (by decide +kernel) (by decide +kernel) (hts (.classLink RX7 82 "java/lang/IllegalArgumentException") (by decide +kernel)) (hts (.initialized "java/lang/IllegalArgumentException") (by decide +kernel)) hsa (xt_hat hX hts xm_X7_adaptive_a xt_2a) xt_ga hX.2.2.1 hX.2.2.2.1 hS (by rw [hml]; exact hl.1) dX7_adaptive_42 dX7_adaptive_45 dX7_adaptive_46 dX7_adaptive_48 dX7_adaptive_51 (fun x9 h9 => (htab x9 h9).elim) (Nat.le_of_ble_eq_true rfl) (Nat.le_of_ble_eq_true rfl) (Nat.le_of_ble_eq_true rfl) (Nat.le_of_ble_eq_true rfl) hlocks (fun t h1 h2 h3 => ⟨(), trivial, rfl, Nat.le_trans hS.1 h2, fun q hq _ => (h3 q (Nat.lt_of_lt_of_le hq hS.1)).trans (hS.2.1 q hq (fun z => z))⟩) hS.2.2 (Nat.le_of_ble_eq_true rfl) (Nat.le_of_ble_eq_true rfl)

set_option maxHeartbeats 4000000 in
set_option maxRecDepth 100000 in
/-- feed, refused -/
theorem t_X7_feed (l : Launch) (dC : Nat → ClassId) (dI : Nat → Nat → Nat) (cI cZ cJ : ClassId) (hO : Nat) (a1 : Nat) (a2 : Nat) (a3 : Nat) (a4 : Nat) (a5 : Nat) (a6 : Nat) (a7 : Nat) (a8 : Nat) (a9 : Nat) (a10 : Nat) (a11 : Nat) (a12 : Nat) (a13 : Nat) (a14 : Nat) (a15 : Nat) (tb : Bool) (kb : Bool) (rtb : Bool) (sfb : Bool) (dx : Int32) (dy : Int32) (tp : Int32) (p0 : Int32) (q0 : Int32) (p1 : Int32) (q1 : Int32) (rl : Int32) (sk : Nat) (tr : Nat) (co : Nat) (w : Nat) (h : Nat) (fw : Nat) (fh : Nat) (rwd : Nat) (rht : Nat) (k : Nat) (wa : Nat) (wc : Nat) (wt : Nat) (ra : Nat) (b : Nat) (pf : Nat → Int32) (ff : Nat → Int32) (rg : Nat → Int32) (f : Nat → Int32) (rc : Int64) (SW : Nat → Nat) (SR : Nat → Nat) (x : Int32) (v : Int64) (hno : sp_iw x 1 8 = 0) (hl0 : l.stackTraces = false) : vx_Met l yX7_feed wsX7_feed ({ frames := 6, cells := 1, slots := 6, locals := 90 }) (hw_RoX (dC, dI) vwCl (ty3 cI cZ cJ) [(hO, .inr (6, [.ref a1, .ref a3, .ref a5, .ref a8, .ref a10, .ref a13, .int (sp_z tb), .int (sp_z kb), .int (sp_z rtb), .int (sp_z sfb), .int (nI sk), .int (nI tr), .int (nI co)])), (a1, .inr (0, [.int (nI 40), .ref a2, .int (nI w), .int (nI h)])), (a2, .inl (cI, 40 * 40, .inl pf)), (a3, .inr (0, [.int (nI 40), .ref a4, .int (nI fw), .int (nI fh)])), (a4, .inl (cI, 40 * 40, .inl ff)), (a5, .inr (4, [.ref a6, .int dx, .int dy, .int tp, .int p0, .int q0, .int p1, .int q1])), (a6, .inr (0, [.int (nI 60), .ref a7, .int (nI rwd), .int (nI rht)])), (a7, .inl (cI, 60 * 60, .inl rg)), (a8, .inr (1, [.ref a9, .int (nI k)])), (a9, .inl (cI, 4096, .inl f)), (a10, .inr (5, [.ref a11, .ref a8, .int (nI wa), .int (nI wc), .int (nI wt)])), (a11, .inr (3, [.ref a12])), (a12, .inl (cI, 8192, .inl (fun j => nI (SW j)))), (a13, .inr (2, [.ref a14, .ref a8, .int (nI ra), .long rc, .int rl, .int (nI b)])), (a14, .inr (3, [.ref a15])), (a15, .inl (cI, 8192, .inl (fun j => nI (SR j))))] [.ref hO, .int x, .long v]) hw_Ni (hw_X "java/lang/IllegalArgumentException") 1 6 (fun _ => False) := by
  refine vx_ofW (cc := cX7_feed) (maxL := 5) (ret := (some .int)) (by decide) rfl ?_
  intro pg ev s m args below meth cd s₁ B hml htab hv
  obtain ⟨rfl, hP, hK, hN, hZ, hX⟩ := hv
  have hx := B.exec
  have hb := B.bytes
  have hr := B.returns
  have hts := atoms_spec (ws := wsX7_feed) B.pre
  have hown : s.vm.findClass RX7 = some m.cls := findClass_of_methodNamed B.named
  have hlocks := B.notSynchronized
  have hS : va_S (fun _ => False) s.heap s.heap [] := va_S.rf
  have hk : hw_K (dC, dI) vwCl (ty3 cI cZ cJ) (fun _ => False) s := ⟨hK, hN, hZ⟩
  have hiX7 : ∀ w ∈ u_ws RX7 TX7 13, w ∈ wsX7_feed := by decide +kernel
  have hl := lv_entry ([.ref hO, .int x, .long v]) (n := 5) (Nat.le_of_ble_eq_true rfl)
  rw [lg_entry_eq]
  generalize (lg_sl ([.ref hO, .int x, .long v]) ++ List.replicate (5 - (lg_sl ([.ref hO, .int x, .long v])).length) Slot.unset).toArray = ls at hl ⊢
  have hl : lv_has ls 5 [(0, .ref hO), (1, .int x), (2, .long v)] := hl
  refine lv_iload_n hx hb dX7_feed_0 rfl (lv_at hl 1 rfl) ?_
  refine lv_iconst (v := 1) hx hb dX7_feed_1 (by decide) ?_
  refine lv_bipush (v := 8) hx hb dX7_feed_2 (by decide) ?_
  refine hw_callSe (va_runS (As := [.int x, .int 1, .int 8]) (rest := []) ⟨hx, hb, hml, hown, hts⟩ (c_X7_isWithin l dC dI cI cZ cJ x 1 8) (cwS 3 hts gX7_feed_X7_isWithin rfl rfl rfl (by decide +kernel) ⟨Nat.le_of_ble_eq_true rfl, Nat.le_of_ble_eq_true rfl⟩) (hw_ro hP hS hk [] rfl) rfl rfl hl.1 rfl (lv_room (Nat.le_of_ble_eq_true rfl)) dX7_feed_4 ⟨Nat.le_of_ble_eq_true rfl, Nat.le_of_ble_eq_true rfl⟩) ?_
  refine lv_if_ne (tgt := 20) hx hb dX7_feed_7 (by decide) (fun c_7 => absurd c_7 (fun h9 => h9 hno)) (fun c_7 => ?_)
  obtain ⟨sa, hsa⟩ := hX.2.1 (165, "1 to 8 bytes come at once") (by decide +kernel)
  exact vx_throwS (A := fun _ => False) (names := ["java/lang/RuntimeException", "java/lang/Exception"]) hx hb hl0 hown (by decide +kernel) (by decide +kernel) (hts (.classLink RX7 82 "java/lang/IllegalArgumentException") (by decide +kernel)) (hts (.initialized "java/lang/IllegalArgumentException") (by decide +kernel)) hsa (xt_hat hX hts xm_X7_feed_a xt_2a) xt_ga hX.2.2.1 hX.2.2.2.1 hS (by rw [hml]; exact hl.1) dX7_feed_10 dX7_feed_13 dX7_feed_14 dX7_feed_16 dX7_feed_19 (fun x9 h9 => (htab x9 h9).elim) (Nat.le_of_ble_eq_true rfl) (Nat.le_of_ble_eq_true rfl) (Nat.le_of_ble_eq_true rfl) (Nat.le_of_ble_eq_true rfl) hlocks (fun t h1 h2 h3 => ⟨(), trivial, rfl, Nat.le_trans hS.1 h2, fun q hq _ => (h3 q (Nat.lt_of_lt_of_le hq hS.1)).trans (hS.2.1 q hq (fun z => z))⟩) hS.2.2 (Nat.le_of_ble_eq_true rfl) (Nat.le_of_ble_eq_true rfl)

set_option maxHeartbeats 4000000 in
set_option maxRecDepth 100000 in
/-- state, refused -/
theorem t_X7_state (l : Launch) (dC : Nat → ClassId) (dI : Nat → Nat → Nat) (cI cZ cJ : ClassId) (hO : Nat) (a1 : Nat) (a2 : Nat) (a3 : Nat) (a4 : Nat) (a5 : Nat) (a6 : Nat) (a7 : Nat) (a8 : Nat) (a9 : Nat) (a10 : Nat) (a11 : Nat) (a12 : Nat) (a13 : Nat) (a14 : Nat) (a15 : Nat) (tb : Bool) (kb : Bool) (rtb : Bool) (sfb : Bool) (dx : Int32) (dy : Int32) (tp : Int32) (p0 : Int32) (q0 : Int32) (p1 : Int32) (q1 : Int32) (rl : Int32) (sk : Nat) (tr : Nat) (co : Nat) (w : Nat) (h : Nat) (fw : Nat) (fh : Nat) (rwd : Nat) (rht : Nat) (k : Nat) (wa : Nat) (wc : Nat) (wt : Nat) (ra : Nat) (b : Nat) (pf : Nat → Int32) (ff : Nat → Int32) (rg : Nat → Int32) (f : Nat → Int32) (rc : Int64) (SW : Nat → Nat) (SR : Nat → Nat) (x : Int32) (bb : Bool) (hno : sp_iw x 0 8191 = 0) (hl0 : l.stackTraces = false) : vx_Met l yX7_state wsX7_state ({ frames := 6, cells := 1, slots := 6, locals := 90 }) (hw_RoX (dC, dI) vwCl (ty3 cI cZ cJ) [(hO, .inr (6, [.ref a1, .ref a3, .ref a5, .ref a8, .ref a10, .ref a13, .int (sp_z tb), .int (sp_z kb), .int (sp_z rtb), .int (sp_z sfb), .int (nI sk), .int (nI tr), .int (nI co)])), (a1, .inr (0, [.int (nI 40), .ref a2, .int (nI w), .int (nI h)])), (a2, .inl (cI, 40 * 40, .inl pf)), (a3, .inr (0, [.int (nI 40), .ref a4, .int (nI fw), .int (nI fh)])), (a4, .inl (cI, 40 * 40, .inl ff)), (a5, .inr (4, [.ref a6, .int dx, .int dy, .int tp, .int p0, .int q0, .int p1, .int q1])), (a6, .inr (0, [.int (nI 60), .ref a7, .int (nI rwd), .int (nI rht)])), (a7, .inl (cI, 60 * 60, .inl rg)), (a8, .inr (1, [.ref a9, .int (nI k)])), (a9, .inl (cI, 4096, .inl f)), (a10, .inr (5, [.ref a11, .ref a8, .int (nI wa), .int (nI wc), .int (nI wt)])), (a11, .inr (3, [.ref a12])), (a12, .inl (cI, 8192, .inl (fun j => nI (SW j)))), (a13, .inr (2, [.ref a14, .ref a8, .int (nI ra), .long rc, .int rl, .int (nI b)])), (a14, .inr (3, [.ref a15])), (a15, .inl (cI, 8192, .inl (fun j => nI (SR j))))] [.ref hO, .int x, .int (sp_z bb)]) hw_Ni (hw_X "java/lang/IllegalArgumentException") 1 6 (fun _ => False) := by
  refine vx_ofW (cc := cX7_state) (maxL := 3) (ret := (some .int)) (by decide) rfl ?_
  intro pg ev s m args below meth cd s₁ B hml htab hv
  obtain ⟨rfl, hP, hK, hN, hZ, hX⟩ := hv
  have hx := B.exec
  have hb := B.bytes
  have hr := B.returns
  have hts := atoms_spec (ws := wsX7_state) B.pre
  have hown : s.vm.findClass RX7 = some m.cls := findClass_of_methodNamed B.named
  have hlocks := B.notSynchronized
  have hS : va_S (fun _ => False) s.heap s.heap [] := va_S.rf
  have hk : hw_K (dC, dI) vwCl (ty3 cI cZ cJ) (fun _ => False) s := ⟨hK, hN, hZ⟩
  have hiX3 : ∀ w ∈ u_ws RX3 TX3 6, w ∈ wsX7_state := by decide +kernel
  have hiX6 : ∀ w ∈ u_ws RX6 TX6 5, w ∈ wsX7_state := by decide +kernel
  have hiX7 : ∀ w ∈ u_ws RX7 TX7 13, w ∈ wsX7_state := by decide +kernel
  have hl := lv_entry ([.ref hO, .int x, .int (sp_z bb)]) (n := 3) (Nat.le_of_ble_eq_true rfl)
  rw [lg_entry_eq]
  generalize (lg_sl ([.ref hO, .int x, .int (sp_z bb)]) ++ List.replicate (3 - (lg_sl ([.ref hO, .int x, .int (sp_z bb)])).length) Slot.unset).toArray = ls at hl ⊢
  have hl : lv_has ls 3 [(0, .ref hO), (1, .int x), (2, .int (sp_z bb))] := hl
  refine lv_iload_n hx hb dX7_state_0 rfl (lv_at hl 1 rfl) ?_
  refine lv_iconst (v := 0) hx hb dX7_state_1 (by decide) ?_
  refine lv_sipush (v := 8191) hx hb dX7_state_2 (by decide) ?_
  refine hw_callSe (va_runS (As := [.int x, .int 0, .int 8191]) (rest := []) ⟨hx, hb, hml, hown, hts⟩ (c_X7_isWithin l dC dI cI cZ cJ x 0 8191) (cwS 3 hts gX7_state_X7_isWithin rfl rfl rfl (by decide +kernel) ⟨Nat.le_of_ble_eq_true rfl, Nat.le_of_ble_eq_true rfl⟩) (hw_ro hP hS hk [] rfl) rfl rfl hl.1 rfl (lv_room (Nat.le_of_ble_eq_true rfl)) dX7_state_5 ⟨Nat.le_of_ble_eq_true rfl, Nat.le_of_ble_eq_true rfl⟩) ?_
  refine lv_if_ne (tgt := 21) hx hb dX7_state_8 (by decide) (fun c_8 => absurd c_8 (fun h9 => h9 hno)) (fun c_8 => ?_)
  obtain ⟨sa, hsa⟩ := hX.2.1 (207, "a context is 0 to 8191") (by decide +kernel)
  exact vx_throwS (A := fun _ => False) (names := ["java/lang/RuntimeException", "java/lang/Exception"]) hx hb hl0 hown (by decide +kernel) (by decide +kernel) (hts (.classLink RX7 82 "java/lang/IllegalArgumentException") (by decide +kernel)) (hts (.initialized "java/lang/IllegalArgumentException") (by decide +kernel)) hsa (xt_hat hX hts xm_X7_state_a xt_2a) xt_ga hX.2.2.1 hX.2.2.2.1 hS (by rw [hml]; exact hl.1) dX7_state_11 dX7_state_14 dX7_state_15 dX7_state_17 dX7_state_20 (fun x9 h9 => (htab x9 h9).elim) (Nat.le_of_ble_eq_true rfl) (Nat.le_of_ble_eq_true rfl) (Nat.le_of_ble_eq_true rfl) (Nat.le_of_ble_eq_true rfl) hlocks (fun t h1 h2 h3 => ⟨(), trivial, rfl, Nat.le_trans hS.1 h2, fun q hq _ => (h3 q (Nat.lt_of_lt_of_le hq hS.1)).trans (hS.2.1 q hq (fun z => z))⟩) hS.2.2 (Nat.le_of_ble_eq_true rfl) (Nat.le_of_ble_eq_true rfl)

set_option maxHeartbeats 4000000 in
set_option maxRecDepth 100000 in
/-- told, refused -/
theorem t_X7_told (l : Launch) (dC : Nat → ClassId) (dI : Nat → Nat → Nat) (cI cZ cJ : ClassId) (hO : Nat) (a1 : Nat) (a2 : Nat) (a3 : Nat) (a4 : Nat) (a5 : Nat) (a6 : Nat) (a7 : Nat) (a8 : Nat) (a9 : Nat) (a10 : Nat) (a11 : Nat) (a12 : Nat) (a13 : Nat) (a14 : Nat) (a15 : Nat) (tb : Bool) (kb : Bool) (rtb : Bool) (sfb : Bool) (dx : Int32) (dy : Int32) (tp : Int32) (p0 : Int32) (q0 : Int32) (p1 : Int32) (q1 : Int32) (rl : Int32) (sk : Nat) (tr : Nat) (co : Nat) (w : Nat) (h : Nat) (fw : Nat) (fh : Nat) (rwd : Nat) (rht : Nat) (k : Nat) (wa : Nat) (wc : Nat) (wt : Nat) (ra : Nat) (b : Nat) (pf : Nat → Int32) (ff : Nat → Int32) (rg : Nat → Int32) (f : Nat → Int32) (rc : Int64) (SW : Nat → Nat) (SR : Nat → Nat) (x : Int32) (hno : sp_iw x 0 5 = 0) (hl0 : l.stackTraces = false) : vx_Met l yX7_told wsX7_told ({ frames := 6, cells := 1, slots := 6, locals := 90 }) (hw_RoX (dC, dI) vwCl (ty3 cI cZ cJ) [(hO, .inr (6, [.ref a1, .ref a3, .ref a5, .ref a8, .ref a10, .ref a13, .int (sp_z tb), .int (sp_z kb), .int (sp_z rtb), .int (sp_z sfb), .int (nI sk), .int (nI tr), .int (nI co)])), (a1, .inr (0, [.int (nI 40), .ref a2, .int (nI w), .int (nI h)])), (a2, .inl (cI, 40 * 40, .inl pf)), (a3, .inr (0, [.int (nI 40), .ref a4, .int (nI fw), .int (nI fh)])), (a4, .inl (cI, 40 * 40, .inl ff)), (a5, .inr (4, [.ref a6, .int dx, .int dy, .int tp, .int p0, .int q0, .int p1, .int q1])), (a6, .inr (0, [.int (nI 60), .ref a7, .int (nI rwd), .int (nI rht)])), (a7, .inl (cI, 60 * 60, .inl rg)), (a8, .inr (1, [.ref a9, .int (nI k)])), (a9, .inl (cI, 4096, .inl f)), (a10, .inr (5, [.ref a11, .ref a8, .int (nI wa), .int (nI wc), .int (nI wt)])), (a11, .inr (3, [.ref a12])), (a12, .inl (cI, 8192, .inl (fun j => nI (SW j)))), (a13, .inr (2, [.ref a14, .ref a8, .int (nI ra), .long rc, .int rl, .int (nI b)])), (a14, .inr (3, [.ref a15])), (a15, .inl (cI, 8192, .inl (fun j => nI (SR j))))] [.ref hO, .int x]) hw_Ni (hw_X "java/lang/IllegalArgumentException") 1 6 (fun _ => False) := by
  refine vx_ofW (cc := cX7_told) (maxL := 2) (ret := (some .int)) (by decide) rfl ?_
  intro pg ev s m args below meth cd s₁ B hml htab hv
  obtain ⟨rfl, hP, hK, hN, hZ, hX⟩ := hv
  have hx := B.exec
  have hb := B.bytes
  have hr := B.returns
  have hts := atoms_spec (ws := wsX7_told) B.pre
  have hown : s.vm.findClass RX7 = some m.cls := findClass_of_methodNamed B.named
  have hlocks := B.notSynchronized
  have hS : va_S (fun _ => False) s.heap s.heap [] := va_S.rf
  have hk : hw_K (dC, dI) vwCl (ty3 cI cZ cJ) (fun _ => False) s := ⟨hK, hN, hZ⟩
  have hiX3 : ∀ w ∈ u_ws RX3 TX3 6, w ∈ wsX7_told := by decide +kernel
  have hiX7 : ∀ w ∈ u_ws RX7 TX7 13, w ∈ wsX7_told := by decide +kernel
  have hl := lv_entry ([.ref hO, .int x]) (n := 2) (Nat.le_of_ble_eq_true rfl)
  rw [lg_entry_eq]
  generalize (lg_sl ([.ref hO, .int x]) ++ List.replicate (2 - (lg_sl ([.ref hO, .int x])).length) Slot.unset).toArray = ls at hl ⊢
  have hl : lv_has ls 2 [(0, .ref hO), (1, .int x)] := hl
  refine lv_iload_n hx hb dX7_told_0 rfl (lv_at hl 1 rfl) ?_
  refine lv_tableOut (tgt := 94) hx hb dX7_told_1 (sp_iw_out5 hno) (by decide) ?_
  obtain ⟨sa, hsa⟩ := hX.2.1 (205, "what is told is 0 to 5") (by decide +kernel)
  exact vx_throwS (A := fun _ => False) (names := ["java/lang/RuntimeException", "java/lang/Exception"]) hx hb hl0 hown (by decide +kernel) (by decide +kernel) (hts (.classLink RX7 82 "java/lang/IllegalArgumentException") (by decide +kernel)) (hts (.initialized "java/lang/IllegalArgumentException") (by decide +kernel)) hsa (xt_hat hX hts xm_X7_told_a xt_2a) xt_ga hX.2.2.1 hX.2.2.2.1 hS (by rw [hml]; exact hl.1) dX7_told_94 dX7_told_97 dX7_told_98 dX7_told_100 dX7_told_103 (fun x9 h9 => (htab x9 h9).elim) (Nat.le_of_ble_eq_true rfl) (Nat.le_of_ble_eq_true rfl) (Nat.le_of_ble_eq_true rfl) (Nat.le_of_ble_eq_true rfl) hlocks (fun t h1 h2 h3 => ⟨(), trivial, rfl, Nat.le_trans hS.1 h2, fun q hq _ => (h3 q (Nat.lt_of_lt_of_le hq hS.1)).trans (hS.2.1 q hq (fun z => z))⟩) hS.2.2 (Nat.le_of_ble_eq_true rfl) (Nat.le_of_ble_eq_true rfl)
