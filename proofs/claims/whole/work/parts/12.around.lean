set_option maxHeartbeats 4000000 in
set_option maxRecDepth 100000 in
/-- setPlace0 -/
theorem c_X5_setPlace0 (l : Launch) (dC : Nat → ClassId) (dI : Nat → Nat → Nat) (cI cZ cJ : ClassId) (hu : Nat) (hr0 : Nat) (hra : Nat) (rwd : Nat) (rht : Nat) (rg : Nat → Int32) (dx : Int32) (dy : Int32) (tp : Int32) (p0 : Int32) (q0 : Int32) (p1 : Int32) (q1 : Int32) (a : Int32) (b : Int32) (sz : Nat) : Met l yX5_setPlace0 wsX5_setPlace0 ({ frames := 0, cells := 0, slots := 0, locals := 0 }) (hw_Pre (dC, dI) vwCl (ty3 cI cZ cJ) [(hu, .inr (4, [.ref hr0, .int dx, .int dy, .int tp, .int p0, .int q0, .int p1, .int q1])), (hr0, .inr (0, [.int (nI 60), .ref hra, .int (nI rwd), .int (nI rht)])), (hra, .inl (cI, 60 * 60, .inl rg))] sz [.ref hu, .int a, .int b]) (va_Qv (fun _ : Unit => True) (hw_at (dC, dI) vwCl (ty3 cI cZ cJ) (fun _ : Unit => [(hu, .inr (4, [.ref hr0, .int dx, .int dy, .int tp, .int a, .int b, .int p1, .int q1])), (hr0, .inr (0, [.int (nI 60), .ref hra, .int (nI rwd), .int (nI rht)])), (hra, .inl (cI, 60 * 60, .inl rg))]) (va_A [(hu, .inr (4, [.ref hr0, .int dx, .int dy, .int tp, .int p0, .int q0, .int p1, .int q1])), (hr0, .inr (0, [.int (nI 60), .ref hra, .int (nI rwd), .int (nI rht)])), (hra, .inl (cI, 60 * 60, .inl rg))] sz)) (va_A [(hu, .inr (4, [.ref hr0, .int dx, .int dy, .int tp, .int p0, .int q0, .int p1, .int q1])), (hr0, .inr (0, [.int (nI 60), .ref hra, .int (nI rwd), .int (nI rht)])), (hra, .inl (cI, 60 * 60, .inl rg))] sz)) 0 0 (va_A [(hu, .inr (4, [.ref hr0, .int dx, .int dy, .int tp, .int p0, .int q0, .int p1, .int q1])), (hr0, .inr (0, [.int (nI 60), .ref hra, .int (nI rwd), .int (nI rht)])), (hra, .inl (cI, 60 * 60, .inl rg))] sz) := by
  refine Met.ofW (cc := cX5_setPlace0) (maxL := 3) (ret := none) (by decide) rfl ?_
  intro pg ev s m args below meth cd s₁ B hml hv
  obtain ⟨rfl, hsz, hP, hK, hN, hZ, hD0⟩ := hv
  have hx := B.exec
  have hb := B.bytes
  have hr := B.returns
  have hts := atoms_spec (ws := wsX5_setPlace0) B.pre
  have hown : s.vm.findClass RX5 = some m.cls := findClass_of_methodNamed B.named
  have hlocks := B.notSynchronized
  subst hsz
  have hD := hD0.self (sz := s.heap.size)
  generalize hAe : va_A [(hu, .inr (4, [.ref hr0, .int dx, .int dy, .int tp, .int p0, .int q0, .int p1, .int q1])), (hr0, .inr (0, [.int (nI 60), .ref hra, .int (nI rwd), .int (nI rht)])), (hra, .inl (cI, 60 * 60, .inl rg))] s.heap.size = A at hD hZ ⊢
  have hA : ∀ q : Nat, s.heap.size ≤ q → A q := fun q h => by rw [← hAe]; exact Or.inr h
  have hS : va_S A s.heap s.heap [] := va_S.rf
  have hk : hw_K (dC, dI) vwCl (ty3 cI cZ cJ) A s := ⟨hK, hN, hZ⟩
  have hiX5 : ∀ w ∈ u_ws RX5 TX5 8, w ∈ wsX5_setPlace0 := by decide +kernel
  have hl := lv_entry ([.ref hu, .int a, .int b]) (n := 3) (Nat.le_of_ble_eq_true rfl)
  rw [lg_entry_eq]
  generalize (lg_sl ([.ref hu, .int a, .int b]) ++ List.replicate (3 - (lg_sl ([.ref hu, .int a, .int b])).length) Slot.unset).toArray = ls at hl ⊢
  have hl : lv_has ls 3 [(0, .ref hu), (1, .int a), (2, .int b)] := hl
  refine lv_aload_n hx hb dX5_setPlace0_0 rfl (lv_at hl 0 rfl) ?_
  refine lv_iload_n hx hb dX5_setPlace0_1 rfl (lv_at hl 1 rfl) ?_
  refine va_put (D := (dC, dI)) (ci := 4) (v := .int a) (ty := .int) (C := RX5) (T := TX5) (N := 8) hx hb hts hiX5 tyX5 tyX5_ok nmX5 hown hK hP hD hS 0 rfl rfl 4 (by decide) (hts (.fieldLink RX5 30 "RefineRegions$Surroundings" "p0" "I") (by decide +kernel)) (fun _ h9 => h9) rfl (by decide +kernel) rfl rfl (Nat.le_of_ble_eq_true rfl) dX5_setPlace0_2 (fun H locs hP hD hS => ?_)
  have hP : va_P (dC, dI) vwCl [(hu, .inr (4, [.ref hr0, .int dx, .int dy, .int tp, .int a, .int q0, .int p1, .int q1])), (hr0, .inr (0, [.int (nI 60), .ref hra, .int (nI rwd), .int (nI rht)])), (hra, .inl (cI, 60 * 60, .inl rg))] H := hP
  have hD : va_D A [(hu, .inr (4, [.ref hr0, .int dx, .int dy, .int tp, .int a, .int q0, .int p1, .int q1])), (hr0, .inr (0, [.int (nI 60), .ref hra, .int (nI rwd), .int (nI rht)])), (hra, .inl (cI, 60 * 60, .inl rg))] := hD
  refine lv_aload_n hx hb dX5_setPlace0_5 rfl (lv_at hl 0 rfl) ?_
  refine lv_iload_n hx hb dX5_setPlace0_6 rfl (lv_at hl 2 rfl) ?_
  refine va_put (D := (dC, dI)) (ci := 4) (v := .int b) (ty := .int) (C := RX5) (T := TX5) (N := 8) hx hb hts hiX5 tyX5 tyX5_ok nmX5 hown hK hP hD hS 0 rfl rfl 5 (by decide) (hts (.fieldLink RX5 33 "RefineRegions$Surroundings" "q0" "I") (by decide +kernel)) (fun _ h9 => h9) rfl (by decide +kernel) rfl rfl (Nat.le_of_ble_eq_true rfl) dX5_setPlace0_7 (fun H locs hP hD hS => ?_)
  have hP : va_P (dC, dI) vwCl [(hu, .inr (4, [.ref hr0, .int dx, .int dy, .int tp, .int a, .int b, .int p1, .int q1])), (hr0, .inr (0, [.int (nI 60), .ref hra, .int (nI rwd), .int (nI rht)])), (hra, .inl (cI, 60 * 60, .inl rg))] H := hP
  have hD : va_D A [(hu, .inr (4, [.ref hr0, .int dx, .int dy, .int tp, .int a, .int b, .int p1, .int q1])), (hr0, .inr (0, [.int (nI 60), .ref hra, .int (nI rwd), .int (nI rht)])), (hra, .inl (cI, 60 * 60, .inl rg))] := hD
  have hP9 := hP
  have hD9 := hD
  exact W.vret hx hb hr (fun t ht hW => ⟨⟨(), rfl, trivial, by rw [ht]; exact hP9, va_K.moved hW.alike hK, hD9⟩, hS.F ht⟩) hS.2.2 dX5_setPlace0_10

set_option maxHeartbeats 4000000 in
set_option maxRecDepth 100000 in
/-- setPlace1 -/
theorem c_X5_setPlace1 (l : Launch) (dC : Nat → ClassId) (dI : Nat → Nat → Nat) (cI cZ cJ : ClassId) (hu : Nat) (hr0 : Nat) (hra : Nat) (rwd : Nat) (rht : Nat) (rg : Nat → Int32) (dx : Int32) (dy : Int32) (tp : Int32) (p0 : Int32) (q0 : Int32) (p1 : Int32) (q1 : Int32) (a : Int32) (b : Int32) (sz : Nat) : Met l yX5_setPlace1 wsX5_setPlace1 ({ frames := 0, cells := 0, slots := 0, locals := 0 }) (hw_Pre (dC, dI) vwCl (ty3 cI cZ cJ) [(hu, .inr (4, [.ref hr0, .int dx, .int dy, .int tp, .int p0, .int q0, .int p1, .int q1])), (hr0, .inr (0, [.int (nI 60), .ref hra, .int (nI rwd), .int (nI rht)])), (hra, .inl (cI, 60 * 60, .inl rg))] sz [.ref hu, .int a, .int b]) (va_Qv (fun _ : Unit => True) (hw_at (dC, dI) vwCl (ty3 cI cZ cJ) (fun _ : Unit => [(hu, .inr (4, [.ref hr0, .int dx, .int dy, .int tp, .int p0, .int q0, .int a, .int b])), (hr0, .inr (0, [.int (nI 60), .ref hra, .int (nI rwd), .int (nI rht)])), (hra, .inl (cI, 60 * 60, .inl rg))]) (va_A [(hu, .inr (4, [.ref hr0, .int dx, .int dy, .int tp, .int p0, .int q0, .int p1, .int q1])), (hr0, .inr (0, [.int (nI 60), .ref hra, .int (nI rwd), .int (nI rht)])), (hra, .inl (cI, 60 * 60, .inl rg))] sz)) (va_A [(hu, .inr (4, [.ref hr0, .int dx, .int dy, .int tp, .int p0, .int q0, .int p1, .int q1])), (hr0, .inr (0, [.int (nI 60), .ref hra, .int (nI rwd), .int (nI rht)])), (hra, .inl (cI, 60 * 60, .inl rg))] sz)) 0 0 (va_A [(hu, .inr (4, [.ref hr0, .int dx, .int dy, .int tp, .int p0, .int q0, .int p1, .int q1])), (hr0, .inr (0, [.int (nI 60), .ref hra, .int (nI rwd), .int (nI rht)])), (hra, .inl (cI, 60 * 60, .inl rg))] sz) := by
  refine Met.ofW (cc := cX5_setPlace1) (maxL := 3) (ret := none) (by decide) rfl ?_
  intro pg ev s m args below meth cd s₁ B hml hv
  obtain ⟨rfl, hsz, hP, hK, hN, hZ, hD0⟩ := hv
  have hx := B.exec
  have hb := B.bytes
  have hr := B.returns
  have hts := atoms_spec (ws := wsX5_setPlace1) B.pre
  have hown : s.vm.findClass RX5 = some m.cls := findClass_of_methodNamed B.named
  have hlocks := B.notSynchronized
  subst hsz
  have hD := hD0.self (sz := s.heap.size)
  generalize hAe : va_A [(hu, .inr (4, [.ref hr0, .int dx, .int dy, .int tp, .int p0, .int q0, .int p1, .int q1])), (hr0, .inr (0, [.int (nI 60), .ref hra, .int (nI rwd), .int (nI rht)])), (hra, .inl (cI, 60 * 60, .inl rg))] s.heap.size = A at hD hZ ⊢
  have hA : ∀ q : Nat, s.heap.size ≤ q → A q := fun q h => by rw [← hAe]; exact Or.inr h
  have hS : va_S A s.heap s.heap [] := va_S.rf
  have hk : hw_K (dC, dI) vwCl (ty3 cI cZ cJ) A s := ⟨hK, hN, hZ⟩
  have hiX5 : ∀ w ∈ u_ws RX5 TX5 8, w ∈ wsX5_setPlace1 := by decide +kernel
  have hl := lv_entry ([.ref hu, .int a, .int b]) (n := 3) (Nat.le_of_ble_eq_true rfl)
  rw [lg_entry_eq]
  generalize (lg_sl ([.ref hu, .int a, .int b]) ++ List.replicate (3 - (lg_sl ([.ref hu, .int a, .int b])).length) Slot.unset).toArray = ls at hl ⊢
  have hl : lv_has ls 3 [(0, .ref hu), (1, .int a), (2, .int b)] := hl
  refine lv_aload_n hx hb dX5_setPlace1_0 rfl (lv_at hl 0 rfl) ?_
  refine lv_iload_n hx hb dX5_setPlace1_1 rfl (lv_at hl 1 rfl) ?_
  refine va_put (D := (dC, dI)) (ci := 4) (v := .int a) (ty := .int) (C := RX5) (T := TX5) (N := 8) hx hb hts hiX5 tyX5 tyX5_ok nmX5 hown hK hP hD hS 0 rfl rfl 6 (by decide) (hts (.fieldLink RX5 36 "RefineRegions$Surroundings" "p1" "I") (by decide +kernel)) (fun _ h9 => h9) rfl (by decide +kernel) rfl rfl (Nat.le_of_ble_eq_true rfl) dX5_setPlace1_2 (fun H locs hP hD hS => ?_)
  have hP : va_P (dC, dI) vwCl [(hu, .inr (4, [.ref hr0, .int dx, .int dy, .int tp, .int p0, .int q0, .int a, .int q1])), (hr0, .inr (0, [.int (nI 60), .ref hra, .int (nI rwd), .int (nI rht)])), (hra, .inl (cI, 60 * 60, .inl rg))] H := hP
  have hD : va_D A [(hu, .inr (4, [.ref hr0, .int dx, .int dy, .int tp, .int p0, .int q0, .int a, .int q1])), (hr0, .inr (0, [.int (nI 60), .ref hra, .int (nI rwd), .int (nI rht)])), (hra, .inl (cI, 60 * 60, .inl rg))] := hD
  refine lv_aload_n hx hb dX5_setPlace1_5 rfl (lv_at hl 0 rfl) ?_
  refine lv_iload_n hx hb dX5_setPlace1_6 rfl (lv_at hl 2 rfl) ?_
  refine va_put (D := (dC, dI)) (ci := 4) (v := .int b) (ty := .int) (C := RX5) (T := TX5) (N := 8) hx hb hts hiX5 tyX5 tyX5_ok nmX5 hown hK hP hD hS 0 rfl rfl 7 (by decide) (hts (.fieldLink RX5 39 "RefineRegions$Surroundings" "q1" "I") (by decide +kernel)) (fun _ h9 => h9) rfl (by decide +kernel) rfl rfl (Nat.le_of_ble_eq_true rfl) dX5_setPlace1_7 (fun H locs hP hD hS => ?_)
  have hP : va_P (dC, dI) vwCl [(hu, .inr (4, [.ref hr0, .int dx, .int dy, .int tp, .int p0, .int q0, .int a, .int b])), (hr0, .inr (0, [.int (nI 60), .ref hra, .int (nI rwd), .int (nI rht)])), (hra, .inl (cI, 60 * 60, .inl rg))] H := hP
  have hD : va_D A [(hu, .inr (4, [.ref hr0, .int dx, .int dy, .int tp, .int p0, .int q0, .int a, .int b])), (hr0, .inr (0, [.int (nI 60), .ref hra, .int (nI rwd), .int (nI rht)])), (hra, .inl (cI, 60 * 60, .inl rg))] := hD
  have hP9 := hP
  have hD9 := hD
  exact W.vret hx hb hr (fun t ht hW => ⟨⟨(), rfl, trivial, by rw [ht]; exact hP9, va_K.moved hW.alike hK, hD9⟩, hS.F ht⟩) hS.2.2 dX5_setPlace1_10

set_option maxHeartbeats 4000000 in
set_option maxRecDepth 100000 in
/-- move -/
theorem c_X5_move (l : Launch) (dC : Nat → ClassId) (dI : Nat → Nat → Nat) (cI cZ cJ : ClassId) (hu : Nat) (hr0 : Nat) (hra : Nat) (rwd : Nat) (rht : Nat) (rg : Nat → Int32) (dx : Int32) (dy : Int32) (tp : Int32) (p0 : Int32) (q0 : Int32) (p1 : Int32) (q1 : Int32) (a : Int32) (b : Int32) (sz : Nat) : Met l yX5_move wsX5_move ({ frames := 0, cells := 0, slots := 0, locals := 0 }) (hw_Pre (dC, dI) vwCl (ty3 cI cZ cJ) [(hu, .inr (4, [.ref hr0, .int dx, .int dy, .int tp, .int p0, .int q0, .int p1, .int q1])), (hr0, .inr (0, [.int (nI 60), .ref hra, .int (nI rwd), .int (nI rht)])), (hra, .inl (cI, 60 * 60, .inl rg))] sz [.ref hu, .int a, .int b]) (va_Qv (fun _ : Unit => True) (hw_at (dC, dI) vwCl (ty3 cI cZ cJ) (fun _ : Unit => [(hu, .inr (4, [.ref hr0, .int a, .int b, .int tp, .int p0, .int q0, .int p1, .int q1])), (hr0, .inr (0, [.int (nI 60), .ref hra, .int (nI rwd), .int (nI rht)])), (hra, .inl (cI, 60 * 60, .inl rg))]) (va_A [(hu, .inr (4, [.ref hr0, .int dx, .int dy, .int tp, .int p0, .int q0, .int p1, .int q1])), (hr0, .inr (0, [.int (nI 60), .ref hra, .int (nI rwd), .int (nI rht)])), (hra, .inl (cI, 60 * 60, .inl rg))] sz)) (va_A [(hu, .inr (4, [.ref hr0, .int dx, .int dy, .int tp, .int p0, .int q0, .int p1, .int q1])), (hr0, .inr (0, [.int (nI 60), .ref hra, .int (nI rwd), .int (nI rht)])), (hra, .inl (cI, 60 * 60, .inl rg))] sz)) 0 0 (va_A [(hu, .inr (4, [.ref hr0, .int dx, .int dy, .int tp, .int p0, .int q0, .int p1, .int q1])), (hr0, .inr (0, [.int (nI 60), .ref hra, .int (nI rwd), .int (nI rht)])), (hra, .inl (cI, 60 * 60, .inl rg))] sz) := by
  refine Met.ofW (cc := cX5_move) (maxL := 3) (ret := none) (by decide) rfl ?_
  intro pg ev s m args below meth cd s₁ B hml hv
  obtain ⟨rfl, hsz, hP, hK, hN, hZ, hD0⟩ := hv
  have hx := B.exec
  have hb := B.bytes
  have hr := B.returns
  have hts := atoms_spec (ws := wsX5_move) B.pre
  have hown : s.vm.findClass RX5 = some m.cls := findClass_of_methodNamed B.named
  have hlocks := B.notSynchronized
  subst hsz
  have hD := hD0.self (sz := s.heap.size)
  generalize hAe : va_A [(hu, .inr (4, [.ref hr0, .int dx, .int dy, .int tp, .int p0, .int q0, .int p1, .int q1])), (hr0, .inr (0, [.int (nI 60), .ref hra, .int (nI rwd), .int (nI rht)])), (hra, .inl (cI, 60 * 60, .inl rg))] s.heap.size = A at hD hZ ⊢
  have hA : ∀ q : Nat, s.heap.size ≤ q → A q := fun q h => by rw [← hAe]; exact Or.inr h
  have hS : va_S A s.heap s.heap [] := va_S.rf
  have hk : hw_K (dC, dI) vwCl (ty3 cI cZ cJ) A s := ⟨hK, hN, hZ⟩
  have hiX5 : ∀ w ∈ u_ws RX5 TX5 8, w ∈ wsX5_move := by decide +kernel
  have hl := lv_entry ([.ref hu, .int a, .int b]) (n := 3) (Nat.le_of_ble_eq_true rfl)
  rw [lg_entry_eq]
  generalize (lg_sl ([.ref hu, .int a, .int b]) ++ List.replicate (3 - (lg_sl ([.ref hu, .int a, .int b])).length) Slot.unset).toArray = ls at hl ⊢
  have hl : lv_has ls 3 [(0, .ref hu), (1, .int a), (2, .int b)] := hl
  refine lv_aload_n hx hb dX5_move_0 rfl (lv_at hl 0 rfl) ?_
  refine lv_iload_n hx hb dX5_move_1 rfl (lv_at hl 1 rfl) ?_
  refine va_put (D := (dC, dI)) (ci := 4) (v := .int a) (ty := .int) (C := RX5) (T := TX5) (N := 8) hx hb hts hiX5 tyX5 tyX5_ok nmX5 hown hK hP hD hS 0 rfl rfl 1 (by decide) (hts (.fieldLink RX5 20 "RefineRegions$Surroundings" "dx" "I") (by decide +kernel)) (fun _ h9 => h9) rfl (by decide +kernel) rfl rfl (Nat.le_of_ble_eq_true rfl) dX5_move_2 (fun H locs hP hD hS => ?_)
  have hP : va_P (dC, dI) vwCl [(hu, .inr (4, [.ref hr0, .int a, .int dy, .int tp, .int p0, .int q0, .int p1, .int q1])), (hr0, .inr (0, [.int (nI 60), .ref hra, .int (nI rwd), .int (nI rht)])), (hra, .inl (cI, 60 * 60, .inl rg))] H := hP
  have hD : va_D A [(hu, .inr (4, [.ref hr0, .int a, .int dy, .int tp, .int p0, .int q0, .int p1, .int q1])), (hr0, .inr (0, [.int (nI 60), .ref hra, .int (nI rwd), .int (nI rht)])), (hra, .inl (cI, 60 * 60, .inl rg))] := hD
  refine lv_aload_n hx hb dX5_move_5 rfl (lv_at hl 0 rfl) ?_
  refine lv_iload_n hx hb dX5_move_6 rfl (lv_at hl 2 rfl) ?_
  refine va_put (D := (dC, dI)) (ci := 4) (v := .int b) (ty := .int) (C := RX5) (T := TX5) (N := 8) hx hb hts hiX5 tyX5 tyX5_ok nmX5 hown hK hP hD hS 0 rfl rfl 2 (by decide) (hts (.fieldLink RX5 24 "RefineRegions$Surroundings" "dy" "I") (by decide +kernel)) (fun _ h9 => h9) rfl (by decide +kernel) rfl rfl (Nat.le_of_ble_eq_true rfl) dX5_move_7 (fun H locs hP hD hS => ?_)
  have hP : va_P (dC, dI) vwCl [(hu, .inr (4, [.ref hr0, .int a, .int b, .int tp, .int p0, .int q0, .int p1, .int q1])), (hr0, .inr (0, [.int (nI 60), .ref hra, .int (nI rwd), .int (nI rht)])), (hra, .inl (cI, 60 * 60, .inl rg))] H := hP
  have hD : va_D A [(hu, .inr (4, [.ref hr0, .int a, .int b, .int tp, .int p0, .int q0, .int p1, .int q1])), (hr0, .inr (0, [.int (nI 60), .ref hra, .int (nI rwd), .int (nI rht)])), (hra, .inl (cI, 60 * 60, .inl rg))] := hD
  have hP9 := hP
  have hD9 := hD
  exact W.vret hx hb hr (fun t ht hW => ⟨⟨(), rfl, trivial, by rw [ht]; exact hP9, va_K.moved hW.alike hK, hD9⟩, hS.F ht⟩) hS.2.2 dX5_move_10

set_option maxHeartbeats 4000000 in
set_option maxRecDepth 100000 in
/-- begin(template) -/
theorem c_X5_begin (l : Launch) (dC : Nat → ClassId) (dI : Nat → Nat → Nat) (cI cZ cJ : ClassId) (hu : Nat) (hr0 : Nat) (hra : Nat) (rwd : Nat) (rht : Nat) (rg : Nat → Int32) (dx : Int32) (dy : Int32) (tp : Int32) (p0 : Int32) (q0 : Int32) (p1 : Int32) (q1 : Int32) (t2 : Int32) (sz : Nat) : Met l yX5_begin wsX5_begin ({ frames := 1, cells := 0, slots := 0, locals := 22 }) (hw_Pre (dC, dI) vwCl (ty3 cI cZ cJ) [(hu, .inr (4, [.ref hr0, .int dx, .int dy, .int tp, .int p0, .int q0, .int p1, .int q1])), (hr0, .inr (0, [.int (nI 60), .ref hra, .int (nI rwd), .int (nI rht)])), (hra, .inl (cI, 60 * 60, .inl rg))] sz [.ref hu, .int t2]) (va_Qv (fun _ : Unit => True) (hw_at (dC, dI) vwCl (ty3 cI cZ cJ) (fun _ : Unit => [(hu, .inr (4, [.ref hr0, .int dx, .int dy, .int t2, .int (-1), .int (-1), .int (-1), .int (-1)])), (hr0, .inr (0, [.int (nI 60), .ref hra, .int (nI rwd), .int (nI rht)])), (hra, .inl (cI, 60 * 60, .inl rg))]) (va_A [(hu, .inr (4, [.ref hr0, .int dx, .int dy, .int tp, .int p0, .int q0, .int p1, .int q1])), (hr0, .inr (0, [.int (nI 60), .ref hra, .int (nI rwd), .int (nI rht)])), (hra, .inl (cI, 60 * 60, .inl rg))] sz)) (va_A [(hu, .inr (4, [.ref hr0, .int dx, .int dy, .int tp, .int p0, .int q0, .int p1, .int q1])), (hr0, .inr (0, [.int (nI 60), .ref hra, .int (nI rwd), .int (nI rht)])), (hra, .inl (cI, 60 * 60, .inl rg))] sz)) 0 0 (va_A [(hu, .inr (4, [.ref hr0, .int dx, .int dy, .int tp, .int p0, .int q0, .int p1, .int q1])), (hr0, .inr (0, [.int (nI 60), .ref hra, .int (nI rwd), .int (nI rht)])), (hra, .inl (cI, 60 * 60, .inl rg))] sz) := by
  refine Met.ofW (cc := cX5_begin) (maxL := 2) (ret := none) (by decide) rfl ?_
  intro pg ev s m args below meth cd s₁ B hml hv
  obtain ⟨rfl, hsz, hP, hK, hN, hZ, hD0⟩ := hv
  have hx := B.exec
  have hb := B.bytes
  have hr := B.returns
  have hts := atoms_spec (ws := wsX5_begin) B.pre
  have hown : s.vm.findClass RX5 = some m.cls := findClass_of_methodNamed B.named
  have hlocks := B.notSynchronized
  subst hsz
  have hD := hD0.self (sz := s.heap.size)
  generalize hAe : va_A [(hu, .inr (4, [.ref hr0, .int dx, .int dy, .int tp, .int p0, .int q0, .int p1, .int q1])), (hr0, .inr (0, [.int (nI 60), .ref hra, .int (nI rwd), .int (nI rht)])), (hra, .inl (cI, 60 * 60, .inl rg))] s.heap.size = A at hD hZ ⊢
  have hA : ∀ q : Nat, s.heap.size ≤ q → A q := fun q h => by rw [← hAe]; exact Or.inr h
  have hS : va_S A s.heap s.heap [] := va_S.rf
  have hk : hw_K (dC, dI) vwCl (ty3 cI cZ cJ) A s := ⟨hK, hN, hZ⟩
  have hiX5 : ∀ w ∈ u_ws RX5 TX5 8, w ∈ wsX5_begin := by decide +kernel
  have hl := lv_entry ([.ref hu, .int t2]) (n := 2) (Nat.le_of_ble_eq_true rfl)
  rw [lg_entry_eq]
  generalize (lg_sl ([.ref hu, .int t2]) ++ List.replicate (2 - (lg_sl ([.ref hu, .int t2])).length) Slot.unset).toArray = ls at hl ⊢
  have hl : lv_has ls 2 [(0, .ref hu), (1, .int t2)] := hl
  refine lv_aload_n hx hb dX5_begin_0 rfl (lv_at hl 0 rfl) ?_
  refine lv_iload_n hx hb dX5_begin_1 rfl (lv_at hl 1 rfl) ?_
  refine va_put (D := (dC, dI)) (ci := 4) (v := .int t2) (ty := .int) (C := RX5) (T := TX5) (N := 8) hx hb hts hiX5 tyX5 tyX5_ok nmX5 hown hK hP hD hS 0 rfl rfl 3 (by decide) (hts (.fieldLink RX5 27 "RefineRegions$Surroundings" "template" "I") (by decide +kernel)) (fun _ h9 => h9) rfl (by decide +kernel) rfl rfl (Nat.le_of_ble_eq_true rfl) dX5_begin_2 (fun H locs hP hD hS => ?_)
  have hP : va_P (dC, dI) vwCl [(hu, .inr (4, [.ref hr0, .int dx, .int dy, .int t2, .int p0, .int q0, .int p1, .int q1])), (hr0, .inr (0, [.int (nI 60), .ref hra, .int (nI rwd), .int (nI rht)])), (hra, .inl (cI, 60 * 60, .inl rg))] H := hP
  have hD : va_D A [(hu, .inr (4, [.ref hr0, .int dx, .int dy, .int t2, .int p0, .int q0, .int p1, .int q1])), (hr0, .inr (0, [.int (nI 60), .ref hra, .int (nI rwd), .int (nI rht)])), (hra, .inl (cI, 60 * 60, .inl rg))] := hD
  refine lv_aload_n hx hb dX5_begin_5 rfl (lv_at hl 0 rfl) ?_
  refine lv_iconst (v := (-1)) hx hb dX5_begin_6 (by decide) ?_
  refine lv_iconst (v := (-1)) hx hb dX5_begin_7 (by decide) ?_
  refine hw_callv (wr := []) (w2 := fun _ : Unit => [(hu, .inr (4, [.ref hr0, .int dx, .int dy, .int t2, .int (-1), .int (-1), .int p1, .int q1])), (hr0, .inr (0, [.int (nI 60), .ref hra, .int (nI rwd), .int (nI rht)])), (hra, .inl (cI, 60 * 60, .inl rg))]) (va_runV (As := [.int (-1), .int (-1)]) (rest := []) ⟨hx, hb, hml, hown, hts⟩ (c_X5_setPlace0 l dC dI cI cZ cJ hu hr0 hra rwd rht rg dx dy t2 p0 q0 p1 q1 (-1) (-1) H.size) (cwV 2 hts gX5_begin_X5_setPlace0 rfl rfl rfl (by decide +kernel) ⟨Nat.le_of_ble_eq_true rfl, Nat.le_of_ble_eq_true rfl⟩) (hw_preV hP hD hS hA hk [0, 1, 2] (by decide) rfl (ci := 4) (q0 := 0) rfl rfl) rfl rfl hl.1 rfl (lv_room (Nat.le_of_ble_eq_true rfl)) dX5_begin_8 ⟨Nat.le_of_ble_eq_true rfl, Nat.le_of_ble_eq_true rfl⟩) hP hD hS hA [0, 1, 2] [] [0, 1, 2] rfl rfl (by decide) (by decide) (by decide) (fun _ => rfl) (fun u_8 H locs hw hP hD hS => ?_)
  have hP : va_P (dC, dI) vwCl [(hu, .inr (4, [.ref hr0, .int dx, .int dy, .int t2, .int (-1), .int (-1), .int p1, .int q1])), (hr0, .inr (0, [.int (nI 60), .ref hra, .int (nI rwd), .int (nI rht)])), (hra, .inl (cI, 60 * 60, .inl rg))] H := hP
  have hD : va_D A [(hu, .inr (4, [.ref hr0, .int dx, .int dy, .int t2, .int (-1), .int (-1), .int p1, .int q1])), (hr0, .inr (0, [.int (nI 60), .ref hra, .int (nI rwd), .int (nI rht)])), (hra, .inl (cI, 60 * 60, .inl rg))] := hD
  refine lv_aload_n hx hb dX5_begin_11 rfl (lv_at hl 0 rfl) ?_
  refine lv_iconst (v := (-1)) hx hb dX5_begin_12 (by decide) ?_
  refine lv_iconst (v := (-1)) hx hb dX5_begin_13 (by decide) ?_
  refine hw_callv (wr := []) (w2 := fun _ : Unit => [(hu, .inr (4, [.ref hr0, .int dx, .int dy, .int t2, .int (-1), .int (-1), .int (-1), .int (-1)])), (hr0, .inr (0, [.int (nI 60), .ref hra, .int (nI rwd), .int (nI rht)])), (hra, .inl (cI, 60 * 60, .inl rg))]) (va_runV (As := [.int (-1), .int (-1)]) (rest := []) ⟨hx, hb, hml, hown, hts⟩ (c_X5_setPlace1 l dC dI cI cZ cJ hu hr0 hra rwd rht rg dx dy t2 (-1) (-1) p1 q1 (-1) (-1) H.size) (cwV 2 hts gX5_begin_X5_setPlace1 rfl rfl rfl (by decide +kernel) ⟨Nat.le_of_ble_eq_true rfl, Nat.le_of_ble_eq_true rfl⟩) (hw_preV hP hD hS hA hk [0, 1, 2] (by decide) rfl (ci := 4) (q0 := 0) rfl rfl) rfl rfl hl.1 rfl (lv_room (Nat.le_of_ble_eq_true rfl)) dX5_begin_14 ⟨Nat.le_of_ble_eq_true rfl, Nat.le_of_ble_eq_true rfl⟩) hP hD hS hA [0, 1, 2] [] [0, 1, 2] rfl rfl (by decide) (by decide) (by decide) (fun _ => rfl) (fun u_14 H locs hw hP hD hS => ?_)
  have hP : va_P (dC, dI) vwCl [(hu, .inr (4, [.ref hr0, .int dx, .int dy, .int t2, .int (-1), .int (-1), .int (-1), .int (-1)])), (hr0, .inr (0, [.int (nI 60), .ref hra, .int (nI rwd), .int (nI rht)])), (hra, .inl (cI, 60 * 60, .inl rg))] H := hP
  have hD : va_D A [(hu, .inr (4, [.ref hr0, .int dx, .int dy, .int t2, .int (-1), .int (-1), .int (-1), .int (-1)])), (hr0, .inr (0, [.int (nI 60), .ref hra, .int (nI rwd), .int (nI rht)])), (hra, .inl (cI, 60 * 60, .inl rg))] := hD
  have hP9 := hP
  have hD9 := hD
  exact W.vret hx hb hr (fun t ht hW => ⟨⟨(), rfl, trivial, by rw [ht]; exact hP9, va_K.moved hW.alike hK, hD9⟩, hS.F ht⟩) hS.2.2 dX5_begin_17

set_option maxHeartbeats 4000000 in
set_option maxRecDepth 100000 in
/-- rowContext() -/
theorem c_X5_rowContext (l : Launch) (dC : Nat → ClassId) (dI : Nat → Nat → Nat) (cI cZ cJ : ClassId) (hu : Nat) (hr0 : Nat) (hra : Nat) (rwd : Nat) (rht : Nat) (rg : Nat → Int32) (dx : Int32) (dy : Int32) (tp : Int32) (p0 : Int32) (q0 : Int32) (p1 : Int32) (q1 : Int32) : Met l yX5_rowContext wsX5_rowContext ({ frames := 0, cells := 0, slots := 0, locals := 0 }) (hw_Ro (dC, dI) vwCl (ty3 cI cZ cJ) [(hu, .inr (4, [.ref hr0, .int dx, .int dy, .int tp, .int p0, .int q0, .int p1, .int q1])), (hr0, .inr (0, [.int (nI 60), .ref hra, .int (nI rwd), .int (nI rht)])), (hra, .inl (cI, 60 * 60, .inl rg))] [.ref hu]) (vp_Si (fun r => r = (if tp = 0 then 16 else 8 : Int32))) 0 0 (fun _ => False) := by
  refine Met.ofW (cc := cX5_rowContext) (maxL := 1) (ret := (some .int)) (by decide) rfl ?_
  intro pg ev s m args below meth cd s₁ B hml hv
  obtain ⟨rfl, hP, hK, hN, hZ⟩ := hv
  have hx := B.exec
  have hb := B.bytes
  have hr := B.returns
  have hts := atoms_spec (ws := wsX5_rowContext) B.pre
  have hown : s.vm.findClass RX5 = some m.cls := findClass_of_methodNamed B.named
  have hlocks := B.notSynchronized
  have hS : va_S (fun _ => False) s.heap s.heap [] := va_S.rf
  have hk : hw_K (dC, dI) vwCl (ty3 cI cZ cJ) (fun _ => False) s := ⟨hK, hN, hZ⟩
  have hiX5 : ∀ w ∈ u_ws RX5 TX5 8, w ∈ wsX5_rowContext := by decide +kernel
  have hl := lv_entry ([.ref hu]) (n := 1) (Nat.le_of_ble_eq_true rfl)
  rw [lg_entry_eq]
  generalize (lg_sl ([.ref hu]) ++ List.replicate (1 - (lg_sl ([.ref hu])).length) Slot.unset).toArray = ls at hl ⊢
  have hl : lv_has ls 1 [(0, .ref hu)] := hl
  refine lv_aload_n hx hb dX5_rowContext_0 rfl (lv_at hl 0 rfl) ?_
  refine va_get (D := (dC, dI)) (ci := 4) (v := .int tp) (C := RX5) (T := TX5) (N := 8) hx hb hts hiX5 hown hK hP 0 rfl rfl 3 (by decide) (hts (.fieldLink RX5 27 "RefineRegions$Surroundings" "template" "I") (by decide +kernel)) (fun _ h9 => h9) rfl dX5_rowContext_1 ?_
  refine lv_if_ne (tgt := 12) hx hb dX5_rowContext_4 (by decide) (fun c_4 => ?_) (fun c_4 => ?_)
  · refine lv_bipush (v := 8) hx hb dX5_rowContext_12 (by decide) ?_
    exact W.iret (v := 8) hx hb hr (fun t ht hW => ⟨8, rfl, (if_neg c_4).symm, ht⟩) hS.2.2 dX5_rowContext_14
  · refine lv_bipush (v := 16) hx hb dX5_rowContext_7 (by decide) ?_
    refine lv_goto (tgt := 14) hx hb dX5_rowContext_9 (by decide) ?_
    exact W.iret (v := 16) hx hb hr (fun t ht hW => ⟨16, rfl, (if_pos c_4).symm, ht⟩) hS.2.2 dX5_rowContext_14

set_option maxHeartbeats 4000000 in
set_option maxRecDepth 100000 in
/-- referred(x, y) -/
theorem c_X5_referred (l : Launch) (dC : Nat → ClassId) (dI : Nat → Nat → Nat) (cI cZ cJ : ClassId) (hu : Nat) (hr0 : Nat) (hra : Nat) (rwd : Nat) (rht : Nat) (rg : Nat → Int32) (dx : Int32) (dy : Int32) (tp : Int32) (p0 : Int32) (q0 : Int32) (p1 : Int32) (q1 : Int32) (x : Int32) (y : Int32) (hrw : rwd ≤ 60) (hrh : rht ≤ 60) : Met l yX5_referred wsX5_referred ({ frames := 1, cells := 0, slots := 0, locals := 22 }) (hw_Ro (dC, dI) vwCl (ty3 cI cZ cJ) [(hu, .inr (4, [.ref hr0, .int dx, .int dy, .int tp, .int p0, .int q0, .int p1, .int q1])), (hr0, .inr (0, [.int (nI 60), .ref hra, .int (nI rwd), .int (nI rht)])), (hra, .inl (cI, 60 * 60, .inl rg))] [.ref hu, .int x, .int y]) (vp_Si (fun r => r = sp_rf (nI rwd) (nI rht) rg dx dy x y)) 0 0 (fun _ => False) := by
  refine Met.ofW (cc := cX5_referred) (maxL := 3) (ret := (some .int)) (by decide) rfl ?_
  intro pg ev s m args below meth cd s₁ B hml hv
  obtain ⟨rfl, hP, hK, hN, hZ⟩ := hv
  have hx := B.exec
  have hb := B.bytes
  have hr := B.returns
  have hts := atoms_spec (ws := wsX5_referred) B.pre
  have hown : s.vm.findClass RX5 = some m.cls := findClass_of_methodNamed B.named
  have hlocks := B.notSynchronized
  have hS : va_S (fun _ => False) s.heap s.heap [] := va_S.rf
  have hk : hw_K (dC, dI) vwCl (ty3 cI cZ cJ) (fun _ => False) s := ⟨hK, hN, hZ⟩
  have hiX5 : ∀ w ∈ u_ws RX5 TX5 8, w ∈ wsX5_referred := by decide +kernel
  have hl := lv_entry ([.ref hu, .int x, .int y]) (n := 3) (Nat.le_of_ble_eq_true rfl)
  rw [lg_entry_eq]
  generalize (lg_sl ([.ref hu, .int x, .int y]) ++ List.replicate (3 - (lg_sl ([.ref hu, .int x, .int y])).length) Slot.unset).toArray = ls at hl ⊢
  have hl : lv_has ls 3 [(0, .ref hu), (1, .int x), (2, .int y)] := hl
  refine lv_aload_n hx hb dX5_referred_0 rfl (lv_at hl 0 rfl) ?_
  refine va_get (D := (dC, dI)) (ci := 4) (v := .ref hr0) (C := RX5) (T := TX5) (N := 8) hx hb hts hiX5 hown hK hP 0 rfl rfl 0 (by decide) (hts (.fieldLink RX5 14 "RefineRegions$Surroundings" "reference" "LRefineRegions$Bitmap;") (by decide +kernel)) (fun _ h9 => h9) rfl dX5_referred_1 ?_
  refine lv_iload_n hx hb dX5_referred_4 rfl (lv_at hl 1 rfl) ?_
  refine lv_aload_n hx hb dX5_referred_5 rfl (lv_at hl 0 rfl) ?_
  refine va_get (D := (dC, dI)) (ci := 4) (v := .int dx) (C := RX5) (T := TX5) (N := 8) hx hb hts hiX5 hown hK hP 0 rfl rfl 1 (by decide) (hts (.fieldLink RX5 20 "RefineRegions$Surroundings" "dx" "I") (by decide +kernel)) (fun _ h9 => h9) rfl dX5_referred_6 ?_
  refine lv_isub hx hb dX5_referred_9 ?_
  refine lv_iload_n hx hb dX5_referred_10 rfl (lv_at hl 2 rfl) ?_
  refine lv_aload_n hx hb dX5_referred_11 rfl (lv_at hl 0 rfl) ?_
  refine va_get (D := (dC, dI)) (ci := 4) (v := .int dy) (C := RX5) (T := TX5) (N := 8) hx hb hts hiX5 hown hK hP 0 rfl rfl 2 (by decide) (hts (.fieldLink RX5 24 "RefineRegions$Surroundings" "dy" "I") (by decide +kernel)) (fun _ h9 => h9) rfl dX5_referred_12 ?_
  refine lv_isub hx hb dX5_referred_15 ?_
  refine hw_callSe (va_runVN (As := [.int (x - dx), .int (y - dy)]) (rest := []) ⟨hx, hb, hml, hown, hts⟩ (c_X1_pixel l dC dI cI cZ cJ hr0 hra 60 rwd rht rg (x - dx) (y - dy) (by decide) (hrw) (hrh)) ⟨va_cnB 2 hts gX5_referred_X1_pixel_n49 rfl rfl rfl (nw_X5_49 hN) (hts (.initialized RX1) (by decide +kernel)) (by decide +kernel) ⟨Nat.le_of_ble_eq_true rfl, Nat.le_of_ble_eq_true rfl⟩, hts (.instanceMethod yX1_pixel) (by decide +kernel), hts (.selects RX1 yX1_pixel yX1_pixel) (by decide +kernel)⟩ (hw_roV hP hS hk [1, 2] rfl (ci := 0) (q0 := 1) rfl rfl) rfl rfl hl.1 rfl (lv_room (Nat.le_of_ble_eq_true rfl)) dX5_referred_16 ⟨Nat.le_of_ble_eq_true rfl, Nat.le_of_ble_eq_true rfl⟩) ?_
  exact W.iret (v := sp_px (nI 60) (nI rwd) (nI rht) rg (x - dx) (y - dy)) hx hb hr (fun t ht hW => ⟨sp_px (nI 60) (nI rwd) (nI rht) rg (x - dx) (y - dy), rfl, rfl, ht⟩) hS.2.2 dX5_referred_19

set_option maxHeartbeats 4000000 in
set_option maxRecDepth 100000 in
/-- agreedNine(x, y) -/
theorem c_X5_agreedNine (l : Launch) (dC : Nat → ClassId) (dI : Nat → Nat → Nat) (cI cZ cJ : ClassId) (hu : Nat) (hr0 : Nat) (hra : Nat) (rwd : Nat) (rht : Nat) (rg : Nat → Int32) (dx : Int32) (dy : Int32) (tp : Int32) (p0 : Int32) (q0 : Int32) (p1 : Int32) (q1 : Int32) (x : Int32) (y : Int32) (hrw : rwd ≤ 60) (hrh : rht ≤ 60) : Met l yX5_agreedNine wsX5_agreedNine ({ frames := 2, cells := 0, slots := 0, locals := 44 }) (hw_Ro (dC, dI) vwCl (ty3 cI cZ cJ) [(hu, .inr (4, [.ref hr0, .int dx, .int dy, .int tp, .int p0, .int q0, .int p1, .int q1])), (hr0, .inr (0, [.int (nI 60), .ref hra, .int (nI rwd), .int (nI rht)])), (hra, .inl (cI, 60 * 60, .inl rg))] [.ref hu, .int x, .int y]) (vp_Si (fun r => r = sp_nine (sp_rf (nI rwd) (nI rht) rg dx dy) x y)) 0 0 (fun _ => False) := by
  refine Met.ofW (cc := cX5_agreedNine) (maxL := 6) (ret := (some .int)) (by decide) rfl ?_
  intro pg ev s m args below meth cd s₁ B hml hv
  obtain ⟨rfl, hP, hK, hN, hZ⟩ := hv
  have hx := B.exec
  have hb := B.bytes
  have hr := B.returns
  have hts := atoms_spec (ws := wsX5_agreedNine) B.pre
  have hown : s.vm.findClass RX5 = some m.cls := findClass_of_methodNamed B.named
  have hlocks := B.notSynchronized
  have hS : va_S (fun _ => False) s.heap s.heap [] := va_S.rf
  have hk : hw_K (dC, dI) vwCl (ty3 cI cZ cJ) (fun _ => False) s := ⟨hK, hN, hZ⟩
  have hl := lv_entry ([.ref hu, .int x, .int y]) (n := 6) (Nat.le_of_ble_eq_true rfl)
  rw [lg_entry_eq]
  generalize (lg_sl ([.ref hu, .int x, .int y]) ++ List.replicate (6 - (lg_sl ([.ref hu, .int x, .int y])).length) Slot.unset).toArray = ls at hl ⊢
  have hl : lv_has ls 6 [(0, .ref hu), (1, .int x), (2, .int y)] := hl
  refine lv_aload_n hx hb dX5_agreedNine_0 rfl (lv_at hl 0 rfl) ?_
  refine lv_iload_n hx hb dX5_agreedNine_1 rfl (lv_at hl 1 rfl) ?_
  refine lv_iload_n hx hb dX5_agreedNine_2 rfl (lv_at hl 2 rfl) ?_
  refine hw_callSe (va_runV (As := [.int x, .int y]) (rest := []) ⟨hx, hb, hml, hown, hts⟩ (c_X5_referred l dC dI cI cZ cJ hu hr0 hra rwd rht rg dx dy tp p0 q0 p1 q1 x y (hrw) (hrh)) (cwV 2 hts gX5_agreedNine_X5_referred rfl rfl rfl (by decide +kernel) ⟨Nat.le_of_ble_eq_true rfl, Nat.le_of_ble_eq_true rfl⟩) (hw_roV hP hS hk [0, 1, 2] rfl (ci := 4) (q0 := 0) rfl rfl) rfl rfl hl.1 rfl (lv_room (Nat.le_of_ble_eq_true rfl)) dX5_agreedNine_3 ⟨Nat.le_of_ble_eq_true rfl, Nat.le_of_ble_eq_true rfl⟩) ?_
  refine lv_istore_n (lv' := [(3, .int (sp_rf (nI rwd) (nI rht) rg dx dy x y)), (0, .ref hu), (1, .int x), (2, .int y)]) hx hb dX5_agreedNine_6 rfl hl (by decide) rfl (fun ls hl => ?_)
  refine lv_iconst (v := (-1)) hx hb dX5_agreedNine_7 (by decide) ?_
  refine lv_istore (lv' := [(4, .int (-1)), (3, .int (sp_rf (nI rwd) (nI rht) rg dx dy x y)), (0, .ref hu), (1, .int x), (2, .int y)]) hx hb dX5_agreedNine_8 hl (by decide) rfl (fun ls hl => ?_)
  refine lv_iload hx hb dX5_agreedNine_10 (lv_at hl 0 rfl) ?_
  refine lv_iconst (v := 1) hx hb dX5_agreedNine_12 (by decide) ?_
  refine lv_icmp_gt (tgt := 55) hx hb dX5_agreedNine_13 (by decide) (fun c9 => absurd c9 (by decide)) (fun _ => ?_)
  refine lv_iconst (v := (-1)) hx hb dX5_agreedNine_16 (by decide) ?_
  refine lv_istore (lv' := [(5, .int (-1)), (4, .int (-1)), (3, .int (sp_rf (nI rwd) (nI rht) rg dx dy x y)), (0, .ref hu), (1, .int x), (2, .int y)]) hx hb dX5_agreedNine_17 hl (by decide) rfl (fun ls hl => ?_)
  refine lv_iload hx hb dX5_agreedNine_19 (lv_at hl 0 rfl) ?_
  refine lv_iconst (v := 1) hx hb dX5_agreedNine_21 (by decide) ?_
  refine lv_icmp_gt (tgt := 49) hx hb dX5_agreedNine_22 (by decide) (fun c9 => absurd c9 (by decide)) (fun _ => ?_)
  refine lv_aload_n hx hb dX5_agreedNine_25 rfl (lv_at hl 3 rfl) ?_
  refine lv_iload_n hx hb dX5_agreedNine_26 rfl (lv_at hl 4 rfl) ?_
  refine lv_iload hx hb dX5_agreedNine_27 (lv_at hl 0 rfl) ?_
  refine lv_iadd hx hb dX5_agreedNine_29 ?_
  refine lv_iload_n hx hb dX5_agreedNine_30 rfl (lv_at hl 5 rfl) ?_
  refine lv_iload hx hb dX5_agreedNine_31 (lv_at hl 1 rfl) ?_
  refine lv_iadd hx hb dX5_agreedNine_33 ?_
  refine hw_callSe (va_runV (As := [.int (x + (-1)), .int (y + (-1))]) (rest := []) ⟨hx, hb, hml, hown, hts⟩ (c_X5_referred l dC dI cI cZ cJ hu hr0 hra rwd rht rg dx dy tp p0 q0 p1 q1 (x + (-1)) (y + (-1)) (hrw) (hrh)) (cwV 2 hts gX5_agreedNine_X5_referred rfl rfl rfl (by decide +kernel) ⟨Nat.le_of_ble_eq_true rfl, Nat.le_of_ble_eq_true rfl⟩) (hw_roV hP hS hk [0, 1, 2] rfl (ci := 4) (q0 := 0) rfl rfl) rfl rfl hl.1 rfl (lv_room (Nat.le_of_ble_eq_true rfl)) dX5_agreedNine_34 ⟨Nat.le_of_ble_eq_true rfl, Nat.le_of_ble_eq_true rfl⟩) ?_
  refine lv_iload_n hx hb dX5_agreedNine_37 rfl (lv_at hl 2 rfl) ?_
  refine lv_icmp_eq (tgt := 43) hx hb dX5_agreedNine_38 (by decide) (fun c_38 => ?_) (fun c_38 => ?_)
  · refine lv_iinc (v := 0) (lv' := [(5, .int 0), (4, .int (-1)), (3, .int (sp_rf (nI rwd) (nI rht) rg dx dy x y)), (0, .ref hu), (1, .int x), (2, .int y)]) hx hb dX5_agreedNine_43 hl (k := 0) rfl (by decide) (by decide) rfl (fun ls hl => ?_)
    refine lv_goto (tgt := 19) hx hb dX5_agreedNine_46 (by decide) ?_
    refine lv_iload hx hb dX5_agreedNine_19 (lv_at hl 0 rfl) ?_
    refine lv_iconst (v := 1) hx hb dX5_agreedNine_21 (by decide) ?_
    refine lv_icmp_gt (tgt := 49) hx hb dX5_agreedNine_22 (by decide) (fun c9 => absurd c9 (by decide)) (fun _ => ?_)
    refine lv_aload_n hx hb dX5_agreedNine_25 rfl (lv_at hl 3 rfl) ?_
    refine lv_iload_n hx hb dX5_agreedNine_26 rfl (lv_at hl 4 rfl) ?_
    refine lv_iload hx hb dX5_agreedNine_27 (lv_at hl 0 rfl) ?_
    refine lv_iadd hx hb dX5_agreedNine_29 ?_
    refine lv_iload_n hx hb dX5_agreedNine_30 rfl (lv_at hl 5 rfl) ?_
    refine lv_iload hx hb dX5_agreedNine_31 (lv_at hl 1 rfl) ?_
    refine lv_iadd hx hb dX5_agreedNine_33 ?_
    refine hw_callSe (va_runV (As := [.int (x + 0), .int (y + (-1))]) (rest := []) ⟨hx, hb, hml, hown, hts⟩ (c_X5_referred l dC dI cI cZ cJ hu hr0 hra rwd rht rg dx dy tp p0 q0 p1 q1 (x + 0) (y + (-1)) (hrw) (hrh)) (cwV 2 hts gX5_agreedNine_X5_referred rfl rfl rfl (by decide +kernel) ⟨Nat.le_of_ble_eq_true rfl, Nat.le_of_ble_eq_true rfl⟩) (hw_roV hP hS hk [0, 1, 2] rfl (ci := 4) (q0 := 0) rfl rfl) rfl rfl hl.1 rfl (lv_room (Nat.le_of_ble_eq_true rfl)) dX5_agreedNine_34 ⟨Nat.le_of_ble_eq_true rfl, Nat.le_of_ble_eq_true rfl⟩) ?_
    refine lv_iload_n hx hb dX5_agreedNine_37 rfl (lv_at hl 2 rfl) ?_
    refine lv_icmp_eq (tgt := 43) hx hb dX5_agreedNine_38 (by decide) (fun c_38_1 => ?_) (fun c_38_1 => ?_)
    · refine lv_iinc (v := 1) (lv' := [(5, .int 1), (4, .int (-1)), (3, .int (sp_rf (nI rwd) (nI rht) rg dx dy x y)), (0, .ref hu), (1, .int x), (2, .int y)]) hx hb dX5_agreedNine_43 hl (k := 0) rfl (by decide) (by decide) rfl (fun ls hl => ?_)
      refine lv_goto (tgt := 19) hx hb dX5_agreedNine_46 (by decide) ?_
      refine lv_iload hx hb dX5_agreedNine_19 (lv_at hl 0 rfl) ?_
      refine lv_iconst (v := 1) hx hb dX5_agreedNine_21 (by decide) ?_
      refine lv_icmp_gt (tgt := 49) hx hb dX5_agreedNine_22 (by decide) (fun c9 => absurd c9 (by decide)) (fun _ => ?_)
      refine lv_aload_n hx hb dX5_agreedNine_25 rfl (lv_at hl 3 rfl) ?_
      refine lv_iload_n hx hb dX5_agreedNine_26 rfl (lv_at hl 4 rfl) ?_
      refine lv_iload hx hb dX5_agreedNine_27 (lv_at hl 0 rfl) ?_
      refine lv_iadd hx hb dX5_agreedNine_29 ?_
      refine lv_iload_n hx hb dX5_agreedNine_30 rfl (lv_at hl 5 rfl) ?_
      refine lv_iload hx hb dX5_agreedNine_31 (lv_at hl 1 rfl) ?_
      refine lv_iadd hx hb dX5_agreedNine_33 ?_
      refine hw_callSe (va_runV (As := [.int (x + 1), .int (y + (-1))]) (rest := []) ⟨hx, hb, hml, hown, hts⟩ (c_X5_referred l dC dI cI cZ cJ hu hr0 hra rwd rht rg dx dy tp p0 q0 p1 q1 (x + 1) (y + (-1)) (hrw) (hrh)) (cwV 2 hts gX5_agreedNine_X5_referred rfl rfl rfl (by decide +kernel) ⟨Nat.le_of_ble_eq_true rfl, Nat.le_of_ble_eq_true rfl⟩) (hw_roV hP hS hk [0, 1, 2] rfl (ci := 4) (q0 := 0) rfl rfl) rfl rfl hl.1 rfl (lv_room (Nat.le_of_ble_eq_true rfl)) dX5_agreedNine_34 ⟨Nat.le_of_ble_eq_true rfl, Nat.le_of_ble_eq_true rfl⟩) ?_
      refine lv_iload_n hx hb dX5_agreedNine_37 rfl (lv_at hl 2 rfl) ?_
      refine lv_icmp_eq (tgt := 43) hx hb dX5_agreedNine_38 (by decide) (fun c_38_2 => ?_) (fun c_38_2 => ?_)
      · refine lv_iinc (v := 2) (lv' := [(5, .int 2), (4, .int (-1)), (3, .int (sp_rf (nI rwd) (nI rht) rg dx dy x y)), (0, .ref hu), (1, .int x), (2, .int y)]) hx hb dX5_agreedNine_43 hl (k := 0) rfl (by decide) (by decide) rfl (fun ls hl => ?_)
        refine lv_goto (tgt := 19) hx hb dX5_agreedNine_46 (by decide) ?_
        refine lv_iload hx hb dX5_agreedNine_19 (lv_at hl 0 rfl) ?_
        refine lv_iconst (v := 1) hx hb dX5_agreedNine_21 (by decide) ?_
        refine lv_icmp_gt (tgt := 49) hx hb dX5_agreedNine_22 (by decide) (fun _ => ?_) (fun c9 => absurd (by decide) c9)
        refine lv_iinc (v := 0) (lv' := [(4, .int 0), (5, .int 2), (3, .int (sp_rf (nI rwd) (nI rht) rg dx dy x y)), (0, .ref hu), (1, .int x), (2, .int y)]) hx hb dX5_agreedNine_49 hl (k := 1) rfl (by decide) (by decide) rfl (fun ls hl => ?_)
        refine lv_goto (tgt := 10) hx hb dX5_agreedNine_52 (by decide) ?_
        refine lv_iload hx hb dX5_agreedNine_10 (lv_at hl 0 rfl) ?_
        refine lv_iconst (v := 1) hx hb dX5_agreedNine_12 (by decide) ?_
        refine lv_icmp_gt (tgt := 55) hx hb dX5_agreedNine_13 (by decide) (fun c9 => absurd c9 (by decide)) (fun _ => ?_)
        refine lv_iconst (v := (-1)) hx hb dX5_agreedNine_16 (by decide) ?_
        refine lv_istore (lv' := [(5, .int (-1)), (4, .int 0), (3, .int (sp_rf (nI rwd) (nI rht) rg dx dy x y)), (0, .ref hu), (1, .int x), (2, .int y)]) hx hb dX5_agreedNine_17 hl (by decide) rfl (fun ls hl => ?_)
        refine lv_iload hx hb dX5_agreedNine_19 (lv_at hl 0 rfl) ?_
        refine lv_iconst (v := 1) hx hb dX5_agreedNine_21 (by decide) ?_
        refine lv_icmp_gt (tgt := 49) hx hb dX5_agreedNine_22 (by decide) (fun c9 => absurd c9 (by decide)) (fun _ => ?_)
        refine lv_aload_n hx hb dX5_agreedNine_25 rfl (lv_at hl 3 rfl) ?_
        refine lv_iload_n hx hb dX5_agreedNine_26 rfl (lv_at hl 4 rfl) ?_
        refine lv_iload hx hb dX5_agreedNine_27 (lv_at hl 0 rfl) ?_
        refine lv_iadd hx hb dX5_agreedNine_29 ?_
        refine lv_iload_n hx hb dX5_agreedNine_30 rfl (lv_at hl 5 rfl) ?_
        refine lv_iload hx hb dX5_agreedNine_31 (lv_at hl 1 rfl) ?_
        refine lv_iadd hx hb dX5_agreedNine_33 ?_
        refine hw_callSe (va_runV (As := [.int (x + (-1)), .int (y + 0)]) (rest := []) ⟨hx, hb, hml, hown, hts⟩ (c_X5_referred l dC dI cI cZ cJ hu hr0 hra rwd rht rg dx dy tp p0 q0 p1 q1 (x + (-1)) (y + 0) (hrw) (hrh)) (cwV 2 hts gX5_agreedNine_X5_referred rfl rfl rfl (by decide +kernel) ⟨Nat.le_of_ble_eq_true rfl, Nat.le_of_ble_eq_true rfl⟩) (hw_roV hP hS hk [0, 1, 2] rfl (ci := 4) (q0 := 0) rfl rfl) rfl rfl hl.1 rfl (lv_room (Nat.le_of_ble_eq_true rfl)) dX5_agreedNine_34 ⟨Nat.le_of_ble_eq_true rfl, Nat.le_of_ble_eq_true rfl⟩) ?_
        refine lv_iload_n hx hb dX5_agreedNine_37 rfl (lv_at hl 2 rfl) ?_
        refine lv_icmp_eq (tgt := 43) hx hb dX5_agreedNine_38 (by decide) (fun c_38_3 => ?_) (fun c_38_3 => ?_)
        · refine lv_iinc (v := 0) (lv' := [(5, .int 0), (4, .int 0), (3, .int (sp_rf (nI rwd) (nI rht) rg dx dy x y)), (0, .ref hu), (1, .int x), (2, .int y)]) hx hb dX5_agreedNine_43 hl (k := 0) rfl (by decide) (by decide) rfl (fun ls hl => ?_)
          refine lv_goto (tgt := 19) hx hb dX5_agreedNine_46 (by decide) ?_
          refine lv_iload hx hb dX5_agreedNine_19 (lv_at hl 0 rfl) ?_
          refine lv_iconst (v := 1) hx hb dX5_agreedNine_21 (by decide) ?_
          refine lv_icmp_gt (tgt := 49) hx hb dX5_agreedNine_22 (by decide) (fun c9 => absurd c9 (by decide)) (fun _ => ?_)
          refine lv_aload_n hx hb dX5_agreedNine_25 rfl (lv_at hl 3 rfl) ?_
          refine lv_iload_n hx hb dX5_agreedNine_26 rfl (lv_at hl 4 rfl) ?_
          refine lv_iload hx hb dX5_agreedNine_27 (lv_at hl 0 rfl) ?_
          refine lv_iadd hx hb dX5_agreedNine_29 ?_
          refine lv_iload_n hx hb dX5_agreedNine_30 rfl (lv_at hl 5 rfl) ?_
          refine lv_iload hx hb dX5_agreedNine_31 (lv_at hl 1 rfl) ?_
          refine lv_iadd hx hb dX5_agreedNine_33 ?_
          refine hw_callSe (va_runV (As := [.int (x + 0), .int (y + 0)]) (rest := []) ⟨hx, hb, hml, hown, hts⟩ (c_X5_referred l dC dI cI cZ cJ hu hr0 hra rwd rht rg dx dy tp p0 q0 p1 q1 (x + 0) (y + 0) (hrw) (hrh)) (cwV 2 hts gX5_agreedNine_X5_referred rfl rfl rfl (by decide +kernel) ⟨Nat.le_of_ble_eq_true rfl, Nat.le_of_ble_eq_true rfl⟩) (hw_roV hP hS hk [0, 1, 2] rfl (ci := 4) (q0 := 0) rfl rfl) rfl rfl hl.1 rfl (lv_room (Nat.le_of_ble_eq_true rfl)) dX5_agreedNine_34 ⟨Nat.le_of_ble_eq_true rfl, Nat.le_of_ble_eq_true rfl⟩) ?_
          refine lv_iload_n hx hb dX5_agreedNine_37 rfl (lv_at hl 2 rfl) ?_
          refine lv_icmp_eq (tgt := 43) hx hb dX5_agreedNine_38 (by decide) (fun c_38_4 => ?_) (fun c_38_4 => ?_)
          · refine lv_iinc (v := 1) (lv' := [(5, .int 1), (4, .int 0), (3, .int (sp_rf (nI rwd) (nI rht) rg dx dy x y)), (0, .ref hu), (1, .int x), (2, .int y)]) hx hb dX5_agreedNine_43 hl (k := 0) rfl (by decide) (by decide) rfl (fun ls hl => ?_)
            refine lv_goto (tgt := 19) hx hb dX5_agreedNine_46 (by decide) ?_
            refine lv_iload hx hb dX5_agreedNine_19 (lv_at hl 0 rfl) ?_
            refine lv_iconst (v := 1) hx hb dX5_agreedNine_21 (by decide) ?_
            refine lv_icmp_gt (tgt := 49) hx hb dX5_agreedNine_22 (by decide) (fun c9 => absurd c9 (by decide)) (fun _ => ?_)
            refine lv_aload_n hx hb dX5_agreedNine_25 rfl (lv_at hl 3 rfl) ?_
            refine lv_iload_n hx hb dX5_agreedNine_26 rfl (lv_at hl 4 rfl) ?_
            refine lv_iload hx hb dX5_agreedNine_27 (lv_at hl 0 rfl) ?_
            refine lv_iadd hx hb dX5_agreedNine_29 ?_
            refine lv_iload_n hx hb dX5_agreedNine_30 rfl (lv_at hl 5 rfl) ?_
            refine lv_iload hx hb dX5_agreedNine_31 (lv_at hl 1 rfl) ?_
            refine lv_iadd hx hb dX5_agreedNine_33 ?_
            refine hw_callSe (va_runV (As := [.int (x + 1), .int (y + 0)]) (rest := []) ⟨hx, hb, hml, hown, hts⟩ (c_X5_referred l dC dI cI cZ cJ hu hr0 hra rwd rht rg dx dy tp p0 q0 p1 q1 (x + 1) (y + 0) (hrw) (hrh)) (cwV 2 hts gX5_agreedNine_X5_referred rfl rfl rfl (by decide +kernel) ⟨Nat.le_of_ble_eq_true rfl, Nat.le_of_ble_eq_true rfl⟩) (hw_roV hP hS hk [0, 1, 2] rfl (ci := 4) (q0 := 0) rfl rfl) rfl rfl hl.1 rfl (lv_room (Nat.le_of_ble_eq_true rfl)) dX5_agreedNine_34 ⟨Nat.le_of_ble_eq_true rfl, Nat.le_of_ble_eq_true rfl⟩) ?_
            refine lv_iload_n hx hb dX5_agreedNine_37 rfl (lv_at hl 2 rfl) ?_
            refine lv_icmp_eq (tgt := 43) hx hb dX5_agreedNine_38 (by decide) (fun c_38_5 => ?_) (fun c_38_5 => ?_)
            · refine lv_iinc (v := 2) (lv' := [(5, .int 2), (4, .int 0), (3, .int (sp_rf (nI rwd) (nI rht) rg dx dy x y)), (0, .ref hu), (1, .int x), (2, .int y)]) hx hb dX5_agreedNine_43 hl (k := 0) rfl (by decide) (by decide) rfl (fun ls hl => ?_)
              refine lv_goto (tgt := 19) hx hb dX5_agreedNine_46 (by decide) ?_
              refine lv_iload hx hb dX5_agreedNine_19 (lv_at hl 0 rfl) ?_
              refine lv_iconst (v := 1) hx hb dX5_agreedNine_21 (by decide) ?_
              refine lv_icmp_gt (tgt := 49) hx hb dX5_agreedNine_22 (by decide) (fun _ => ?_) (fun c9 => absurd (by decide) c9)
              refine lv_iinc (v := 1) (lv' := [(4, .int 1), (5, .int 2), (3, .int (sp_rf (nI rwd) (nI rht) rg dx dy x y)), (0, .ref hu), (1, .int x), (2, .int y)]) hx hb dX5_agreedNine_49 hl (k := 1) rfl (by decide) (by decide) rfl (fun ls hl => ?_)
              refine lv_goto (tgt := 10) hx hb dX5_agreedNine_52 (by decide) ?_
              refine lv_iload hx hb dX5_agreedNine_10 (lv_at hl 0 rfl) ?_
              refine lv_iconst (v := 1) hx hb dX5_agreedNine_12 (by decide) ?_
              refine lv_icmp_gt (tgt := 55) hx hb dX5_agreedNine_13 (by decide) (fun c9 => absurd c9 (by decide)) (fun _ => ?_)
              refine lv_iconst (v := (-1)) hx hb dX5_agreedNine_16 (by decide) ?_
              refine lv_istore (lv' := [(5, .int (-1)), (4, .int 1), (3, .int (sp_rf (nI rwd) (nI rht) rg dx dy x y)), (0, .ref hu), (1, .int x), (2, .int y)]) hx hb dX5_agreedNine_17 hl (by decide) rfl (fun ls hl => ?_)
              refine lv_iload hx hb dX5_agreedNine_19 (lv_at hl 0 rfl) ?_
              refine lv_iconst (v := 1) hx hb dX5_agreedNine_21 (by decide) ?_
              refine lv_icmp_gt (tgt := 49) hx hb dX5_agreedNine_22 (by decide) (fun c9 => absurd c9 (by decide)) (fun _ => ?_)
              refine lv_aload_n hx hb dX5_agreedNine_25 rfl (lv_at hl 3 rfl) ?_
              refine lv_iload_n hx hb dX5_agreedNine_26 rfl (lv_at hl 4 rfl) ?_
              refine lv_iload hx hb dX5_agreedNine_27 (lv_at hl 0 rfl) ?_
              refine lv_iadd hx hb dX5_agreedNine_29 ?_
              refine lv_iload_n hx hb dX5_agreedNine_30 rfl (lv_at hl 5 rfl) ?_
              refine lv_iload hx hb dX5_agreedNine_31 (lv_at hl 1 rfl) ?_
              refine lv_iadd hx hb dX5_agreedNine_33 ?_
              refine hw_callSe (va_runV (As := [.int (x + (-1)), .int (y + 1)]) (rest := []) ⟨hx, hb, hml, hown, hts⟩ (c_X5_referred l dC dI cI cZ cJ hu hr0 hra rwd rht rg dx dy tp p0 q0 p1 q1 (x + (-1)) (y + 1) (hrw) (hrh)) (cwV 2 hts gX5_agreedNine_X5_referred rfl rfl rfl (by decide +kernel) ⟨Nat.le_of_ble_eq_true rfl, Nat.le_of_ble_eq_true rfl⟩) (hw_roV hP hS hk [0, 1, 2] rfl (ci := 4) (q0 := 0) rfl rfl) rfl rfl hl.1 rfl (lv_room (Nat.le_of_ble_eq_true rfl)) dX5_agreedNine_34 ⟨Nat.le_of_ble_eq_true rfl, Nat.le_of_ble_eq_true rfl⟩) ?_
              refine lv_iload_n hx hb dX5_agreedNine_37 rfl (lv_at hl 2 rfl) ?_
              refine lv_icmp_eq (tgt := 43) hx hb dX5_agreedNine_38 (by decide) (fun c_38_6 => ?_) (fun c_38_6 => ?_)
              · refine lv_iinc (v := 0) (lv' := [(5, .int 0), (4, .int 1), (3, .int (sp_rf (nI rwd) (nI rht) rg dx dy x y)), (0, .ref hu), (1, .int x), (2, .int y)]) hx hb dX5_agreedNine_43 hl (k := 0) rfl (by decide) (by decide) rfl (fun ls hl => ?_)
                refine lv_goto (tgt := 19) hx hb dX5_agreedNine_46 (by decide) ?_
                refine lv_iload hx hb dX5_agreedNine_19 (lv_at hl 0 rfl) ?_
                refine lv_iconst (v := 1) hx hb dX5_agreedNine_21 (by decide) ?_
                refine lv_icmp_gt (tgt := 49) hx hb dX5_agreedNine_22 (by decide) (fun c9 => absurd c9 (by decide)) (fun _ => ?_)
                refine lv_aload_n hx hb dX5_agreedNine_25 rfl (lv_at hl 3 rfl) ?_
                refine lv_iload_n hx hb dX5_agreedNine_26 rfl (lv_at hl 4 rfl) ?_
                refine lv_iload hx hb dX5_agreedNine_27 (lv_at hl 0 rfl) ?_
                refine lv_iadd hx hb dX5_agreedNine_29 ?_
                refine lv_iload_n hx hb dX5_agreedNine_30 rfl (lv_at hl 5 rfl) ?_
                refine lv_iload hx hb dX5_agreedNine_31 (lv_at hl 1 rfl) ?_
                refine lv_iadd hx hb dX5_agreedNine_33 ?_
                refine hw_callSe (va_runV (As := [.int (x + 0), .int (y + 1)]) (rest := []) ⟨hx, hb, hml, hown, hts⟩ (c_X5_referred l dC dI cI cZ cJ hu hr0 hra rwd rht rg dx dy tp p0 q0 p1 q1 (x + 0) (y + 1) (hrw) (hrh)) (cwV 2 hts gX5_agreedNine_X5_referred rfl rfl rfl (by decide +kernel) ⟨Nat.le_of_ble_eq_true rfl, Nat.le_of_ble_eq_true rfl⟩) (hw_roV hP hS hk [0, 1, 2] rfl (ci := 4) (q0 := 0) rfl rfl) rfl rfl hl.1 rfl (lv_room (Nat.le_of_ble_eq_true rfl)) dX5_agreedNine_34 ⟨Nat.le_of_ble_eq_true rfl, Nat.le_of_ble_eq_true rfl⟩) ?_
                refine lv_iload_n hx hb dX5_agreedNine_37 rfl (lv_at hl 2 rfl) ?_
                refine lv_icmp_eq (tgt := 43) hx hb dX5_agreedNine_38 (by decide) (fun c_38_7 => ?_) (fun c_38_7 => ?_)
                · refine lv_iinc (v := 1) (lv' := [(5, .int 1), (4, .int 1), (3, .int (sp_rf (nI rwd) (nI rht) rg dx dy x y)), (0, .ref hu), (1, .int x), (2, .int y)]) hx hb dX5_agreedNine_43 hl (k := 0) rfl (by decide) (by decide) rfl (fun ls hl => ?_)
                  refine lv_goto (tgt := 19) hx hb dX5_agreedNine_46 (by decide) ?_
                  refine lv_iload hx hb dX5_agreedNine_19 (lv_at hl 0 rfl) ?_
                  refine lv_iconst (v := 1) hx hb dX5_agreedNine_21 (by decide) ?_
                  refine lv_icmp_gt (tgt := 49) hx hb dX5_agreedNine_22 (by decide) (fun c9 => absurd c9 (by decide)) (fun _ => ?_)
                  refine lv_aload_n hx hb dX5_agreedNine_25 rfl (lv_at hl 3 rfl) ?_
                  refine lv_iload_n hx hb dX5_agreedNine_26 rfl (lv_at hl 4 rfl) ?_
                  refine lv_iload hx hb dX5_agreedNine_27 (lv_at hl 0 rfl) ?_
                  refine lv_iadd hx hb dX5_agreedNine_29 ?_
                  refine lv_iload_n hx hb dX5_agreedNine_30 rfl (lv_at hl 5 rfl) ?_
                  refine lv_iload hx hb dX5_agreedNine_31 (lv_at hl 1 rfl) ?_
                  refine lv_iadd hx hb dX5_agreedNine_33 ?_
                  refine hw_callSe (va_runV (As := [.int (x + 1), .int (y + 1)]) (rest := []) ⟨hx, hb, hml, hown, hts⟩ (c_X5_referred l dC dI cI cZ cJ hu hr0 hra rwd rht rg dx dy tp p0 q0 p1 q1 (x + 1) (y + 1) (hrw) (hrh)) (cwV 2 hts gX5_agreedNine_X5_referred rfl rfl rfl (by decide +kernel) ⟨Nat.le_of_ble_eq_true rfl, Nat.le_of_ble_eq_true rfl⟩) (hw_roV hP hS hk [0, 1, 2] rfl (ci := 4) (q0 := 0) rfl rfl) rfl rfl hl.1 rfl (lv_room (Nat.le_of_ble_eq_true rfl)) dX5_agreedNine_34 ⟨Nat.le_of_ble_eq_true rfl, Nat.le_of_ble_eq_true rfl⟩) ?_
                  refine lv_iload_n hx hb dX5_agreedNine_37 rfl (lv_at hl 2 rfl) ?_
                  refine lv_icmp_eq (tgt := 43) hx hb dX5_agreedNine_38 (by decide) (fun c_38_8 => ?_) (fun c_38_8 => ?_)
                  · refine lv_iinc (v := 2) (lv' := [(5, .int 2), (4, .int 1), (3, .int (sp_rf (nI rwd) (nI rht) rg dx dy x y)), (0, .ref hu), (1, .int x), (2, .int y)]) hx hb dX5_agreedNine_43 hl (k := 0) rfl (by decide) (by decide) rfl (fun ls hl => ?_)
                    refine lv_goto (tgt := 19) hx hb dX5_agreedNine_46 (by decide) ?_
                    refine lv_iload hx hb dX5_agreedNine_19 (lv_at hl 0 rfl) ?_
                    refine lv_iconst (v := 1) hx hb dX5_agreedNine_21 (by decide) ?_
                    refine lv_icmp_gt (tgt := 49) hx hb dX5_agreedNine_22 (by decide) (fun _ => ?_) (fun c9 => absurd (by decide) c9)
                    refine lv_iinc (v := 2) (lv' := [(4, .int 2), (5, .int 2), (3, .int (sp_rf (nI rwd) (nI rht) rg dx dy x y)), (0, .ref hu), (1, .int x), (2, .int y)]) hx hb dX5_agreedNine_49 hl (k := 1) rfl (by decide) (by decide) rfl (fun ls hl => ?_)
                    refine lv_goto (tgt := 10) hx hb dX5_agreedNine_52 (by decide) ?_
                    refine lv_iload hx hb dX5_agreedNine_10 (lv_at hl 0 rfl) ?_
                    refine lv_iconst (v := 1) hx hb dX5_agreedNine_12 (by decide) ?_
                    refine lv_icmp_gt (tgt := 55) hx hb dX5_agreedNine_13 (by decide) (fun _ => ?_) (fun c9 => absurd (by decide) c9)
                    refine lv_iload_n hx hb dX5_agreedNine_55 rfl (lv_at hl 2 rfl) ?_
                    exact W.iret (v := sp_rf (nI rwd) (nI rht) rg dx dy x y) hx hb hr (fun t ht hW => ⟨sp_rf (nI rwd) (nI rht) rg dx dy x y, rfl, by unfold sp_nine; exact (if_pos ⟨c_38, c_38_1, c_38_2, c_38_3, c_38_4, c_38_5, c_38_6, c_38_7, c_38_8⟩).symm, ht⟩) hS.2.2 dX5_agreedNine_56
                  · refine lv_iconst (v := (-1)) hx hb dX5_agreedNine_41 (by decide) ?_
                    exact W.iret (v := (-1)) hx hb hr (fun t ht hW => ⟨(-1), rfl, by unfold sp_nine; exact (if_neg (fun h9 => c_38_8 h9.2.2.2.2.2.2.2.2)).symm, ht⟩) hS.2.2 dX5_agreedNine_42
                · refine lv_iconst (v := (-1)) hx hb dX5_agreedNine_41 (by decide) ?_
                  exact W.iret (v := (-1)) hx hb hr (fun t ht hW => ⟨(-1), rfl, by unfold sp_nine; exact (if_neg (fun h9 => c_38_7 h9.2.2.2.2.2.2.2.1)).symm, ht⟩) hS.2.2 dX5_agreedNine_42
              · refine lv_iconst (v := (-1)) hx hb dX5_agreedNine_41 (by decide) ?_
                exact W.iret (v := (-1)) hx hb hr (fun t ht hW => ⟨(-1), rfl, by unfold sp_nine; exact (if_neg (fun h9 => c_38_6 h9.2.2.2.2.2.2.1)).symm, ht⟩) hS.2.2 dX5_agreedNine_42
            · refine lv_iconst (v := (-1)) hx hb dX5_agreedNine_41 (by decide) ?_
              exact W.iret (v := (-1)) hx hb hr (fun t ht hW => ⟨(-1), rfl, by unfold sp_nine; exact (if_neg (fun h9 => c_38_5 h9.2.2.2.2.2.1)).symm, ht⟩) hS.2.2 dX5_agreedNine_42
          · refine lv_iconst (v := (-1)) hx hb dX5_agreedNine_41 (by decide) ?_
            exact W.iret (v := (-1)) hx hb hr (fun t ht hW => ⟨(-1), rfl, by unfold sp_nine; exact (if_neg (fun h9 => c_38_4 h9.2.2.2.2.1)).symm, ht⟩) hS.2.2 dX5_agreedNine_42
        · refine lv_iconst (v := (-1)) hx hb dX5_agreedNine_41 (by decide) ?_
          exact W.iret (v := (-1)) hx hb hr (fun t ht hW => ⟨(-1), rfl, by unfold sp_nine; exact (if_neg (fun h9 => c_38_3 h9.2.2.2.1)).symm, ht⟩) hS.2.2 dX5_agreedNine_42
      · refine lv_iconst (v := (-1)) hx hb dX5_agreedNine_41 (by decide) ?_
        exact W.iret (v := (-1)) hx hb hr (fun t ht hW => ⟨(-1), rfl, by unfold sp_nine; exact (if_neg (fun h9 => c_38_2 h9.2.2.1)).symm, ht⟩) hS.2.2 dX5_agreedNine_42
    · refine lv_iconst (v := (-1)) hx hb dX5_agreedNine_41 (by decide) ?_
      exact W.iret (v := (-1)) hx hb hr (fun t ht hW => ⟨(-1), rfl, by unfold sp_nine; exact (if_neg (fun h9 => c_38_1 h9.2.1)).symm, ht⟩) hS.2.2 dX5_agreedNine_42
  · refine lv_iconst (v := (-1)) hx hb dX5_agreedNine_41 (by decide) ?_
    exact W.iret (v := (-1)) hx hb hr (fun t ht hW => ⟨(-1), rfl, by unfold sp_nine; exact (if_neg (fun h9 => c_38 h9.1)).symm, ht⟩) hS.2.2 dX5_agreedNine_42

set_option maxHeartbeats 4000000 in
set_option maxRecDepth 100000 in
/-- restOfTemplate0 -/
theorem c_X5_restOfTemplate0 (l : Launch) (dC : Nat → ClassId) (dI : Nat → Nat → Nat) (cI cZ cJ : ClassId) (hu : Nat) (hr0 : Nat) (hra : Nat) (rwd : Nat) (rht : Nat) (rg : Nat → Int32) (dx : Int32) (dy : Int32) (tp : Int32) (p0 : Int32) (q0 : Int32) (p1 : Int32) (q1 : Int32) (hb0 : Nat) (hba : Nat) (n : Nat) (w : Nat) (h : Nat) (f : Nat → Int32) (x : Int32) (y : Int32) (hrw : rwd ≤ 60) (hrh : rht ≤ 60) (hn : n ≤ 60) (hw : w ≤ n) (hh : h ≤ n) : Met l yX5_restOfTemplate0 wsX5_restOfTemplate0 ({ frames := 2, cells := 0, slots := 0, locals := 44 }) (hw_Ro (dC, dI) vwCl (ty3 cI cZ cJ) [(hu, .inr (4, [.ref hr0, .int dx, .int dy, .int tp, .int p0, .int q0, .int p1, .int q1])), (hr0, .inr (0, [.int (nI 60), .ref hra, .int (nI rwd), .int (nI rht)])), (hra, .inl (cI, 60 * 60, .inl rg)), (hb0, .inr (0, [.int (nI n), .ref hba, .int (nI w), .int (nI h)])), (hba, .inl (cI, n * n, .inl f))] [.ref hu, .ref hb0, .int x, .int y]) (vp_Si (fun r => r = sp_cx0 p0 q0 p1 q1 (sp_px (nI n) (nI w) (nI h) f) (sp_rf (nI rwd) (nI rht) rg dx dy) x y)) 0 0 (fun _ => False) := by
  refine Met.ofW (cc := cX5_restOfTemplate0) (maxL := 4) (ret := (some .int)) (by decide) rfl ?_
  intro pg ev s m args below meth cd s₁ B hml hv
  obtain ⟨rfl, hP, hK, hN, hZ⟩ := hv
  have hx := B.exec
  have hb := B.bytes
  have hr := B.returns
  have hts := atoms_spec (ws := wsX5_restOfTemplate0) B.pre
  have hown : s.vm.findClass RX5 = some m.cls := findClass_of_methodNamed B.named
  have hlocks := B.notSynchronized
  have hS : va_S (fun _ => False) s.heap s.heap [] := va_S.rf
  have hk : hw_K (dC, dI) vwCl (ty3 cI cZ cJ) (fun _ => False) s := ⟨hK, hN, hZ⟩
  have hiX5 : ∀ w ∈ u_ws RX5 TX5 8, w ∈ wsX5_restOfTemplate0 := by decide +kernel
  have hl := lv_entry ([.ref hu, .ref hb0, .int x, .int y]) (n := 4) (Nat.le_of_ble_eq_true rfl)
  rw [lg_entry_eq]
  generalize (lg_sl ([.ref hu, .ref hb0, .int x, .int y]) ++ List.replicate (4 - (lg_sl ([.ref hu, .ref hb0, .int x, .int y])).length) Slot.unset).toArray = ls at hl ⊢
  have hl : lv_has ls 4 [(0, .ref hu), (1, .ref hb0), (2, .int x), (3, .int y)] := hl
  refine lv_aload_n hx hb dX5_restOfTemplate0_0 rfl (lv_at hl 1 rfl) ?_
  refine lv_iload_n hx hb dX5_restOfTemplate0_1 rfl (lv_at hl 2 rfl) ?_
  refine lv_aload_n hx hb dX5_restOfTemplate0_2 rfl (lv_at hl 0 rfl) ?_
  refine va_get (D := (dC, dI)) (ci := 4) (v := .int p0) (C := RX5) (T := TX5) (N := 8) hx hb hts hiX5 hown hK hP 0 rfl rfl 4 (by decide) (hts (.fieldLink RX5 30 "RefineRegions$Surroundings" "p0" "I") (by decide +kernel)) (fun _ h9 => h9) rfl dX5_restOfTemplate0_3 ?_
  refine lv_iadd hx hb dX5_restOfTemplate0_6 ?_
  refine lv_iload_n hx hb dX5_restOfTemplate0_7 rfl (lv_at hl 3 rfl) ?_
  refine lv_aload_n hx hb dX5_restOfTemplate0_8 rfl (lv_at hl 0 rfl) ?_
  refine va_get (D := (dC, dI)) (ci := 4) (v := .int q0) (C := RX5) (T := TX5) (N := 8) hx hb hts hiX5 hown hK hP 0 rfl rfl 5 (by decide) (hts (.fieldLink RX5 33 "RefineRegions$Surroundings" "q0" "I") (by decide +kernel)) (fun _ h9 => h9) rfl dX5_restOfTemplate0_9 ?_
  refine lv_iadd hx hb dX5_restOfTemplate0_12 ?_
  refine hw_callSe (va_runVN (As := [.int (x + p0), .int (y + q0)]) (rest := []) ⟨hx, hb, hml, hown, hts⟩ (c_X1_pixel l dC dI cI cZ cJ hb0 hba n w h f (x + p0) (y + q0) (hn) (hw) (hh)) ⟨va_cnB 2 hts gX5_restOfTemplate0_X1_pixel_n49 rfl rfl rfl (nw_X5_49 hN) (hts (.initialized RX1) (by decide +kernel)) (by decide +kernel) ⟨Nat.le_of_ble_eq_true rfl, Nat.le_of_ble_eq_true rfl⟩, hts (.instanceMethod yX1_pixel) (by decide +kernel), hts (.selects RX1 yX1_pixel yX1_pixel) (by decide +kernel)⟩ (hw_roV hP hS hk [3, 4] rfl (ci := 0) (q0 := 3) rfl rfl) rfl rfl hl.1 rfl (lv_room (Nat.le_of_ble_eq_true rfl)) dX5_restOfTemplate0_13 ⟨Nat.le_of_ble_eq_true rfl, Nat.le_of_ble_eq_true rfl⟩) ?_
  refine lv_iconst (v := 3) hx hb dX5_restOfTemplate0_16 (by decide) ?_
  refine lv_ishl hx hb dX5_restOfTemplate0_17 ?_
  refine lv_aload_n hx hb dX5_restOfTemplate0_18 rfl (lv_at hl 0 rfl) ?_
  refine lv_iload_n hx hb dX5_restOfTemplate0_19 rfl (lv_at hl 2 rfl) ?_
  refine lv_iconst (v := 1) hx hb dX5_restOfTemplate0_20 (by decide) ?_
  refine lv_iadd hx hb dX5_restOfTemplate0_21 ?_
  refine lv_iload_n hx hb dX5_restOfTemplate0_22 rfl (lv_at hl 3 rfl) ?_
  refine lv_iconst (v := 1) hx hb dX5_restOfTemplate0_23 (by decide) ?_
  refine lv_iadd hx hb dX5_restOfTemplate0_24 ?_
  refine hw_callSe (va_runV (As := [.int (x + 1), .int (y + 1)]) (rest := [.int ((sp_px (nI n) (nI w) (nI h) f (x + p0) (y + q0)) <<< (3 &&& 31))]) ⟨hx, hb, hml, hown, hts⟩ (c_X5_referred l dC dI cI cZ cJ hu hr0 hra rwd rht rg dx dy tp p0 q0 p1 q1 (x + 1) (y + 1) (hrw) (hrh)) (cwV 2 hts gX5_restOfTemplate0_X5_referred rfl rfl rfl (by decide +kernel) ⟨Nat.le_of_ble_eq_true rfl, Nat.le_of_ble_eq_true rfl⟩) (hw_roV hP hS hk [0, 1, 2] rfl (ci := 4) (q0 := 0) rfl rfl) rfl rfl hl.1 rfl (lv_room (Nat.le_of_ble_eq_true rfl)) dX5_restOfTemplate0_25 ⟨Nat.le_of_ble_eq_true rfl, Nat.le_of_ble_eq_true rfl⟩) ?_
  refine lv_iconst (v := 4) hx hb dX5_restOfTemplate0_28 (by decide) ?_
  refine lv_ishl hx hb dX5_restOfTemplate0_29 ?_
  refine lv_ior hx hb dX5_restOfTemplate0_30 ?_
  refine lv_aload_n hx hb dX5_restOfTemplate0_31 rfl (lv_at hl 0 rfl) ?_
  refine lv_iload_n hx hb dX5_restOfTemplate0_32 rfl (lv_at hl 2 rfl) ?_
  refine lv_iload_n hx hb dX5_restOfTemplate0_33 rfl (lv_at hl 3 rfl) ?_
  refine lv_iconst (v := 1) hx hb dX5_restOfTemplate0_34 (by decide) ?_
  refine lv_iadd hx hb dX5_restOfTemplate0_35 ?_
  refine hw_callSe (va_runV (As := [.int x, .int (y + 1)]) (rest := [.int (((sp_px (nI n) (nI w) (nI h) f (x + p0) (y + q0)) <<< (3 &&& 31)) ||| ((sp_rf (nI rwd) (nI rht) rg dx dy (x + 1) (y + 1)) <<< (4 &&& 31)))]) ⟨hx, hb, hml, hown, hts⟩ (c_X5_referred l dC dI cI cZ cJ hu hr0 hra rwd rht rg dx dy tp p0 q0 p1 q1 x (y + 1) (hrw) (hrh)) (cwV 2 hts gX5_restOfTemplate0_X5_referred rfl rfl rfl (by decide +kernel) ⟨Nat.le_of_ble_eq_true rfl, Nat.le_of_ble_eq_true rfl⟩) (hw_roV hP hS hk [0, 1, 2] rfl (ci := 4) (q0 := 0) rfl rfl) rfl rfl hl.1 rfl (lv_room (Nat.le_of_ble_eq_true rfl)) dX5_restOfTemplate0_36 ⟨Nat.le_of_ble_eq_true rfl, Nat.le_of_ble_eq_true rfl⟩) ?_
  refine lv_iconst (v := 5) hx hb dX5_restOfTemplate0_39 (by decide) ?_
  refine lv_ishl hx hb dX5_restOfTemplate0_40 ?_
  refine lv_ior hx hb dX5_restOfTemplate0_41 ?_
  refine lv_aload_n hx hb dX5_restOfTemplate0_42 rfl (lv_at hl 0 rfl) ?_
  refine lv_iload_n hx hb dX5_restOfTemplate0_43 rfl (lv_at hl 2 rfl) ?_
  refine lv_iconst (v := 1) hx hb dX5_restOfTemplate0_44 (by decide) ?_
  refine lv_isub hx hb dX5_restOfTemplate0_45 ?_
  refine lv_iload_n hx hb dX5_restOfTemplate0_46 rfl (lv_at hl 3 rfl) ?_
  refine lv_iconst (v := 1) hx hb dX5_restOfTemplate0_47 (by decide) ?_
  refine lv_iadd hx hb dX5_restOfTemplate0_48 ?_
  refine hw_callSe (va_runV (As := [.int (x - 1), .int (y + 1)]) (rest := [.int ((((sp_px (nI n) (nI w) (nI h) f (x + p0) (y + q0)) <<< (3 &&& 31)) ||| ((sp_rf (nI rwd) (nI rht) rg dx dy (x + 1) (y + 1)) <<< (4 &&& 31))) ||| ((sp_rf (nI rwd) (nI rht) rg dx dy x (y + 1)) <<< (5 &&& 31)))]) ⟨hx, hb, hml, hown, hts⟩ (c_X5_referred l dC dI cI cZ cJ hu hr0 hra rwd rht rg dx dy tp p0 q0 p1 q1 (x - 1) (y + 1) (hrw) (hrh)) (cwV 2 hts gX5_restOfTemplate0_X5_referred rfl rfl rfl (by decide +kernel) ⟨Nat.le_of_ble_eq_true rfl, Nat.le_of_ble_eq_true rfl⟩) (hw_roV hP hS hk [0, 1, 2] rfl (ci := 4) (q0 := 0) rfl rfl) rfl rfl hl.1 rfl (lv_room (Nat.le_of_ble_eq_true rfl)) dX5_restOfTemplate0_49 ⟨Nat.le_of_ble_eq_true rfl, Nat.le_of_ble_eq_true rfl⟩) ?_
  refine lv_bipush (v := 6) hx hb dX5_restOfTemplate0_52 (by decide) ?_
  refine lv_ishl hx hb dX5_restOfTemplate0_54 ?_
  refine lv_ior hx hb dX5_restOfTemplate0_55 ?_
  refine lv_aload_n hx hb dX5_restOfTemplate0_56 rfl (lv_at hl 0 rfl) ?_
  refine lv_iload_n hx hb dX5_restOfTemplate0_57 rfl (lv_at hl 2 rfl) ?_
  refine lv_iconst (v := 1) hx hb dX5_restOfTemplate0_58 (by decide) ?_
  refine lv_iadd hx hb dX5_restOfTemplate0_59 ?_
  refine lv_iload_n hx hb dX5_restOfTemplate0_60 rfl (lv_at hl 3 rfl) ?_
  refine hw_callSe (va_runV (As := [.int (x + 1), .int y]) (rest := [.int (((((sp_px (nI n) (nI w) (nI h) f (x + p0) (y + q0)) <<< (3 &&& 31)) ||| ((sp_rf (nI rwd) (nI rht) rg dx dy (x + 1) (y + 1)) <<< (4 &&& 31))) ||| ((sp_rf (nI rwd) (nI rht) rg dx dy x (y + 1)) <<< (5 &&& 31))) ||| ((sp_rf (nI rwd) (nI rht) rg dx dy (x - 1) (y + 1)) <<< (6 &&& 31)))]) ⟨hx, hb, hml, hown, hts⟩ (c_X5_referred l dC dI cI cZ cJ hu hr0 hra rwd rht rg dx dy tp p0 q0 p1 q1 (x + 1) y (hrw) (hrh)) (cwV 2 hts gX5_restOfTemplate0_X5_referred rfl rfl rfl (by decide +kernel) ⟨Nat.le_of_ble_eq_true rfl, Nat.le_of_ble_eq_true rfl⟩) (hw_roV hP hS hk [0, 1, 2] rfl (ci := 4) (q0 := 0) rfl rfl) rfl rfl hl.1 rfl (lv_room (Nat.le_of_ble_eq_true rfl)) dX5_restOfTemplate0_61 ⟨Nat.le_of_ble_eq_true rfl, Nat.le_of_ble_eq_true rfl⟩) ?_
  refine lv_bipush (v := 7) hx hb dX5_restOfTemplate0_64 (by decide) ?_
  refine lv_ishl hx hb dX5_restOfTemplate0_66 ?_
  refine lv_ior hx hb dX5_restOfTemplate0_67 ?_
  refine lv_aload_n hx hb dX5_restOfTemplate0_68 rfl (lv_at hl 0 rfl) ?_
  refine lv_iload_n hx hb dX5_restOfTemplate0_69 rfl (lv_at hl 2 rfl) ?_
  refine lv_iload_n hx hb dX5_restOfTemplate0_70 rfl (lv_at hl 3 rfl) ?_
  refine hw_callSe (va_runV (As := [.int x, .int y]) (rest := [.int ((((((sp_px (nI n) (nI w) (nI h) f (x + p0) (y + q0)) <<< (3 &&& 31)) ||| ((sp_rf (nI rwd) (nI rht) rg dx dy (x + 1) (y + 1)) <<< (4 &&& 31))) ||| ((sp_rf (nI rwd) (nI rht) rg dx dy x (y + 1)) <<< (5 &&& 31))) ||| ((sp_rf (nI rwd) (nI rht) rg dx dy (x - 1) (y + 1)) <<< (6 &&& 31))) ||| ((sp_rf (nI rwd) (nI rht) rg dx dy (x + 1) y) <<< (7 &&& 31)))]) ⟨hx, hb, hml, hown, hts⟩ (c_X5_referred l dC dI cI cZ cJ hu hr0 hra rwd rht rg dx dy tp p0 q0 p1 q1 x y (hrw) (hrh)) (cwV 2 hts gX5_restOfTemplate0_X5_referred rfl rfl rfl (by decide +kernel) ⟨Nat.le_of_ble_eq_true rfl, Nat.le_of_ble_eq_true rfl⟩) (hw_roV hP hS hk [0, 1, 2] rfl (ci := 4) (q0 := 0) rfl rfl) rfl rfl hl.1 rfl (lv_room (Nat.le_of_ble_eq_true rfl)) dX5_restOfTemplate0_71 ⟨Nat.le_of_ble_eq_true rfl, Nat.le_of_ble_eq_true rfl⟩) ?_
  refine lv_bipush (v := 8) hx hb dX5_restOfTemplate0_74 (by decide) ?_
  refine lv_ishl hx hb dX5_restOfTemplate0_76 ?_
  refine lv_ior hx hb dX5_restOfTemplate0_77 ?_
  refine lv_aload_n hx hb dX5_restOfTemplate0_78 rfl (lv_at hl 0 rfl) ?_
  refine lv_iload_n hx hb dX5_restOfTemplate0_79 rfl (lv_at hl 2 rfl) ?_
  refine lv_iconst (v := 1) hx hb dX5_restOfTemplate0_80 (by decide) ?_
  refine lv_isub hx hb dX5_restOfTemplate0_81 ?_
  refine lv_iload_n hx hb dX5_restOfTemplate0_82 rfl (lv_at hl 3 rfl) ?_
  refine hw_callSe (va_runV (As := [.int (x - 1), .int y]) (rest := [.int (((((((sp_px (nI n) (nI w) (nI h) f (x + p0) (y + q0)) <<< (3 &&& 31)) ||| ((sp_rf (nI rwd) (nI rht) rg dx dy (x + 1) (y + 1)) <<< (4 &&& 31))) ||| ((sp_rf (nI rwd) (nI rht) rg dx dy x (y + 1)) <<< (5 &&& 31))) ||| ((sp_rf (nI rwd) (nI rht) rg dx dy (x - 1) (y + 1)) <<< (6 &&& 31))) ||| ((sp_rf (nI rwd) (nI rht) rg dx dy (x + 1) y) <<< (7 &&& 31))) ||| ((sp_rf (nI rwd) (nI rht) rg dx dy x y) <<< (8 &&& 31)))]) ⟨hx, hb, hml, hown, hts⟩ (c_X5_referred l dC dI cI cZ cJ hu hr0 hra rwd rht rg dx dy tp p0 q0 p1 q1 (x - 1) y (hrw) (hrh)) (cwV 2 hts gX5_restOfTemplate0_X5_referred rfl rfl rfl (by decide +kernel) ⟨Nat.le_of_ble_eq_true rfl, Nat.le_of_ble_eq_true rfl⟩) (hw_roV hP hS hk [0, 1, 2] rfl (ci := 4) (q0 := 0) rfl rfl) rfl rfl hl.1 rfl (lv_room (Nat.le_of_ble_eq_true rfl)) dX5_restOfTemplate0_83 ⟨Nat.le_of_ble_eq_true rfl, Nat.le_of_ble_eq_true rfl⟩) ?_
  refine lv_bipush (v := 9) hx hb dX5_restOfTemplate0_86 (by decide) ?_
  refine lv_ishl hx hb dX5_restOfTemplate0_88 ?_
  refine lv_ior hx hb dX5_restOfTemplate0_89 ?_
  refine lv_aload_n hx hb dX5_restOfTemplate0_90 rfl (lv_at hl 0 rfl) ?_
  refine lv_iload_n hx hb dX5_restOfTemplate0_91 rfl (lv_at hl 2 rfl) ?_
  refine lv_iconst (v := 1) hx hb dX5_restOfTemplate0_92 (by decide) ?_
  refine lv_iadd hx hb dX5_restOfTemplate0_93 ?_
  refine lv_iload_n hx hb dX5_restOfTemplate0_94 rfl (lv_at hl 3 rfl) ?_
  refine lv_iconst (v := 1) hx hb dX5_restOfTemplate0_95 (by decide) ?_
  refine lv_isub hx hb dX5_restOfTemplate0_96 ?_
  refine hw_callSe (va_runV (As := [.int (x + 1), .int (y - 1)]) (rest := [.int ((((((((sp_px (nI n) (nI w) (nI h) f (x + p0) (y + q0)) <<< (3 &&& 31)) ||| ((sp_rf (nI rwd) (nI rht) rg dx dy (x + 1) (y + 1)) <<< (4 &&& 31))) ||| ((sp_rf (nI rwd) (nI rht) rg dx dy x (y + 1)) <<< (5 &&& 31))) ||| ((sp_rf (nI rwd) (nI rht) rg dx dy (x - 1) (y + 1)) <<< (6 &&& 31))) ||| ((sp_rf (nI rwd) (nI rht) rg dx dy (x + 1) y) <<< (7 &&& 31))) ||| ((sp_rf (nI rwd) (nI rht) rg dx dy x y) <<< (8 &&& 31))) ||| ((sp_rf (nI rwd) (nI rht) rg dx dy (x - 1) y) <<< (9 &&& 31)))]) ⟨hx, hb, hml, hown, hts⟩ (c_X5_referred l dC dI cI cZ cJ hu hr0 hra rwd rht rg dx dy tp p0 q0 p1 q1 (x + 1) (y - 1) (hrw) (hrh)) (cwV 2 hts gX5_restOfTemplate0_X5_referred rfl rfl rfl (by decide +kernel) ⟨Nat.le_of_ble_eq_true rfl, Nat.le_of_ble_eq_true rfl⟩) (hw_roV hP hS hk [0, 1, 2] rfl (ci := 4) (q0 := 0) rfl rfl) rfl rfl hl.1 rfl (lv_room (Nat.le_of_ble_eq_true rfl)) dX5_restOfTemplate0_97 ⟨Nat.le_of_ble_eq_true rfl, Nat.le_of_ble_eq_true rfl⟩) ?_
  refine lv_bipush (v := 10) hx hb dX5_restOfTemplate0_100 (by decide) ?_
  refine lv_ishl hx hb dX5_restOfTemplate0_102 ?_
  refine lv_ior hx hb dX5_restOfTemplate0_103 ?_
  refine lv_aload_n hx hb dX5_restOfTemplate0_104 rfl (lv_at hl 0 rfl) ?_
  refine lv_iload_n hx hb dX5_restOfTemplate0_105 rfl (lv_at hl 2 rfl) ?_
  refine lv_iload_n hx hb dX5_restOfTemplate0_106 rfl (lv_at hl 3 rfl) ?_
  refine lv_iconst (v := 1) hx hb dX5_restOfTemplate0_107 (by decide) ?_
  refine lv_isub hx hb dX5_restOfTemplate0_108 ?_
  refine hw_callSe (va_runV (As := [.int x, .int (y - 1)]) (rest := [.int (((((((((sp_px (nI n) (nI w) (nI h) f (x + p0) (y + q0)) <<< (3 &&& 31)) ||| ((sp_rf (nI rwd) (nI rht) rg dx dy (x + 1) (y + 1)) <<< (4 &&& 31))) ||| ((sp_rf (nI rwd) (nI rht) rg dx dy x (y + 1)) <<< (5 &&& 31))) ||| ((sp_rf (nI rwd) (nI rht) rg dx dy (x - 1) (y + 1)) <<< (6 &&& 31))) ||| ((sp_rf (nI rwd) (nI rht) rg dx dy (x + 1) y) <<< (7 &&& 31))) ||| ((sp_rf (nI rwd) (nI rht) rg dx dy x y) <<< (8 &&& 31))) ||| ((sp_rf (nI rwd) (nI rht) rg dx dy (x - 1) y) <<< (9 &&& 31))) ||| ((sp_rf (nI rwd) (nI rht) rg dx dy (x + 1) (y - 1)) <<< (10 &&& 31)))]) ⟨hx, hb, hml, hown, hts⟩ (c_X5_referred l dC dI cI cZ cJ hu hr0 hra rwd rht rg dx dy tp p0 q0 p1 q1 x (y - 1) (hrw) (hrh)) (cwV 2 hts gX5_restOfTemplate0_X5_referred rfl rfl rfl (by decide +kernel) ⟨Nat.le_of_ble_eq_true rfl, Nat.le_of_ble_eq_true rfl⟩) (hw_roV hP hS hk [0, 1, 2] rfl (ci := 4) (q0 := 0) rfl rfl) rfl rfl hl.1 rfl (lv_room (Nat.le_of_ble_eq_true rfl)) dX5_restOfTemplate0_109 ⟨Nat.le_of_ble_eq_true rfl, Nat.le_of_ble_eq_true rfl⟩) ?_
  refine lv_bipush (v := 11) hx hb dX5_restOfTemplate0_112 (by decide) ?_
  refine lv_ishl hx hb dX5_restOfTemplate0_114 ?_
  refine lv_ior hx hb dX5_restOfTemplate0_115 ?_
  refine lv_aload_n hx hb dX5_restOfTemplate0_116 rfl (lv_at hl 0 rfl) ?_
  refine lv_iload_n hx hb dX5_restOfTemplate0_117 rfl (lv_at hl 2 rfl) ?_
  refine lv_aload_n hx hb dX5_restOfTemplate0_118 rfl (lv_at hl 0 rfl) ?_
  refine va_get (D := (dC, dI)) (ci := 4) (v := .int p1) (C := RX5) (T := TX5) (N := 8) hx hb hts hiX5 hown hK hP 0 rfl rfl 6 (by decide) (hts (.fieldLink RX5 36 "RefineRegions$Surroundings" "p1" "I") (by decide +kernel)) (fun _ h9 => h9) rfl dX5_restOfTemplate0_119 ?_
  refine lv_iadd hx hb dX5_restOfTemplate0_122 ?_
  refine lv_iload_n hx hb dX5_restOfTemplate0_123 rfl (lv_at hl 3 rfl) ?_
  refine lv_aload_n hx hb dX5_restOfTemplate0_124 rfl (lv_at hl 0 rfl) ?_
  refine va_get (D := (dC, dI)) (ci := 4) (v := .int q1) (C := RX5) (T := TX5) (N := 8) hx hb hts hiX5 hown hK hP 0 rfl rfl 7 (by decide) (hts (.fieldLink RX5 39 "RefineRegions$Surroundings" "q1" "I") (by decide +kernel)) (fun _ h9 => h9) rfl dX5_restOfTemplate0_125 ?_
  refine lv_iadd hx hb dX5_restOfTemplate0_128 ?_
  refine hw_callSe (va_runV (As := [.int (x + p1), .int (y + q1)]) (rest := [.int ((((((((((sp_px (nI n) (nI w) (nI h) f (x + p0) (y + q0)) <<< (3 &&& 31)) ||| ((sp_rf (nI rwd) (nI rht) rg dx dy (x + 1) (y + 1)) <<< (4 &&& 31))) ||| ((sp_rf (nI rwd) (nI rht) rg dx dy x (y + 1)) <<< (5 &&& 31))) ||| ((sp_rf (nI rwd) (nI rht) rg dx dy (x - 1) (y + 1)) <<< (6 &&& 31))) ||| ((sp_rf (nI rwd) (nI rht) rg dx dy (x + 1) y) <<< (7 &&& 31))) ||| ((sp_rf (nI rwd) (nI rht) rg dx dy x y) <<< (8 &&& 31))) ||| ((sp_rf (nI rwd) (nI rht) rg dx dy (x - 1) y) <<< (9 &&& 31))) ||| ((sp_rf (nI rwd) (nI rht) rg dx dy (x + 1) (y - 1)) <<< (10 &&& 31))) ||| ((sp_rf (nI rwd) (nI rht) rg dx dy x (y - 1)) <<< (11 &&& 31)))]) ⟨hx, hb, hml, hown, hts⟩ (c_X5_referred l dC dI cI cZ cJ hu hr0 hra rwd rht rg dx dy tp p0 q0 p1 q1 (x + p1) (y + q1) (hrw) (hrh)) (cwV 2 hts gX5_restOfTemplate0_X5_referred rfl rfl rfl (by decide +kernel) ⟨Nat.le_of_ble_eq_true rfl, Nat.le_of_ble_eq_true rfl⟩) (hw_roV hP hS hk [0, 1, 2] rfl (ci := 4) (q0 := 0) rfl rfl) rfl rfl hl.1 rfl (lv_room (Nat.le_of_ble_eq_true rfl)) dX5_restOfTemplate0_129 ⟨Nat.le_of_ble_eq_true rfl, Nat.le_of_ble_eq_true rfl⟩) ?_
  refine lv_bipush (v := 12) hx hb dX5_restOfTemplate0_132 (by decide) ?_
  refine lv_ishl hx hb dX5_restOfTemplate0_134 ?_
  refine lv_ior hx hb dX5_restOfTemplate0_135 ?_
  exact W.iret (v := ((((((((((sp_px (nI n) (nI w) (nI h) f (x + p0) (y + q0)) <<< (3 &&& 31)) ||| ((sp_rf (nI rwd) (nI rht) rg dx dy (x + 1) (y + 1)) <<< (4 &&& 31))) ||| ((sp_rf (nI rwd) (nI rht) rg dx dy x (y + 1)) <<< (5 &&& 31))) ||| ((sp_rf (nI rwd) (nI rht) rg dx dy (x - 1) (y + 1)) <<< (6 &&& 31))) ||| ((sp_rf (nI rwd) (nI rht) rg dx dy (x + 1) y) <<< (7 &&& 31))) ||| ((sp_rf (nI rwd) (nI rht) rg dx dy x y) <<< (8 &&& 31))) ||| ((sp_rf (nI rwd) (nI rht) rg dx dy (x - 1) y) <<< (9 &&& 31))) ||| ((sp_rf (nI rwd) (nI rht) rg dx dy (x + 1) (y - 1)) <<< (10 &&& 31))) ||| ((sp_rf (nI rwd) (nI rht) rg dx dy x (y - 1)) <<< (11 &&& 31))) ||| ((sp_rf (nI rwd) (nI rht) rg dx dy (x + p1) (y + q1)) <<< (12 &&& 31))) hx hb hr (fun t ht hW => ⟨((((((((((sp_px (nI n) (nI w) (nI h) f (x + p0) (y + q0)) <<< (3 &&& 31)) ||| ((sp_rf (nI rwd) (nI rht) rg dx dy (x + 1) (y + 1)) <<< (4 &&& 31))) ||| ((sp_rf (nI rwd) (nI rht) rg dx dy x (y + 1)) <<< (5 &&& 31))) ||| ((sp_rf (nI rwd) (nI rht) rg dx dy (x - 1) (y + 1)) <<< (6 &&& 31))) ||| ((sp_rf (nI rwd) (nI rht) rg dx dy (x + 1) y) <<< (7 &&& 31))) ||| ((sp_rf (nI rwd) (nI rht) rg dx dy x y) <<< (8 &&& 31))) ||| ((sp_rf (nI rwd) (nI rht) rg dx dy (x - 1) y) <<< (9 &&& 31))) ||| ((sp_rf (nI rwd) (nI rht) rg dx dy (x + 1) (y - 1)) <<< (10 &&& 31))) ||| ((sp_rf (nI rwd) (nI rht) rg dx dy x (y - 1)) <<< (11 &&& 31))) ||| ((sp_rf (nI rwd) (nI rht) rg dx dy (x + p1) (y + q1)) <<< (12 &&& 31)), rfl, rfl, ht⟩) hS.2.2 dX5_restOfTemplate0_136

set_option maxHeartbeats 4000000 in
set_option maxRecDepth 100000 in
/-- restOfTemplate1 -/
theorem c_X5_restOfTemplate1 (l : Launch) (dC : Nat → ClassId) (dI : Nat → Nat → Nat) (cI cZ cJ : ClassId) (hu : Nat) (hr0 : Nat) (hra : Nat) (rwd : Nat) (rht : Nat) (rg : Nat → Int32) (dx : Int32) (dy : Int32) (tp : Int32) (p0 : Int32) (q0 : Int32) (p1 : Int32) (q1 : Int32) (hb0 : Nat) (hba : Nat) (n : Nat) (w : Nat) (h : Nat) (f : Nat → Int32) (x : Int32) (y : Int32) (hrw : rwd ≤ 60) (hrh : rht ≤ 60) (hn : n ≤ 60) (hw : w ≤ n) (hh : h ≤ n) : Met l yX5_restOfTemplate1 wsX5_restOfTemplate1 ({ frames := 2, cells := 0, slots := 0, locals := 44 }) (hw_Ro (dC, dI) vwCl (ty3 cI cZ cJ) [(hu, .inr (4, [.ref hr0, .int dx, .int dy, .int tp, .int p0, .int q0, .int p1, .int q1])), (hr0, .inr (0, [.int (nI 60), .ref hra, .int (nI rwd), .int (nI rht)])), (hra, .inl (cI, 60 * 60, .inl rg)), (hb0, .inr (0, [.int (nI n), .ref hba, .int (nI w), .int (nI h)])), (hba, .inl (cI, n * n, .inl f))] [.ref hu, .ref hb0, .int x, .int y]) (vp_Si (fun r => r = sp_cx1 (sp_px (nI n) (nI w) (nI h) f) (sp_rf (nI rwd) (nI rht) rg dx dy) x y)) 0 0 (fun _ => False) := by
  refine Met.ofW (cc := cX5_restOfTemplate1) (maxL := 4) (ret := (some .int)) (by decide) rfl ?_
  intro pg ev s m args below meth cd s₁ B hml hv
  obtain ⟨rfl, hP, hK, hN, hZ⟩ := hv
  have hx := B.exec
  have hb := B.bytes
  have hr := B.returns
  have hts := atoms_spec (ws := wsX5_restOfTemplate1) B.pre
  have hown : s.vm.findClass RX5 = some m.cls := findClass_of_methodNamed B.named
  have hlocks := B.notSynchronized
  have hS : va_S (fun _ => False) s.heap s.heap [] := va_S.rf
  have hk : hw_K (dC, dI) vwCl (ty3 cI cZ cJ) (fun _ => False) s := ⟨hK, hN, hZ⟩
  have hl := lv_entry ([.ref hu, .ref hb0, .int x, .int y]) (n := 4) (Nat.le_of_ble_eq_true rfl)
  rw [lg_entry_eq]
  generalize (lg_sl ([.ref hu, .ref hb0, .int x, .int y]) ++ List.replicate (4 - (lg_sl ([.ref hu, .ref hb0, .int x, .int y])).length) Slot.unset).toArray = ls at hl ⊢
  have hl : lv_has ls 4 [(0, .ref hu), (1, .ref hb0), (2, .int x), (3, .int y)] := hl
  refine lv_aload_n hx hb dX5_restOfTemplate1_0 rfl (lv_at hl 1 rfl) ?_
  refine lv_iload_n hx hb dX5_restOfTemplate1_1 rfl (lv_at hl 2 rfl) ?_
  refine lv_iconst (v := 1) hx hb dX5_restOfTemplate1_2 (by decide) ?_
  refine lv_isub hx hb dX5_restOfTemplate1_3 ?_
  refine lv_iload_n hx hb dX5_restOfTemplate1_4 rfl (lv_at hl 3 rfl) ?_
  refine lv_iconst (v := 1) hx hb dX5_restOfTemplate1_5 (by decide) ?_
  refine lv_isub hx hb dX5_restOfTemplate1_6 ?_
  refine hw_callSe (va_runVN (As := [.int (x - 1), .int (y - 1)]) (rest := []) ⟨hx, hb, hml, hown, hts⟩ (c_X1_pixel l dC dI cI cZ cJ hb0 hba n w h f (x - 1) (y - 1) (hn) (hw) (hh)) ⟨va_cnB 2 hts gX5_restOfTemplate1_X1_pixel_n49 rfl rfl rfl (nw_X5_49 hN) (hts (.initialized RX1) (by decide +kernel)) (by decide +kernel) ⟨Nat.le_of_ble_eq_true rfl, Nat.le_of_ble_eq_true rfl⟩, hts (.instanceMethod yX1_pixel) (by decide +kernel), hts (.selects RX1 yX1_pixel yX1_pixel) (by decide +kernel)⟩ (hw_roV hP hS hk [3, 4] rfl (ci := 0) (q0 := 3) rfl rfl) rfl rfl hl.1 rfl (lv_room (Nat.le_of_ble_eq_true rfl)) dX5_restOfTemplate1_7 ⟨Nat.le_of_ble_eq_true rfl, Nat.le_of_ble_eq_true rfl⟩) ?_
  refine lv_iconst (v := 3) hx hb dX5_restOfTemplate1_10 (by decide) ?_
  refine lv_ishl hx hb dX5_restOfTemplate1_11 ?_
  refine lv_aload_n hx hb dX5_restOfTemplate1_12 rfl (lv_at hl 0 rfl) ?_
  refine lv_iload_n hx hb dX5_restOfTemplate1_13 rfl (lv_at hl 2 rfl) ?_
  refine lv_iconst (v := 1) hx hb dX5_restOfTemplate1_14 (by decide) ?_
  refine lv_iadd hx hb dX5_restOfTemplate1_15 ?_
  refine lv_iload_n hx hb dX5_restOfTemplate1_16 rfl (lv_at hl 3 rfl) ?_
  refine lv_iconst (v := 1) hx hb dX5_restOfTemplate1_17 (by decide) ?_
  refine lv_iadd hx hb dX5_restOfTemplate1_18 ?_
  refine hw_callSe (va_runV (As := [.int (x + 1), .int (y + 1)]) (rest := [.int ((sp_px (nI n) (nI w) (nI h) f (x - 1) (y - 1)) <<< (3 &&& 31))]) ⟨hx, hb, hml, hown, hts⟩ (c_X5_referred l dC dI cI cZ cJ hu hr0 hra rwd rht rg dx dy tp p0 q0 p1 q1 (x + 1) (y + 1) (hrw) (hrh)) (cwV 2 hts gX5_restOfTemplate1_X5_referred rfl rfl rfl (by decide +kernel) ⟨Nat.le_of_ble_eq_true rfl, Nat.le_of_ble_eq_true rfl⟩) (hw_roV hP hS hk [0, 1, 2] rfl (ci := 4) (q0 := 0) rfl rfl) rfl rfl hl.1 rfl (lv_room (Nat.le_of_ble_eq_true rfl)) dX5_restOfTemplate1_19 ⟨Nat.le_of_ble_eq_true rfl, Nat.le_of_ble_eq_true rfl⟩) ?_
  refine lv_iconst (v := 4) hx hb dX5_restOfTemplate1_22 (by decide) ?_
  refine lv_ishl hx hb dX5_restOfTemplate1_23 ?_
  refine lv_ior hx hb dX5_restOfTemplate1_24 ?_
  refine lv_aload_n hx hb dX5_restOfTemplate1_25 rfl (lv_at hl 0 rfl) ?_
  refine lv_iload_n hx hb dX5_restOfTemplate1_26 rfl (lv_at hl 2 rfl) ?_
  refine lv_iload_n hx hb dX5_restOfTemplate1_27 rfl (lv_at hl 3 rfl) ?_
  refine lv_iconst (v := 1) hx hb dX5_restOfTemplate1_28 (by decide) ?_
  refine lv_iadd hx hb dX5_restOfTemplate1_29 ?_
  refine hw_callSe (va_runV (As := [.int x, .int (y + 1)]) (rest := [.int (((sp_px (nI n) (nI w) (nI h) f (x - 1) (y - 1)) <<< (3 &&& 31)) ||| ((sp_rf (nI rwd) (nI rht) rg dx dy (x + 1) (y + 1)) <<< (4 &&& 31)))]) ⟨hx, hb, hml, hown, hts⟩ (c_X5_referred l dC dI cI cZ cJ hu hr0 hra rwd rht rg dx dy tp p0 q0 p1 q1 x (y + 1) (hrw) (hrh)) (cwV 2 hts gX5_restOfTemplate1_X5_referred rfl rfl rfl (by decide +kernel) ⟨Nat.le_of_ble_eq_true rfl, Nat.le_of_ble_eq_true rfl⟩) (hw_roV hP hS hk [0, 1, 2] rfl (ci := 4) (q0 := 0) rfl rfl) rfl rfl hl.1 rfl (lv_room (Nat.le_of_ble_eq_true rfl)) dX5_restOfTemplate1_30 ⟨Nat.le_of_ble_eq_true rfl, Nat.le_of_ble_eq_true rfl⟩) ?_
  refine lv_iconst (v := 5) hx hb dX5_restOfTemplate1_33 (by decide) ?_
  refine lv_ishl hx hb dX5_restOfTemplate1_34 ?_
  refine lv_ior hx hb dX5_restOfTemplate1_35 ?_
  refine lv_aload_n hx hb dX5_restOfTemplate1_36 rfl (lv_at hl 0 rfl) ?_
  refine lv_iload_n hx hb dX5_restOfTemplate1_37 rfl (lv_at hl 2 rfl) ?_
  refine lv_iconst (v := 1) hx hb dX5_restOfTemplate1_38 (by decide) ?_
  refine lv_iadd hx hb dX5_restOfTemplate1_39 ?_
  refine lv_iload_n hx hb dX5_restOfTemplate1_40 rfl (lv_at hl 3 rfl) ?_
  refine hw_callSe (va_runV (As := [.int (x + 1), .int y]) (rest := [.int ((((sp_px (nI n) (nI w) (nI h) f (x - 1) (y - 1)) <<< (3 &&& 31)) ||| ((sp_rf (nI rwd) (nI rht) rg dx dy (x + 1) (y + 1)) <<< (4 &&& 31))) ||| ((sp_rf (nI rwd) (nI rht) rg dx dy x (y + 1)) <<< (5 &&& 31)))]) ⟨hx, hb, hml, hown, hts⟩ (c_X5_referred l dC dI cI cZ cJ hu hr0 hra rwd rht rg dx dy tp p0 q0 p1 q1 (x + 1) y (hrw) (hrh)) (cwV 2 hts gX5_restOfTemplate1_X5_referred rfl rfl rfl (by decide +kernel) ⟨Nat.le_of_ble_eq_true rfl, Nat.le_of_ble_eq_true rfl⟩) (hw_roV hP hS hk [0, 1, 2] rfl (ci := 4) (q0 := 0) rfl rfl) rfl rfl hl.1 rfl (lv_room (Nat.le_of_ble_eq_true rfl)) dX5_restOfTemplate1_41 ⟨Nat.le_of_ble_eq_true rfl, Nat.le_of_ble_eq_true rfl⟩) ?_
  refine lv_bipush (v := 6) hx hb dX5_restOfTemplate1_44 (by decide) ?_
  refine lv_ishl hx hb dX5_restOfTemplate1_46 ?_
  refine lv_ior hx hb dX5_restOfTemplate1_47 ?_
  refine lv_aload_n hx hb dX5_restOfTemplate1_48 rfl (lv_at hl 0 rfl) ?_
  refine lv_iload_n hx hb dX5_restOfTemplate1_49 rfl (lv_at hl 2 rfl) ?_
  refine lv_iload_n hx hb dX5_restOfTemplate1_50 rfl (lv_at hl 3 rfl) ?_
  refine hw_callSe (va_runV (As := [.int x, .int y]) (rest := [.int (((((sp_px (nI n) (nI w) (nI h) f (x - 1) (y - 1)) <<< (3 &&& 31)) ||| ((sp_rf (nI rwd) (nI rht) rg dx dy (x + 1) (y + 1)) <<< (4 &&& 31))) ||| ((sp_rf (nI rwd) (nI rht) rg dx dy x (y + 1)) <<< (5 &&& 31))) ||| ((sp_rf (nI rwd) (nI rht) rg dx dy (x + 1) y) <<< (6 &&& 31)))]) ⟨hx, hb, hml, hown, hts⟩ (c_X5_referred l dC dI cI cZ cJ hu hr0 hra rwd rht rg dx dy tp p0 q0 p1 q1 x y (hrw) (hrh)) (cwV 2 hts gX5_restOfTemplate1_X5_referred rfl rfl rfl (by decide +kernel) ⟨Nat.le_of_ble_eq_true rfl, Nat.le_of_ble_eq_true rfl⟩) (hw_roV hP hS hk [0, 1, 2] rfl (ci := 4) (q0 := 0) rfl rfl) rfl rfl hl.1 rfl (lv_room (Nat.le_of_ble_eq_true rfl)) dX5_restOfTemplate1_51 ⟨Nat.le_of_ble_eq_true rfl, Nat.le_of_ble_eq_true rfl⟩) ?_
  refine lv_bipush (v := 7) hx hb dX5_restOfTemplate1_54 (by decide) ?_
  refine lv_ishl hx hb dX5_restOfTemplate1_56 ?_
  refine lv_ior hx hb dX5_restOfTemplate1_57 ?_
  refine lv_aload_n hx hb dX5_restOfTemplate1_58 rfl (lv_at hl 0 rfl) ?_
  refine lv_iload_n hx hb dX5_restOfTemplate1_59 rfl (lv_at hl 2 rfl) ?_
  refine lv_iconst (v := 1) hx hb dX5_restOfTemplate1_60 (by decide) ?_
  refine lv_isub hx hb dX5_restOfTemplate1_61 ?_
  refine lv_iload_n hx hb dX5_restOfTemplate1_62 rfl (lv_at hl 3 rfl) ?_
  refine hw_callSe (va_runV (As := [.int (x - 1), .int y]) (rest := [.int ((((((sp_px (nI n) (nI w) (nI h) f (x - 1) (y - 1)) <<< (3 &&& 31)) ||| ((sp_rf (nI rwd) (nI rht) rg dx dy (x + 1) (y + 1)) <<< (4 &&& 31))) ||| ((sp_rf (nI rwd) (nI rht) rg dx dy x (y + 1)) <<< (5 &&& 31))) ||| ((sp_rf (nI rwd) (nI rht) rg dx dy (x + 1) y) <<< (6 &&& 31))) ||| ((sp_rf (nI rwd) (nI rht) rg dx dy x y) <<< (7 &&& 31)))]) ⟨hx, hb, hml, hown, hts⟩ (c_X5_referred l dC dI cI cZ cJ hu hr0 hra rwd rht rg dx dy tp p0 q0 p1 q1 (x - 1) y (hrw) (hrh)) (cwV 2 hts gX5_restOfTemplate1_X5_referred rfl rfl rfl (by decide +kernel) ⟨Nat.le_of_ble_eq_true rfl, Nat.le_of_ble_eq_true rfl⟩) (hw_roV hP hS hk [0, 1, 2] rfl (ci := 4) (q0 := 0) rfl rfl) rfl rfl hl.1 rfl (lv_room (Nat.le_of_ble_eq_true rfl)) dX5_restOfTemplate1_63 ⟨Nat.le_of_ble_eq_true rfl, Nat.le_of_ble_eq_true rfl⟩) ?_
  refine lv_bipush (v := 8) hx hb dX5_restOfTemplate1_66 (by decide) ?_
  refine lv_ishl hx hb dX5_restOfTemplate1_68 ?_
  refine lv_ior hx hb dX5_restOfTemplate1_69 ?_
  refine lv_aload_n hx hb dX5_restOfTemplate1_70 rfl (lv_at hl 0 rfl) ?_
  refine lv_iload_n hx hb dX5_restOfTemplate1_71 rfl (lv_at hl 2 rfl) ?_
  refine lv_iload_n hx hb dX5_restOfTemplate1_72 rfl (lv_at hl 3 rfl) ?_
  refine lv_iconst (v := 1) hx hb dX5_restOfTemplate1_73 (by decide) ?_
  refine lv_isub hx hb dX5_restOfTemplate1_74 ?_
  refine hw_callSe (va_runV (As := [.int x, .int (y - 1)]) (rest := [.int (((((((sp_px (nI n) (nI w) (nI h) f (x - 1) (y - 1)) <<< (3 &&& 31)) ||| ((sp_rf (nI rwd) (nI rht) rg dx dy (x + 1) (y + 1)) <<< (4 &&& 31))) ||| ((sp_rf (nI rwd) (nI rht) rg dx dy x (y + 1)) <<< (5 &&& 31))) ||| ((sp_rf (nI rwd) (nI rht) rg dx dy (x + 1) y) <<< (6 &&& 31))) ||| ((sp_rf (nI rwd) (nI rht) rg dx dy x y) <<< (7 &&& 31))) ||| ((sp_rf (nI rwd) (nI rht) rg dx dy (x - 1) y) <<< (8 &&& 31)))]) ⟨hx, hb, hml, hown, hts⟩ (c_X5_referred l dC dI cI cZ cJ hu hr0 hra rwd rht rg dx dy tp p0 q0 p1 q1 x (y - 1) (hrw) (hrh)) (cwV 2 hts gX5_restOfTemplate1_X5_referred rfl rfl rfl (by decide +kernel) ⟨Nat.le_of_ble_eq_true rfl, Nat.le_of_ble_eq_true rfl⟩) (hw_roV hP hS hk [0, 1, 2] rfl (ci := 4) (q0 := 0) rfl rfl) rfl rfl hl.1 rfl (lv_room (Nat.le_of_ble_eq_true rfl)) dX5_restOfTemplate1_75 ⟨Nat.le_of_ble_eq_true rfl, Nat.le_of_ble_eq_true rfl⟩) ?_
  refine lv_bipush (v := 9) hx hb dX5_restOfTemplate1_78 (by decide) ?_
  refine lv_ishl hx hb dX5_restOfTemplate1_80 ?_
  refine lv_ior hx hb dX5_restOfTemplate1_81 ?_
  exact W.iret (v := (((((((sp_px (nI n) (nI w) (nI h) f (x - 1) (y - 1)) <<< (3 &&& 31)) ||| ((sp_rf (nI rwd) (nI rht) rg dx dy (x + 1) (y + 1)) <<< (4 &&& 31))) ||| ((sp_rf (nI rwd) (nI rht) rg dx dy x (y + 1)) <<< (5 &&& 31))) ||| ((sp_rf (nI rwd) (nI rht) rg dx dy (x + 1) y) <<< (6 &&& 31))) ||| ((sp_rf (nI rwd) (nI rht) rg dx dy x y) <<< (7 &&& 31))) ||| ((sp_rf (nI rwd) (nI rht) rg dx dy (x - 1) y) <<< (8 &&& 31))) ||| ((sp_rf (nI rwd) (nI rht) rg dx dy x (y - 1)) <<< (9 &&& 31))) hx hb hr (fun t ht hW => ⟨(((((((sp_px (nI n) (nI w) (nI h) f (x - 1) (y - 1)) <<< (3 &&& 31)) ||| ((sp_rf (nI rwd) (nI rht) rg dx dy (x + 1) (y + 1)) <<< (4 &&& 31))) ||| ((sp_rf (nI rwd) (nI rht) rg dx dy x (y + 1)) <<< (5 &&& 31))) ||| ((sp_rf (nI rwd) (nI rht) rg dx dy (x + 1) y) <<< (6 &&& 31))) ||| ((sp_rf (nI rwd) (nI rht) rg dx dy x y) <<< (7 &&& 31))) ||| ((sp_rf (nI rwd) (nI rht) rg dx dy (x - 1) y) <<< (8 &&& 31))) ||| ((sp_rf (nI rwd) (nI rht) rg dx dy x (y - 1)) <<< (9 &&& 31)), rfl, rfl, ht⟩) hS.2.2 dX5_restOfTemplate1_82

set_option maxHeartbeats 4000000 in
set_option maxRecDepth 100000 in
/-- contextOf(known, x, y) -/
theorem c_X5_contextOf (l : Launch) (dC : Nat → ClassId) (dI : Nat → Nat → Nat) (cI cZ cJ : ClassId) (hu : Nat) (hr0 : Nat) (hra : Nat) (rwd : Nat) (rht : Nat) (rg : Nat → Int32) (dx : Int32) (dy : Int32) (tp : Int32) (p0 : Int32) (q0 : Int32) (p1 : Int32) (q1 : Int32) (hb0 : Nat) (hba : Nat) (n : Nat) (w : Nat) (h : Nat) (f : Nat → Int32) (x : Int32) (y : Int32) (hrw : rwd ≤ 60) (hrh : rht ≤ 60) (hn : n ≤ 60) (hw : w ≤ n) (hh : h ≤ n) : Met l yX5_contextOf wsX5_contextOf ({ frames := 3, cells := 0, slots := 0, locals := 67 }) (hw_Ro (dC, dI) vwCl (ty3 cI cZ cJ) [(hu, .inr (4, [.ref hr0, .int dx, .int dy, .int tp, .int p0, .int q0, .int p1, .int q1])), (hr0, .inr (0, [.int (nI 60), .ref hra, .int (nI rwd), .int (nI rht)])), (hra, .inl (cI, 60 * 60, .inl rg)), (hb0, .inr (0, [.int (nI n), .ref hba, .int (nI w), .int (nI h)])), (hba, .inl (cI, n * n, .inl f))] [.ref hu, .ref hb0, .int x, .int y]) (vp_Si (fun r => r = sp_cx tp p0 q0 p1 q1 (sp_px (nI n) (nI w) (nI h) f) (sp_rf (nI rwd) (nI rht) rg dx dy) x y)) 0 0 (fun _ => False) := by
  refine Met.ofW (cc := cX5_contextOf) (maxL := 5) (ret := (some .int)) (by decide) rfl ?_
  intro pg ev s m args below meth cd s₁ B hml hv
  obtain ⟨rfl, hP, hK, hN, hZ⟩ := hv
  have hx := B.exec
  have hb := B.bytes
  have hr := B.returns
  have hts := atoms_spec (ws := wsX5_contextOf) B.pre
  have hown : s.vm.findClass RX5 = some m.cls := findClass_of_methodNamed B.named
  have hlocks := B.notSynchronized
  have hS : va_S (fun _ => False) s.heap s.heap [] := va_S.rf
  have hk : hw_K (dC, dI) vwCl (ty3 cI cZ cJ) (fun _ => False) s := ⟨hK, hN, hZ⟩
  have hiX5 : ∀ w ∈ u_ws RX5 TX5 8, w ∈ wsX5_contextOf := by decide +kernel
  have hl := lv_entry ([.ref hu, .ref hb0, .int x, .int y]) (n := 5) (Nat.le_of_ble_eq_true rfl)
  rw [lg_entry_eq]
  generalize (lg_sl ([.ref hu, .ref hb0, .int x, .int y]) ++ List.replicate (5 - (lg_sl ([.ref hu, .ref hb0, .int x, .int y])).length) Slot.unset).toArray = ls at hl ⊢
  have hl : lv_has ls 5 [(0, .ref hu), (1, .ref hb0), (2, .int x), (3, .int y)] := hl
  refine lv_aload_n hx hb dX5_contextOf_0 rfl (lv_at hl 1 rfl) ?_
  refine lv_iload_n hx hb dX5_contextOf_1 rfl (lv_at hl 2 rfl) ?_
  refine lv_iconst (v := 1) hx hb dX5_contextOf_2 (by decide) ?_
  refine lv_isub hx hb dX5_contextOf_3 ?_
  refine lv_iload_n hx hb dX5_contextOf_4 rfl (lv_at hl 3 rfl) ?_
  refine hw_callSe (va_runVN (As := [.int (x - 1), .int y]) (rest := []) ⟨hx, hb, hml, hown, hts⟩ (c_X1_pixel l dC dI cI cZ cJ hb0 hba n w h f (x - 1) y (hn) (hw) (hh)) ⟨va_cnB 2 hts gX5_contextOf_X1_pixel_n49 rfl rfl rfl (nw_X5_49 hN) (hts (.initialized RX1) (by decide +kernel)) (by decide +kernel) ⟨Nat.le_of_ble_eq_true rfl, Nat.le_of_ble_eq_true rfl⟩, hts (.instanceMethod yX1_pixel) (by decide +kernel), hts (.selects RX1 yX1_pixel yX1_pixel) (by decide +kernel)⟩ (hw_roV hP hS hk [3, 4] rfl (ci := 0) (q0 := 3) rfl rfl) rfl rfl hl.1 rfl (lv_room (Nat.le_of_ble_eq_true rfl)) dX5_contextOf_5 ⟨Nat.le_of_ble_eq_true rfl, Nat.le_of_ble_eq_true rfl⟩) ?_
  refine lv_aload_n hx hb dX5_contextOf_8 rfl (lv_at hl 1 rfl) ?_
  refine lv_iload_n hx hb dX5_contextOf_9 rfl (lv_at hl 2 rfl) ?_
  refine lv_iconst (v := 1) hx hb dX5_contextOf_10 (by decide) ?_
  refine lv_iadd hx hb dX5_contextOf_11 ?_
  refine lv_iload_n hx hb dX5_contextOf_12 rfl (lv_at hl 3 rfl) ?_
  refine lv_iconst (v := 1) hx hb dX5_contextOf_13 (by decide) ?_
  refine lv_isub hx hb dX5_contextOf_14 ?_
  refine hw_callSe (va_runVN (As := [.int (x + 1), .int (y - 1)]) (rest := [.int (sp_px (nI n) (nI w) (nI h) f (x - 1) y)]) ⟨hx, hb, hml, hown, hts⟩ (c_X1_pixel l dC dI cI cZ cJ hb0 hba n w h f (x + 1) (y - 1) (hn) (hw) (hh)) ⟨va_cnB 2 hts gX5_contextOf_X1_pixel_n49 rfl rfl rfl (nw_X5_49 hN) (hts (.initialized RX1) (by decide +kernel)) (by decide +kernel) ⟨Nat.le_of_ble_eq_true rfl, Nat.le_of_ble_eq_true rfl⟩, hts (.instanceMethod yX1_pixel) (by decide +kernel), hts (.selects RX1 yX1_pixel yX1_pixel) (by decide +kernel)⟩ (hw_roV hP hS hk [3, 4] rfl (ci := 0) (q0 := 3) rfl rfl) rfl rfl hl.1 rfl (lv_room (Nat.le_of_ble_eq_true rfl)) dX5_contextOf_15 ⟨Nat.le_of_ble_eq_true rfl, Nat.le_of_ble_eq_true rfl⟩) ?_
  refine lv_iconst (v := 1) hx hb dX5_contextOf_18 (by decide) ?_
  refine lv_ishl hx hb dX5_contextOf_19 ?_
  refine lv_ior hx hb dX5_contextOf_20 ?_
  refine lv_aload_n hx hb dX5_contextOf_21 rfl (lv_at hl 1 rfl) ?_
  refine lv_iload_n hx hb dX5_contextOf_22 rfl (lv_at hl 2 rfl) ?_
  refine lv_iload_n hx hb dX5_contextOf_23 rfl (lv_at hl 3 rfl) ?_
  refine lv_iconst (v := 1) hx hb dX5_contextOf_24 (by decide) ?_
  refine lv_isub hx hb dX5_contextOf_25 ?_
  refine hw_callSe (va_runVN (As := [.int x, .int (y - 1)]) (rest := [.int ((sp_px (nI n) (nI w) (nI h) f (x - 1) y) ||| ((sp_px (nI n) (nI w) (nI h) f (x + 1) (y - 1)) <<< (1 &&& 31)))]) ⟨hx, hb, hml, hown, hts⟩ (c_X1_pixel l dC dI cI cZ cJ hb0 hba n w h f x (y - 1) (hn) (hw) (hh)) ⟨va_cnB 2 hts gX5_contextOf_X1_pixel_n49 rfl rfl rfl (nw_X5_49 hN) (hts (.initialized RX1) (by decide +kernel)) (by decide +kernel) ⟨Nat.le_of_ble_eq_true rfl, Nat.le_of_ble_eq_true rfl⟩, hts (.instanceMethod yX1_pixel) (by decide +kernel), hts (.selects RX1 yX1_pixel yX1_pixel) (by decide +kernel)⟩ (hw_roV hP hS hk [3, 4] rfl (ci := 0) (q0 := 3) rfl rfl) rfl rfl hl.1 rfl (lv_room (Nat.le_of_ble_eq_true rfl)) dX5_contextOf_26 ⟨Nat.le_of_ble_eq_true rfl, Nat.le_of_ble_eq_true rfl⟩) ?_
  refine lv_iconst (v := 2) hx hb dX5_contextOf_29 (by decide) ?_
  refine lv_ishl hx hb dX5_contextOf_30 ?_
  refine lv_ior hx hb dX5_contextOf_31 ?_
  refine lv_istore (lv' := [(4, .int (((sp_px (nI n) (nI w) (nI h) f (x - 1) y) ||| ((sp_px (nI n) (nI w) (nI h) f (x + 1) (y - 1)) <<< (1 &&& 31))) ||| ((sp_px (nI n) (nI w) (nI h) f x (y - 1)) <<< (2 &&& 31)))), (0, .ref hu), (1, .ref hb0), (2, .int x), (3, .int y)]) hx hb dX5_contextOf_32 hl (by decide) rfl (fun ls hl => ?_)
  refine lv_iload hx hb dX5_contextOf_34 (lv_at hl 0 rfl) ?_
  refine lv_aload_n hx hb dX5_contextOf_36 rfl (lv_at hl 1 rfl) ?_
  refine va_get (D := (dC, dI)) (ci := 4) (v := .int tp) (C := RX5) (T := TX5) (N := 8) hx hb hts hiX5 hown hK hP 0 rfl rfl 3 (by decide) (hts (.fieldLink RX5 27 "RefineRegions$Surroundings" "template" "I") (by decide +kernel)) (fun _ h9 => h9) rfl dX5_contextOf_37 ?_
  refine lv_if_ne (tgt := 53) hx hb dX5_contextOf_40 (by decide) (fun c_40 => ?_) (fun c_40 => ?_)
  · refine lv_aload_n hx hb dX5_contextOf_53 rfl (lv_at hl 1 rfl) ?_
    refine lv_aload_n hx hb dX5_contextOf_54 rfl (lv_at hl 2 rfl) ?_
    refine lv_iload_n hx hb dX5_contextOf_55 rfl (lv_at hl 3 rfl) ?_
    refine lv_iload_n hx hb dX5_contextOf_56 rfl (lv_at hl 4 rfl) ?_
    refine hw_callSe (va_runV (As := [.ref hb0, .int x, .int y]) (rest := [.int (((sp_px (nI n) (nI w) (nI h) f (x - 1) y) ||| ((sp_px (nI n) (nI w) (nI h) f (x + 1) (y - 1)) <<< (1 &&& 31))) ||| ((sp_px (nI n) (nI w) (nI h) f x (y - 1)) <<< (2 &&& 31)))]) ⟨hx, hb, hml, hown, hts⟩ (c_X5_restOfTemplate1 l dC dI cI cZ cJ hu hr0 hra rwd rht rg dx dy tp p0 q0 p1 q1 hb0 hba n w h f x y (hrw) (hrh) (hn) (hw) (hh)) (cwV 3 hts gX5_contextOf_X5_restOfTemplate1 rfl rfl rfl (by decide +kernel) ⟨Nat.le_of_ble_eq_true rfl, Nat.le_of_ble_eq_true rfl⟩) (hw_roV hP hS hk [0, 1, 2, 3, 4] rfl (ci := 4) (q0 := 0) rfl rfl) rfl rfl hl.1 rfl (lv_room (Nat.le_of_ble_eq_true rfl)) dX5_contextOf_57 ⟨Nat.le_of_ble_eq_true rfl, Nat.le_of_ble_eq_true rfl⟩) ?_
    refine lv_ior hx hb dX5_contextOf_60 ?_
    exact W.iret (v := (((sp_px (nI n) (nI w) (nI h) f (x - 1) y) ||| ((sp_px (nI n) (nI w) (nI h) f (x + 1) (y - 1)) <<< (1 &&& 31))) ||| ((sp_px (nI n) (nI w) (nI h) f x (y - 1)) <<< (2 &&& 31))) ||| (sp_cx1 (sp_px (nI n) (nI w) (nI h) f) (sp_rf (nI rwd) (nI rht) rg dx dy) x y)) hx hb hr (fun t ht hW => ⟨(((sp_px (nI n) (nI w) (nI h) f (x - 1) y) ||| ((sp_px (nI n) (nI w) (nI h) f (x + 1) (y - 1)) <<< (1 &&& 31))) ||| ((sp_px (nI n) (nI w) (nI h) f x (y - 1)) <<< (2 &&& 31))) ||| (sp_cx1 (sp_px (nI n) (nI w) (nI h) f) (sp_rf (nI rwd) (nI rht) rg dx dy) x y), rfl, by unfold sp_cx; rw [if_neg c_40]; rfl, ht⟩) hS.2.2 dX5_contextOf_61
  · refine lv_aload_n hx hb dX5_contextOf_43 rfl (lv_at hl 1 rfl) ?_
    refine lv_aload_n hx hb dX5_contextOf_44 rfl (lv_at hl 2 rfl) ?_
    refine lv_iload_n hx hb dX5_contextOf_45 rfl (lv_at hl 3 rfl) ?_
    refine lv_iload_n hx hb dX5_contextOf_46 rfl (lv_at hl 4 rfl) ?_
    refine hw_callSe (va_runV (As := [.ref hb0, .int x, .int y]) (rest := [.int (((sp_px (nI n) (nI w) (nI h) f (x - 1) y) ||| ((sp_px (nI n) (nI w) (nI h) f (x + 1) (y - 1)) <<< (1 &&& 31))) ||| ((sp_px (nI n) (nI w) (nI h) f x (y - 1)) <<< (2 &&& 31)))]) ⟨hx, hb, hml, hown, hts⟩ (c_X5_restOfTemplate0 l dC dI cI cZ cJ hu hr0 hra rwd rht rg dx dy tp p0 q0 p1 q1 hb0 hba n w h f x y (hrw) (hrh) (hn) (hw) (hh)) (cwV 3 hts gX5_contextOf_X5_restOfTemplate0 rfl rfl rfl (by decide +kernel) ⟨Nat.le_of_ble_eq_true rfl, Nat.le_of_ble_eq_true rfl⟩) (hw_roV hP hS hk [0, 1, 2, 3, 4] rfl (ci := 4) (q0 := 0) rfl rfl) rfl rfl hl.1 rfl (lv_room (Nat.le_of_ble_eq_true rfl)) dX5_contextOf_47 ⟨Nat.le_of_ble_eq_true rfl, Nat.le_of_ble_eq_true rfl⟩) ?_
    refine lv_goto (tgt := 60) hx hb dX5_contextOf_50 (by decide) ?_
    refine lv_ior hx hb dX5_contextOf_60 ?_
    exact W.iret (v := (((sp_px (nI n) (nI w) (nI h) f (x - 1) y) ||| ((sp_px (nI n) (nI w) (nI h) f (x + 1) (y - 1)) <<< (1 &&& 31))) ||| ((sp_px (nI n) (nI w) (nI h) f x (y - 1)) <<< (2 &&& 31))) ||| (sp_cx0 p0 q0 p1 q1 (sp_px (nI n) (nI w) (nI h) f) (sp_rf (nI rwd) (nI rht) rg dx dy) x y)) hx hb hr (fun t ht hW => ⟨(((sp_px (nI n) (nI w) (nI h) f (x - 1) y) ||| ((sp_px (nI n) (nI w) (nI h) f (x + 1) (y - 1)) <<< (1 &&& 31))) ||| ((sp_px (nI n) (nI w) (nI h) f x (y - 1)) <<< (2 &&& 31))) ||| (sp_cx0 p0 q0 p1 q1 (sp_px (nI n) (nI w) (nI h) f) (sp_rf (nI rwd) (nI rht) rg dx dy) x y), rfl, by unfold sp_cx; rw [if_pos c_40]; rfl, ht⟩) hS.2.2 dX5_contextOf_61

set_option maxHeartbeats 4000000 in
set_option maxRecDepth 100000 in
/-- rowAgrees(target, y) -/
theorem c_X5_rowAgrees (l : Launch) (dC : Nat → ClassId) (dI : Nat → Nat → Nat) (cI cZ cJ : ClassId) (hu : Nat) (hr0 : Nat) (hra : Nat) (rwd : Nat) (rht : Nat) (rg : Nat → Int32) (dx : Int32) (dy : Int32) (tp : Int32) (p0 : Int32) (q0 : Int32) (p1 : Int32) (q1 : Int32) (hb0 : Nat) (hba : Nat) (n : Nat) (w : Nat) (h : Nat) (f : Nat → Int32) (y : Int32) (hrw : rwd ≤ 60) (hrh : rht ≤ 60) (hn : n ≤ 60) (hw : w ≤ n) (hh : h ≤ n) : Met l yX5_rowAgrees wsX5_rowAgrees ({ frames := 3, cells := 0, slots := 0, locals := 69 }) (hw_Ro (dC, dI) vwCl (ty3 cI cZ cJ) [(hu, .inr (4, [.ref hr0, .int dx, .int dy, .int tp, .int p0, .int q0, .int p1, .int q1])), (hr0, .inr (0, [.int (nI 60), .ref hra, .int (nI rwd), .int (nI rht)])), (hra, .inl (cI, 60 * 60, .inl rg)), (hb0, .inr (0, [.int (nI n), .ref hba, .int (nI w), .int (nI h)])), (hba, .inl (cI, n * n, .inl f))] [.ref hu, .ref hb0, .int y]) (vp_Si (fun r => r = sp_z (sp_agr (sp_nine (sp_rf (nI rwd) (nI rht) rg dx dy)) (sp_px (nI n) (nI w) (nI h) f) y w))) 0 0 (fun _ => False) := by
  refine Met.ofW (cc := cX5_rowAgrees) (maxL := 5) (ret := (some .boolean)) (by decide) rfl ?_
  intro pg ev s m args below meth cd s₁ B hml hv
  obtain ⟨rfl, hP, hK, hN, hZ⟩ := hv
  have hx := B.exec
  have hb := B.bytes
  have hr := B.returns
  have hts := atoms_spec (ws := wsX5_rowAgrees) B.pre
  have hown : s.vm.findClass RX5 = some m.cls := findClass_of_methodNamed B.named
  have hlocks := B.notSynchronized
  have hS : va_S (fun _ => False) s.heap s.heap [] := va_S.rf
  have hk : hw_K (dC, dI) vwCl (ty3 cI cZ cJ) (fun _ => False) s := ⟨hK, hN, hZ⟩
  have hiX1 : ∀ w ∈ u_ws RX1 TX1 4, w ∈ wsX5_rowAgrees := by decide +kernel
  have hl := lv_entry ([.ref hu, .ref hb0, .int y]) (n := 5) (Nat.le_of_ble_eq_true rfl)
  rw [lg_entry_eq]
  generalize (lg_sl ([.ref hu, .ref hb0, .int y]) ++ List.replicate (5 - (lg_sl ([.ref hu, .ref hb0, .int y])).length) Slot.unset).toArray = ls at hl ⊢
  have hl : lv_has ls 5 [(0, .ref hu), (1, .ref hb0), (2, .int y)] := hl
  refine lv_iconst (v := 0) hx hb dX5_rowAgrees_0 (by decide) ?_
  refine lv_istore_n (lv' := [(3, .int 0), (0, .ref hu), (1, .ref hb0), (2, .int y)]) hx hb dX5_rowAgrees_1 rfl hl (by decide) rfl (fun ls hl => ?_)
  have loop_2 : ∀ (fu : Nat) (i : Nat), (i ≤ w) → (sp_agr (sp_nine (sp_rf (nI rwd) (nI rht) rg dx dy)) (sp_px (nI n) (nI w) (nI h) f) y i = true) → (w - i < fu) → ∀ ls : Array Slot, lv_has ls 5 [(3, .int (nI i)), (0, .ref hu), (1, .ref hb0), (2, .int y)] → W pg l ev (headSpec wsX5_rowAgrees ({ frames := 3, cells := 0, slots := 0, locals := 69 })).room s m ([.ref hu, .ref hb0, .int y]).toArray below meth cd s.heap [] 0 0 (MQ below (vp_Si (fun r => r = sp_z (sp_agr (sp_nine (sp_rf (nI rwd) (nI rht) rg dx dy)) (sp_px (nI n) (nI w) (nI h) f) y w))) ([.ref hu, .ref hb0, .int y]).toArray s 0 0 (fun _ => False)) (F0 m 2 ls []) := by
    intro fu
    induction fu with
    | zero =>
      intro i hi hg hm
      omega
    | succ fu ih =>
      intro i hi hg hm ls hl
      refine lv_iload_n hx hb dX5_rowAgrees_2 rfl (lv_at hl 0 rfl) ?_
      refine lv_aload_n hx hb dX5_rowAgrees_3 rfl (lv_at hl 2 rfl) ?_
      refine va_getN (D := (dC, dI)) (ci := 0) (v := .int (nI w)) (C := RX1) (T := TX1) (N := 4) hx hb hts hiX1 hown hK hP 3 rfl rfl 2 (by decide) (va_Nw.use rfl (nw_X5_63 hN)) (fun _ h9 => h9) rfl dX5_rowAgrees_4 ?_
      refine lv_icmp_ge (tgt := 43) hx hb dX5_rowAgrees_7 (by decide) (fun c_7 => ?_) (fun c_7 => ?_)
      · refine lv_iconst (v := 1) hx hb dX5_rowAgrees_43 (by decide) ?_
        exact W.zret (v := 1) hx hb hr (by decide +kernel) (fun t ht hW => ⟨1, rfl, by have e9 : i = w := by { rw [nI_leI (by omega) (by omega)] at c_7; omega }; rw [e9] at hg; show (1 : Int32) = sp_z _; rw [hg]; rfl, ht⟩) hS.2.2 dX5_rowAgrees_44
      · have hi9 : i < w := by rw [nI_leI (by omega) (by omega)] at c_7; omega
        refine lv_aload_n hx hb dX5_rowAgrees_10 rfl (lv_at hl 1 rfl) ?_
        refine lv_iload_n hx hb dX5_rowAgrees_11 rfl (lv_at hl 0 rfl) ?_
        refine lv_iload_n hx hb dX5_rowAgrees_12 rfl (lv_at hl 3 rfl) ?_
        refine hw_callSe (va_runV (As := [.int (nI i), .int y]) (rest := []) ⟨hx, hb, hml, hown, hts⟩ (c_X5_agreedNine l dC dI cI cZ cJ hu hr0 hra rwd rht rg dx dy tp p0 q0 p1 q1 (nI i) y (hrw) (hrh)) (cwV 2 hts gX5_rowAgrees_X5_agreedNine rfl rfl rfl (by decide +kernel) ⟨Nat.le_of_ble_eq_true rfl, Nat.le_of_ble_eq_true rfl⟩) (hw_roV hP hS hk [0, 1, 2] rfl (ci := 4) (q0 := 0) rfl rfl) rfl rfl hl.1 rfl (lv_room (Nat.le_of_ble_eq_true rfl)) dX5_rowAgrees_13 ⟨Nat.le_of_ble_eq_true rfl, Nat.le_of_ble_eq_true rfl⟩) ?_
        refine lv_istore (lv' := [(4, .int (sp_nine (sp_rf (nI rwd) (nI rht) rg dx dy) (nI i) y)), (3, .int (nI i)), (0, .ref hu), (1, .ref hb0), (2, .int y)]) hx hb dX5_rowAgrees_16 hl (by decide) rfl (fun ls hl => ?_)
        refine lv_iload hx hb dX5_rowAgrees_18 (lv_at hl 0 rfl) ?_
        refine lv_iconst (v := (-1)) hx hb dX5_rowAgrees_20 (by decide) ?_
        refine lv_icmp_eq (tgt := 37) hx hb dX5_rowAgrees_21 (by decide) (fun c_21 => ?_) (fun c_21 => ?_)
        · refine lv_iinc (v := nI (i + 1)) (lv' := [(3, .int (nI (i + 1))), (4, .int (sp_nine (sp_rf (nI rwd) (nI rht) rg dx dy) (nI i) y)), (0, .ref hu), (1, .ref hb0), (2, .int y)]) hx hb dX5_rowAgrees_37 hl (k := 1) rfl (nI_1 i) (by decide) rfl (fun ls hl => ?_)
          refine lv_goto (tgt := 2) hx hb dX5_rowAgrees_40 (by decide) ?_
          exact ih (i + 1) (by omega) (by unfold sp_agr; rw [hg]; simp [c_21]) (by omega) ls (lv_sub hl [0, 2, 3, 4] rfl)
        · refine lv_iload hx hb dX5_rowAgrees_24 (lv_at hl 0 rfl) ?_
          refine lv_aload_n hx hb dX5_rowAgrees_26 rfl (lv_at hl 3 rfl) ?_
          refine lv_iload_n hx hb dX5_rowAgrees_27 rfl (lv_at hl 1 rfl) ?_
          refine lv_iload_n hx hb dX5_rowAgrees_28 rfl (lv_at hl 4 rfl) ?_
          refine hw_callSe (va_runVN (As := [.int (nI i), .int y]) (rest := [.int (sp_nine (sp_rf (nI rwd) (nI rht) rg dx dy) (nI i) y)]) ⟨hx, hb, hml, hown, hts⟩ (c_X1_pixel l dC dI cI cZ cJ hb0 hba n w h f (nI i) y (hn) (hw) (hh)) ⟨va_cnB 2 hts gX5_rowAgrees_X1_pixel_n49 rfl rfl rfl (nw_X5_49 hN) (hts (.initialized RX1) (by decide +kernel)) (by decide +kernel) ⟨Nat.le_of_ble_eq_true rfl, Nat.le_of_ble_eq_true rfl⟩, hts (.instanceMethod yX1_pixel) (by decide +kernel), hts (.selects RX1 yX1_pixel yX1_pixel) (by decide +kernel)⟩ (hw_roV hP hS hk [3, 4] rfl (ci := 0) (q0 := 3) rfl rfl) rfl rfl hl.1 rfl (lv_room (Nat.le_of_ble_eq_true rfl)) dX5_rowAgrees_29 ⟨Nat.le_of_ble_eq_true rfl, Nat.le_of_ble_eq_true rfl⟩) ?_
          refine lv_icmp_eq (tgt := 37) hx hb dX5_rowAgrees_32 (by decide) (fun c_32 => ?_) (fun c_32 => ?_)
          · refine lv_iinc (v := nI (i + 1)) (lv' := [(3, .int (nI (i + 1))), (4, .int (sp_nine (sp_rf (nI rwd) (nI rht) rg dx dy) (nI i) y)), (0, .ref hu), (1, .ref hb0), (2, .int y)]) hx hb dX5_rowAgrees_37 hl (k := 1) rfl (nI_1 i) (by decide) rfl (fun ls hl => ?_)
            refine lv_goto (tgt := 2) hx hb dX5_rowAgrees_40 (by decide) ?_
            exact ih (i + 1) (by omega) (by unfold sp_agr; rw [hg]; simp [c_32]) (by omega) ls (lv_sub hl [0, 2, 3, 4] rfl)
          · refine lv_iconst (v := 0) hx hb dX5_rowAgrees_35 (by decide) ?_
            exact W.zret (v := 0) hx hb hr (by decide +kernel) (fun t ht hW => ⟨0, rfl, by rw [sp_agr_no c_21 c_32 w (by rw [nI_leI (by omega) (by omega)] at c_7; omega)]; rfl, ht⟩) hS.2.2 dX5_rowAgrees_36
  exact loop_2 (w + 1) 0 (Nat.zero_le _) (rfl) (by omega) ls (lv_sub hl [0, 1, 2, 3] rfl)
