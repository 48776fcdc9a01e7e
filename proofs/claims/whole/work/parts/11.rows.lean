set_option maxHeartbeats 4000000 in
set_option maxRecDepth 100000 in
/-- count() -/
theorem c_X2_count (l : Launch) (dC : Nat → ClassId) (dI : Nat → Nat → Nat) (cI cZ cJ : ClassId) (hb0 : Nat) (ha : Nat) (k : Nat) (f : Nat → Int32) : Met l yX2_count wsX2_count ({ frames := 0, cells := 0, slots := 0, locals := 0 }) (hw_Ro (dC, dI) vwCl (ty3 cI cZ cJ) [(hb0, .inr (1, [.ref ha, .int (nI k)])), (ha, .inl (cI, 4096, .inl f))] [.ref hb0]) (vp_Si (fun r => r = nI k)) 0 0 (fun _ => False) := by
  refine Met.ofW (cc := cX2_count) (maxL := 1) (ret := (some .int)) (by decide) rfl ?_
  intro pg ev s m args below meth cd s₁ B hml hv
  obtain ⟨rfl, hP, hK, hN, hZ⟩ := hv
  have hx := B.exec
  have hb := B.bytes
  have hr := B.returns
  have hts := atoms_spec (ws := wsX2_count) B.pre
  have hown : s.vm.findClass RX2 = some m.cls := findClass_of_methodNamed B.named
  have hlocks := B.notSynchronized
  have hS : va_S (fun _ => False) s.heap s.heap [] := va_S.rf
  have hk : hw_K (dC, dI) vwCl (ty3 cI cZ cJ) (fun _ => False) s := ⟨hK, hN, hZ⟩
  have hiX2 : ∀ w ∈ u_ws RX2 TX2 2, w ∈ wsX2_count := by decide +kernel
  have hl := lv_entry ([.ref hb0]) (n := 1) (Nat.le_of_ble_eq_true rfl)
  rw [lg_entry_eq]
  generalize (lg_sl ([.ref hb0]) ++ List.replicate (1 - (lg_sl ([.ref hb0])).length) Slot.unset).toArray = ls at hl ⊢
  have hl : lv_has ls 1 [(0, .ref hb0)] := hl
  refine lv_aload_n hx hb dX2_count_0 rfl (lv_at hl 0 rfl) ?_
  refine va_get (D := (dC, dI)) (ci := 1) (v := .int (nI k)) (C := RX2) (T := TX2) (N := 2) hx hb hts hiX2 hown hK hP 0 rfl rfl 1 (by decide) (hts (.fieldLink RX2 13 "RefineRegions$ByteRow" "size" "I") (by decide +kernel)) (fun _ h9 => h9) rfl dX2_count_1 ?_
  exact W.iret (v := nI k) hx hb hr (fun t ht hW => ⟨nI k, rfl, rfl, ht⟩) hS.2.2 dX2_count_4

set_option maxHeartbeats 4000000 in
set_option maxRecDepth 100000 in
/-- clear() -/
theorem c_X2_clear (l : Launch) (dC : Nat → ClassId) (dI : Nat → Nat → Nat) (cI cZ cJ : ClassId) (hb0 : Nat) (ha : Nat) (k : Nat) (f : Nat → Int32) (sz : Nat) : Met l yX2_clear wsX2_clear ({ frames := 0, cells := 0, slots := 0, locals := 0 }) (hw_Pre (dC, dI) vwCl (ty3 cI cZ cJ) [(hb0, .inr (1, [.ref ha, .int (nI k)])), (ha, .inl (cI, 4096, .inl f))] sz [.ref hb0]) (va_Qv (fun _ : Unit => True) (hw_at (dC, dI) vwCl (ty3 cI cZ cJ) (fun _ : Unit => [(hb0, .inr (1, [.ref ha, .int (nI 0)])), (ha, .inl (cI, 4096, .inl f))]) (va_A [(hb0, .inr (1, [.ref ha, .int (nI k)])), (ha, .inl (cI, 4096, .inl f))] sz)) (va_A [(hb0, .inr (1, [.ref ha, .int (nI k)])), (ha, .inl (cI, 4096, .inl f))] sz)) 0 0 (va_A [(hb0, .inr (1, [.ref ha, .int (nI k)])), (ha, .inl (cI, 4096, .inl f))] sz) := by
  refine Met.ofW (cc := cX2_clear) (maxL := 1) (ret := none) (by decide) rfl ?_
  intro pg ev s m args below meth cd s₁ B hml hv
  obtain ⟨rfl, hsz, hP, hK, hN, hZ, hD0⟩ := hv
  have hx := B.exec
  have hb := B.bytes
  have hr := B.returns
  have hts := atoms_spec (ws := wsX2_clear) B.pre
  have hown : s.vm.findClass RX2 = some m.cls := findClass_of_methodNamed B.named
  have hlocks := B.notSynchronized
  subst hsz
  have hD := hD0.self (sz := s.heap.size)
  generalize hAe : va_A [(hb0, .inr (1, [.ref ha, .int (nI k)])), (ha, .inl (cI, 4096, .inl f))] s.heap.size = A at hD hZ ⊢
  have hA : ∀ q : Nat, s.heap.size ≤ q → A q := fun q h => by rw [← hAe]; exact Or.inr h
  have hS : va_S A s.heap s.heap [] := va_S.rf
  have hk : hw_K (dC, dI) vwCl (ty3 cI cZ cJ) A s := ⟨hK, hN, hZ⟩
  have hiX2 : ∀ w ∈ u_ws RX2 TX2 2, w ∈ wsX2_clear := by decide +kernel
  have hl := lv_entry ([.ref hb0]) (n := 1) (Nat.le_of_ble_eq_true rfl)
  rw [lg_entry_eq]
  generalize (lg_sl ([.ref hb0]) ++ List.replicate (1 - (lg_sl ([.ref hb0])).length) Slot.unset).toArray = ls at hl ⊢
  have hl : lv_has ls 1 [(0, .ref hb0)] := hl
  refine lv_aload_n hx hb dX2_clear_0 rfl (lv_at hl 0 rfl) ?_
  refine lv_iconst (v := 0) hx hb dX2_clear_1 (by decide) ?_
  refine va_put (D := (dC, dI)) (ci := 1) (v := .int 0) (ty := .int) (C := RX2) (T := TX2) (N := 2) hx hb hts hiX2 tyX2 tyX2_ok nmX2 hown hK hP hD hS 0 rfl rfl 1 (by decide) (hts (.fieldLink RX2 13 "RefineRegions$ByteRow" "size" "I") (by decide +kernel)) (fun _ h9 => h9) rfl (by decide +kernel) rfl rfl (Nat.le_of_ble_eq_true rfl) dX2_clear_2 (fun H locs hP hD hS => ?_)
  have hP : va_P (dC, dI) vwCl [(hb0, .inr (1, [.ref ha, .int 0])), (ha, .inl (cI, 4096, .inl f))] H := hP
  have hD : va_D A [(hb0, .inr (1, [.ref ha, .int 0])), (ha, .inl (cI, 4096, .inl f))] := hD
  have hP9 := hP
  have hD9 := hD
  exact W.vret hx hb hr (fun t ht hW => ⟨⟨(), rfl, trivial, by rw [ht]; exact hP9, va_K.moved hW.alike hK, hD9⟩, hS.F ht⟩) hS.2.2 dX2_clear_5

set_option maxHeartbeats 4000000 in
set_option maxRecDepth 100000 in
/-- hasRoomFor(n) -/
theorem c_X2_hasRoomFor (l : Launch) (dC : Nat → ClassId) (dI : Nat → Nat → Nat) (cI cZ cJ : ClassId) (hb0 : Nat) (ha : Nat) (k : Nat) (f : Nat → Int32) (n : Nat) (hk : k ≤ 4096) (hn : n ≤ 8) : Met l yX2_hasRoomFor wsX2_hasRoomFor ({ frames := 0, cells := 0, slots := 0, locals := 0 }) (hw_Ro (dC, dI) vwCl (ty3 cI cZ cJ) [(hb0, .inr (1, [.ref ha, .int (nI k)])), (ha, .inl (cI, 4096, .inl f))] [.ref hb0, .int (nI n)]) (vp_Si (fun r => r = (if n ≤ 4096 - k then 1 else 0 : Int32))) 0 0 (fun _ => False) := by
  refine Met.ofW (cc := cX2_hasRoomFor) (maxL := 2) (ret := (some .boolean)) (by decide) rfl ?_
  intro pg ev s m args below meth cd s₁ B hml hv
  obtain ⟨rfl, hP, hK, hN, hZ⟩ := hv
  have hx := B.exec
  have hb := B.bytes
  have hr := B.returns
  have hts := atoms_spec (ws := wsX2_hasRoomFor) B.pre
  have hown : s.vm.findClass RX2 = some m.cls := findClass_of_methodNamed B.named
  have hlocks := B.notSynchronized
  have hS : va_S (fun _ => False) s.heap s.heap [] := va_S.rf
  have hk : hw_K (dC, dI) vwCl (ty3 cI cZ cJ) (fun _ => False) s := ⟨hK, hN, hZ⟩
  have hiX2 : ∀ w ∈ u_ws RX2 TX2 2, w ∈ wsX2_hasRoomFor := by decide +kernel
  have hk0 : k ≤ 4096 := by assumption
  have hl := lv_entry ([.ref hb0, .int (nI n)]) (n := 2) (Nat.le_of_ble_eq_true rfl)
  rw [lg_entry_eq]
  generalize (lg_sl ([.ref hb0, .int (nI n)]) ++ List.replicate (2 - (lg_sl ([.ref hb0, .int (nI n)])).length) Slot.unset).toArray = ls at hl ⊢
  have hl : lv_has ls 2 [(0, .ref hb0), (1, .int (nI n))] := hl
  refine lv_iload_n hx hb dX2_hasRoomFor_0 rfl (lv_at hl 1 rfl) ?_
  refine lv_sipush (v := 4096) hx hb dX2_hasRoomFor_1 (by decide) ?_
  refine lv_aload_n hx hb dX2_hasRoomFor_4 rfl (lv_at hl 0 rfl) ?_
  refine va_get (D := (dC, dI)) (ci := 1) (v := .int (nI k)) (C := RX2) (T := TX2) (N := 2) hx hb hts hiX2 hown hK hP 0 rfl rfl 1 (by decide) (hts (.fieldLink RX2 13 "RefineRegions$ByteRow" "size" "I") (by decide +kernel)) (fun _ h9 => h9) rfl dX2_hasRoomFor_5 ?_
  refine lv_isub hx hb dX2_hasRoomFor_8 ?_
  refine hw_i (y := nI (4096 - k)) (by rw [show (4096 : Int32) = nI 4096 from rfl]; exact pk_sub hk0) ?_
  refine lv_icmp_gt (tgt := 16) hx hb dX2_hasRoomFor_9 (by decide) (fun c_9 => ?_) (fun c_9 => ?_)
  · refine lv_iconst (v := 0) hx hb dX2_hasRoomFor_16 (by decide) ?_
    exact W.zret (v := 0) hx hb hr (by decide +kernel) (fun t ht hW => ⟨0, rfl, (if_neg (by rw [nI_ltI (by omega) (by omega)] at c_9; omega)).symm, ht⟩) hS.2.2 dX2_hasRoomFor_17
  · refine lv_iconst (v := 1) hx hb dX2_hasRoomFor_12 (by decide) ?_
    refine lv_goto (tgt := 17) hx hb dX2_hasRoomFor_13 (by decide) ?_
    exact W.zret (v := 1) hx hb hr (by decide +kernel) (fun t ht hW => ⟨1, rfl, (if_pos (by rw [nI_ltI (by omega) (by omega)] at c_9; omega)).symm, ht⟩) hS.2.2 dX2_hasRoomFor_17

set_option maxHeartbeats 4000000 in
set_option maxRecDepth 100000 in
/-- append(v), where there is room -/
theorem c_X2_append (l : Launch) (dC : Nat → ClassId) (dI : Nat → Nat → Nat) (cI cZ cJ : ClassId) (hb0 : Nat) (ha : Nat) (k : Nat) (f : Nat → Int32) (v : Int32) (hk0 : k < 4096) (sz : Nat) : Met l yX2_append wsX2_append ({ frames := 0, cells := 0, slots := 0, locals := 0 }) (hw_Pre (dC, dI) vwCl (ty3 cI cZ cJ) [(hb0, .inr (1, [.ref ha, .int (nI k)])), (ha, .inl (cI, 4096, .inl f))] sz [.ref hb0, .int v]) (va_Qv (fun _ : Unit => True) (hw_at (dC, dI) vwCl (ty3 cI cZ cJ) (fun _ : Unit => [(hb0, .inr (1, [.ref ha, .int (nI (k + 1))])), (ha, .inl (cI, 4096, .inl (upd f k v)))]) (va_A [(hb0, .inr (1, [.ref ha, .int (nI k)])), (ha, .inl (cI, 4096, .inl f))] sz)) (va_A [(hb0, .inr (1, [.ref ha, .int (nI k)])), (ha, .inl (cI, 4096, .inl f))] sz)) 0 0 (va_A [(hb0, .inr (1, [.ref ha, .int (nI k)])), (ha, .inl (cI, 4096, .inl f))] sz) := by
  refine Met.ofW (cc := cX2_append) (maxL := 2) (ret := none) (by decide) rfl ?_
  intro pg ev s m args below meth cd s₁ B hml hv
  obtain ⟨rfl, hsz, hP, hK, hN, hZ, hD0⟩ := hv
  have hx := B.exec
  have hb := B.bytes
  have hr := B.returns
  have hts := atoms_spec (ws := wsX2_append) B.pre
  have hown : s.vm.findClass RX2 = some m.cls := findClass_of_methodNamed B.named
  have hlocks := B.notSynchronized
  subst hsz
  have hD := hD0.self (sz := s.heap.size)
  generalize hAe : va_A [(hb0, .inr (1, [.ref ha, .int (nI k)])), (ha, .inl (cI, 4096, .inl f))] s.heap.size = A at hD hZ ⊢
  have hA : ∀ q : Nat, s.heap.size ≤ q → A q := fun q h => by rw [← hAe]; exact Or.inr h
  have hS : va_S A s.heap s.heap [] := va_S.rf
  have hk : hw_K (dC, dI) vwCl (ty3 cI cZ cJ) A s := ⟨hK, hN, hZ⟩
  have hiX2 : ∀ w ∈ u_ws RX2 TX2 2, w ∈ wsX2_append := by decide +kernel
  have hl := lv_entry ([.ref hb0, .int v]) (n := 2) (Nat.le_of_ble_eq_true rfl)
  rw [lg_entry_eq]
  generalize (lg_sl ([.ref hb0, .int v]) ++ List.replicate (2 - (lg_sl ([.ref hb0, .int v])).length) Slot.unset).toArray = ls at hl ⊢
  have hl : lv_has ls 2 [(0, .ref hb0), (1, .int v)] := hl
  refine lv_aload_n hx hb dX2_append_0 rfl (lv_at hl 0 rfl) ?_
  refine va_get (D := (dC, dI)) (ci := 1) (v := .int (nI k)) (C := RX2) (T := TX2) (N := 2) hx hb hts hiX2 hown hK hP 0 rfl rfl 1 (by decide) (hts (.fieldLink RX2 13 "RefineRegions$ByteRow" "size" "I") (by decide +kernel)) (fun _ h9 => h9) rfl dX2_append_1 ?_
  refine lv_sipush (v := 4096) hx hb dX2_append_4 (by decide) ?_
  refine lv_icmp_ge (tgt := 30) hx hb dX2_append_7 (by decide) (fun c_7 => absurd c_7 (by rw [show (4096 : Int32) = nI 4096 from rfl, nI_leI (by omega) (by omega)]; omega)) (fun c_7 => ?_)
  refine lv_aload_n hx hb dX2_append_10 rfl (lv_at hl 0 rfl) ?_
  refine va_get (D := (dC, dI)) (ci := 1) (v := .ref ha) (C := RX2) (T := TX2) (N := 2) hx hb hts hiX2 hown hK hP 0 rfl rfl 0 (by decide) (hts (.fieldLink RX2 9 "RefineRegions$ByteRow" "values" "[I") (by decide +kernel)) (fun _ h9 => h9) rfl dX2_append_11 ?_
  refine lv_aload_n hx hb dX2_append_14 rfl (lv_at hl 0 rfl) ?_
  refine va_get (D := (dC, dI)) (ci := 1) (v := .int (nI k)) (C := RX2) (T := TX2) (N := 2) hx hb hts hiX2 hown hK hP 0 rfl rfl 1 (by decide) (hts (.fieldLink RX2 13 "RefineRegions$ByteRow" "size" "I") (by decide +kernel)) (fun _ h9 => h9) rfl dX2_append_15 ?_
  refine lv_iload_n hx hb dX2_append_18 rfl (lv_at hl 1 rfl) ?_
  refine va_iast hx hb hK hP hD hS 1 0 rfl rfl (vp_in_nI hk0 (by omega)) dX2_append_19 (fun H locs hP hD hS => ?_)
  have eA : upd f (nI k).toNatClampNeg v = upd f k v := by rw [nI_clamp (by omega)]
  rw [eA] at hP hD
  have hP : va_P (dC, dI) vwCl [(hb0, .inr (1, [.ref ha, .int (nI k)])), (ha, .inl (cI, 4096, .inl (upd f k v)))] H := hP
  have hD : va_D A [(hb0, .inr (1, [.ref ha, .int (nI k)])), (ha, .inl (cI, 4096, .inl (upd f k v)))] := hD
  refine lv_aload_n hx hb dX2_append_20 rfl (lv_at hl 0 rfl) ?_
  refine lv_dup hx hb dX2_append_21 rfl ?_
  refine va_get (D := (dC, dI)) (ci := 1) (v := .int (nI k)) (C := RX2) (T := TX2) (N := 2) hx hb hts hiX2 hown hK hP 0 rfl rfl 1 (by decide) (hts (.fieldLink RX2 13 "RefineRegions$ByteRow" "size" "I") (by decide +kernel)) (fun _ h9 => h9) rfl dX2_append_22 ?_
  refine lv_iconst (v := 1) hx hb dX2_append_25 (by decide) ?_
  refine lv_iadd hx hb dX2_append_26 ?_
  refine hw_i (y := nI (k + 1)) (nI_1 k) ?_
  refine va_put (D := (dC, dI)) (ci := 1) (v := .int (nI (k + 1))) (ty := .int) (C := RX2) (T := TX2) (N := 2) hx hb hts hiX2 tyX2 tyX2_ok nmX2 hown hK hP hD hS 0 rfl rfl 1 (by decide) (hts (.fieldLink RX2 13 "RefineRegions$ByteRow" "size" "I") (by decide +kernel)) (fun _ h9 => h9) rfl (by decide +kernel) rfl rfl (Nat.le_of_ble_eq_true rfl) dX2_append_27 (fun H locs hP hD hS => ?_)
  have hP : va_P (dC, dI) vwCl [(hb0, .inr (1, [.ref ha, .int (nI (k + 1))])), (ha, .inl (cI, 4096, .inl (upd f k v)))] H := hP
  have hD : va_D A [(hb0, .inr (1, [.ref ha, .int (nI (k + 1))])), (ha, .inl (cI, 4096, .inl (upd f k v)))] := hD
  have hP9 := hP
  have hD9 := hD
  exact W.vret hx hb hr (fun t ht hW => ⟨⟨(), rfl, trivial, by rw [ht]; exact hP9, va_K.moved hW.alike hK, hD9⟩, hS.F ht⟩) hS.2.2 dX2_append_30

set_option maxHeartbeats 4000000 in
set_option maxRecDepth 100000 in
/-- valueOr(i, o) -/
theorem c_X2_valueOr (l : Launch) (dC : Nat → ClassId) (dI : Nat → Nat → Nat) (cI cZ cJ : ClassId) (hb0 : Nat) (ha : Nat) (k : Nat) (f : Nat → Int32) (i : Int32) (o : Int32) (hk0 : k ≤ 4096) : Met l yX2_valueOr wsX2_valueOr ({ frames := 0, cells := 0, slots := 0, locals := 0 }) (hw_Ro (dC, dI) vwCl (ty3 cI cZ cJ) [(hb0, .inr (1, [.ref ha, .int (nI k)])), (ha, .inl (cI, 4096, .inl f))] [.ref hb0, .int i, .int o]) (vp_Si (fun r => r = sp_vo k f i o)) 0 0 (fun _ => False) := by
  refine Met.ofW (cc := cX2_valueOr) (maxL := 3) (ret := (some .int)) (by decide) rfl ?_
  intro pg ev s m args below meth cd s₁ B hml hv
  obtain ⟨rfl, hP, hK, hN, hZ⟩ := hv
  have hx := B.exec
  have hb := B.bytes
  have hr := B.returns
  have hts := atoms_spec (ws := wsX2_valueOr) B.pre
  have hown : s.vm.findClass RX2 = some m.cls := findClass_of_methodNamed B.named
  have hlocks := B.notSynchronized
  have hS : va_S (fun _ => False) s.heap s.heap [] := va_S.rf
  have hk : hw_K (dC, dI) vwCl (ty3 cI cZ cJ) (fun _ => False) s := ⟨hK, hN, hZ⟩
  have hiX2 : ∀ w ∈ u_ws RX2 TX2 2, w ∈ wsX2_valueOr := by decide +kernel
  have hl := lv_entry ([.ref hb0, .int i, .int o]) (n := 3) (Nat.le_of_ble_eq_true rfl)
  rw [lg_entry_eq]
  generalize (lg_sl ([.ref hb0, .int i, .int o]) ++ List.replicate (3 - (lg_sl ([.ref hb0, .int i, .int o])).length) Slot.unset).toArray = ls at hl ⊢
  have hl : lv_has ls 3 [(0, .ref hb0), (1, .int i), (2, .int o)] := hl
  refine lv_iload_n hx hb dX2_valueOr_0 rfl (lv_at hl 1 rfl) ?_
  refine lv_if_lt (tgt := 21) hx hb dX2_valueOr_1 (by decide) (fun c_1 => ?_) (fun c_1 => ?_)
  · refine lv_iload_n hx hb dX2_valueOr_21 rfl (lv_at hl 2 rfl) ?_
    exact W.iret (v := o) hx hb hr (fun t ht hW => ⟨o, rfl, (sp_vo_out (by first | exact Or.inl c_1 | exact Or.inr c_9)).symm, ht⟩) hS.2.2 dX2_valueOr_22
  · refine lv_iload_n hx hb dX2_valueOr_4 rfl (lv_at hl 1 rfl) ?_
    refine lv_aload_n hx hb dX2_valueOr_5 rfl (lv_at hl 0 rfl) ?_
    refine va_get (D := (dC, dI)) (ci := 1) (v := .int (nI k)) (C := RX2) (T := TX2) (N := 2) hx hb hts hiX2 hown hK hP 0 rfl rfl 1 (by decide) (hts (.fieldLink RX2 13 "RefineRegions$ByteRow" "size" "I") (by decide +kernel)) (fun _ h9 => h9) rfl dX2_valueOr_6 ?_
    refine lv_icmp_ge (tgt := 21) hx hb dX2_valueOr_9 (by decide) (fun c_9 => ?_) (fun c_9 => ?_)
    · refine lv_iload_n hx hb dX2_valueOr_21 rfl (lv_at hl 2 rfl) ?_
      exact W.iret (v := o) hx hb hr (fun t ht hW => ⟨o, rfl, (sp_vo_out (by first | exact Or.inl c_1 | exact Or.inr c_9)).symm, ht⟩) hS.2.2 dX2_valueOr_22
    · refine lv_aload_n hx hb dX2_valueOr_12 rfl (lv_at hl 0 rfl) ?_
      refine va_get (D := (dC, dI)) (ci := 1) (v := .ref ha) (C := RX2) (T := TX2) (N := 2) hx hb hts hiX2 hown hK hP 0 rfl rfl 0 (by decide) (hts (.fieldLink RX2 9 "RefineRegions$ByteRow" "values" "[I") (by decide +kernel)) (fun _ h9 => h9) rfl dX2_valueOr_13 ?_
      refine lv_iload_n hx hb dX2_valueOr_16 rfl (lv_at hl 1 rfl) ?_
      refine va_iald hx hb hK hP 1 0 rfl rfl (sp_vo_ix hk0 c_1 c_9) dX2_valueOr_17 ?_
      refine lv_goto (tgt := 22) hx hb dX2_valueOr_18 (by decide) ?_
      exact W.iret (v := f i.toNatClampNeg) hx hb hr (fun t ht hW => ⟨f i.toNatClampNeg, rfl, (sp_vo_in c_1 c_9).symm, ht⟩) hS.2.2 dX2_valueOr_22

set_option maxHeartbeats 4000000 in
set_option maxRecDepth 100000 in
/-- last() -/
theorem c_X2_last (l : Launch) (dC : Nat → ClassId) (dI : Nat → Nat → Nat) (cI cZ cJ : ClassId) (hb0 : Nat) (ha : Nat) (k : Nat) (f : Nat → Int32) (hk0 : k ≤ 4096) : Met l yX2_last wsX2_last ({ frames := 1, cells := 0, slots := 0, locals := 22 }) (hw_Ro (dC, dI) vwCl (ty3 cI cZ cJ) [(hb0, .inr (1, [.ref ha, .int (nI k)])), (ha, .inl (cI, 4096, .inl f))] [.ref hb0]) (vp_Si (fun r => r = sp_last k f)) 0 0 (fun _ => False) := by
  refine Met.ofW (cc := cX2_last) (maxL := 1) (ret := (some .int)) (by decide) rfl ?_
  intro pg ev s m args below meth cd s₁ B hml hv
  obtain ⟨rfl, hP, hK, hN, hZ⟩ := hv
  have hx := B.exec
  have hb := B.bytes
  have hr := B.returns
  have hts := atoms_spec (ws := wsX2_last) B.pre
  have hown : s.vm.findClass RX2 = some m.cls := findClass_of_methodNamed B.named
  have hlocks := B.notSynchronized
  have hS : va_S (fun _ => False) s.heap s.heap [] := va_S.rf
  have hk : hw_K (dC, dI) vwCl (ty3 cI cZ cJ) (fun _ => False) s := ⟨hK, hN, hZ⟩
  have hiX2 : ∀ w ∈ u_ws RX2 TX2 2, w ∈ wsX2_last := by decide +kernel
  have hl := lv_entry ([.ref hb0]) (n := 1) (Nat.le_of_ble_eq_true rfl)
  rw [lg_entry_eq]
  generalize (lg_sl ([.ref hb0]) ++ List.replicate (1 - (lg_sl ([.ref hb0])).length) Slot.unset).toArray = ls at hl ⊢
  have hl : lv_has ls 1 [(0, .ref hb0)] := hl
  refine lv_aload_n hx hb dX2_last_0 rfl (lv_at hl 0 rfl) ?_
  refine lv_aload_n hx hb dX2_last_1 rfl (lv_at hl 0 rfl) ?_
  refine va_get (D := (dC, dI)) (ci := 1) (v := .int (nI k)) (C := RX2) (T := TX2) (N := 2) hx hb hts hiX2 hown hK hP 0 rfl rfl 1 (by decide) (hts (.fieldLink RX2 13 "RefineRegions$ByteRow" "size" "I") (by decide +kernel)) (fun _ h9 => h9) rfl dX2_last_2 ?_
  refine lv_iconst (v := 1) hx hb dX2_last_5 (by decide) ?_
  refine lv_isub hx hb dX2_last_6 ?_
  refine lv_iconst (v := 0) hx hb dX2_last_7 (by decide) ?_
  refine hw_callSe (va_runV (As := [.int ((nI k) - 1), .int 0]) (rest := []) ⟨hx, hb, hml, hown, hts⟩ (c_X2_valueOr l dC dI cI cZ cJ hb0 ha k f (nI k - 1) 0 (hk0)) (cwV 2 hts gX2_last_X2_valueOr rfl rfl rfl (by decide +kernel) ⟨Nat.le_of_ble_eq_true rfl, Nat.le_of_ble_eq_true rfl⟩) (hw_roV hP hS hk [0, 1] rfl (ci := 1) (q0 := 0) rfl rfl) rfl rfl hl.1 rfl (lv_room (Nat.le_of_ble_eq_true rfl)) dX2_last_8 ⟨Nat.le_of_ble_eq_true rfl, Nat.le_of_ble_eq_true rfl⟩) ?_
  exact W.iret (v := sp_vo k f (nI k - 1) 0) hx hb hr (fun t ht hW => ⟨sp_vo k f (nI k - 1) 0, rfl, sp_vo_last hk0, ht⟩) hS.2.2 dX2_last_11

set_option maxHeartbeats 4000000 in
set_option maxRecDepth 100000 in
/-- raiseLast(), where there is one -/
theorem c_X2_raiseLast (l : Launch) (dC : Nat → ClassId) (dI : Nat → Nat → Nat) (cI cZ cJ : ClassId) (hb0 : Nat) (ha : Nat) (k : Nat) (f : Nat → Int32) (hk0 : k ≤ 4096) (hk1 : 1 ≤ k) (sz : Nat) : Met l yX2_raiseLast wsX2_raiseLast ({ frames := 0, cells := 0, slots := 0, locals := 0 }) (hw_Pre (dC, dI) vwCl (ty3 cI cZ cJ) [(hb0, .inr (1, [.ref ha, .int (nI k)])), (ha, .inl (cI, 4096, .inl f))] sz [.ref hb0]) (va_Qv (fun _ : Unit => True) (hw_at (dC, dI) vwCl (ty3 cI cZ cJ) (fun _ : Unit => [(hb0, .inr (1, [.ref ha, .int (nI k)])), (ha, .inl (cI, 4096, .inl (upd f (k - 1) (f (k - 1) + 1))))]) (va_A [(hb0, .inr (1, [.ref ha, .int (nI k)])), (ha, .inl (cI, 4096, .inl f))] sz)) (va_A [(hb0, .inr (1, [.ref ha, .int (nI k)])), (ha, .inl (cI, 4096, .inl f))] sz)) 0 0 (va_A [(hb0, .inr (1, [.ref ha, .int (nI k)])), (ha, .inl (cI, 4096, .inl f))] sz) := by
  refine Met.ofW (cc := cX2_raiseLast) (maxL := 1) (ret := none) (by decide) rfl ?_
  intro pg ev s m args below meth cd s₁ B hml hv
  obtain ⟨rfl, hsz, hP, hK, hN, hZ, hD0⟩ := hv
  have hx := B.exec
  have hb := B.bytes
  have hr := B.returns
  have hts := atoms_spec (ws := wsX2_raiseLast) B.pre
  have hown : s.vm.findClass RX2 = some m.cls := findClass_of_methodNamed B.named
  have hlocks := B.notSynchronized
  subst hsz
  have hD := hD0.self (sz := s.heap.size)
  generalize hAe : va_A [(hb0, .inr (1, [.ref ha, .int (nI k)])), (ha, .inl (cI, 4096, .inl f))] s.heap.size = A at hD hZ ⊢
  have hA : ∀ q : Nat, s.heap.size ≤ q → A q := fun q h => by rw [← hAe]; exact Or.inr h
  have hS : va_S A s.heap s.heap [] := va_S.rf
  have hk : hw_K (dC, dI) vwCl (ty3 cI cZ cJ) A s := ⟨hK, hN, hZ⟩
  have hiX2 : ∀ w ∈ u_ws RX2 TX2 2, w ∈ wsX2_raiseLast := by decide +kernel
  have hl := lv_entry ([.ref hb0]) (n := 1) (Nat.le_of_ble_eq_true rfl)
  rw [lg_entry_eq]
  generalize (lg_sl ([.ref hb0]) ++ List.replicate (1 - (lg_sl ([.ref hb0])).length) Slot.unset).toArray = ls at hl ⊢
  have hl : lv_has ls 1 [(0, .ref hb0)] := hl
  refine lv_aload_n hx hb dX2_raiseLast_0 rfl (lv_at hl 0 rfl) ?_
  refine va_get (D := (dC, dI)) (ci := 1) (v := .int (nI k)) (C := RX2) (T := TX2) (N := 2) hx hb hts hiX2 hown hK hP 0 rfl rfl 1 (by decide) (hts (.fieldLink RX2 13 "RefineRegions$ByteRow" "size" "I") (by decide +kernel)) (fun _ h9 => h9) rfl dX2_raiseLast_1 ?_
  refine lv_if_le (tgt := 22) hx hb dX2_raiseLast_4 (by decide) (fun c_4 => absurd c_4 (nI_nle (by omega) (by omega))) (fun c_4 => ?_)
  refine lv_aload_n hx hb dX2_raiseLast_7 rfl (lv_at hl 0 rfl) ?_
  refine va_get (D := (dC, dI)) (ci := 1) (v := .ref ha) (C := RX2) (T := TX2) (N := 2) hx hb hts hiX2 hown hK hP 0 rfl rfl 0 (by decide) (hts (.fieldLink RX2 9 "RefineRegions$ByteRow" "values" "[I") (by decide +kernel)) (fun _ h9 => h9) rfl dX2_raiseLast_8 ?_
  refine lv_aload_n hx hb dX2_raiseLast_11 rfl (lv_at hl 0 rfl) ?_
  refine va_get (D := (dC, dI)) (ci := 1) (v := .int (nI k)) (C := RX2) (T := TX2) (N := 2) hx hb hts hiX2 hown hK hP 0 rfl rfl 1 (by decide) (hts (.fieldLink RX2 13 "RefineRegions$ByteRow" "size" "I") (by decide +kernel)) (fun _ h9 => h9) rfl dX2_raiseLast_12 ?_
  refine lv_iconst (v := 1) hx hb dX2_raiseLast_15 (by decide) ?_
  refine lv_isub hx hb dX2_raiseLast_16 ?_
  refine hw_i (y := nI (k - 1)) (by rw [show (1 : Int32) = nI 1 from rfl]; exact pk_sub hk1) ?_
  refine lv_dup2_11 hx hb dX2_raiseLast_17 rfl rfl ?_
  refine va_iald hx hb hK hP 1 0 rfl rfl (vp_in_nI (by omega) (by omega)) dX2_raiseLast_18 ?_
  refine hw_i (y := f (k - 1)) (by rw [nI_clamp (by omega)]) ?_
  refine lv_iconst (v := 1) hx hb dX2_raiseLast_19 (by decide) ?_
  refine lv_iadd hx hb dX2_raiseLast_20 ?_
  refine va_iast hx hb hK hP hD hS 1 0 rfl rfl (vp_in_nI (by omega) (by omega)) dX2_raiseLast_21 (fun H locs hP hD hS => ?_)
  have eA : upd f (nI (k - 1)).toNatClampNeg ((f (k - 1)) + 1) = upd f (k - 1) (f (k - 1) + 1) := by rw [nI_clamp (by omega)]
  rw [eA] at hP hD
  have hP : va_P (dC, dI) vwCl [(hb0, .inr (1, [.ref ha, .int (nI k)])), (ha, .inl (cI, 4096, .inl (upd f (k - 1) (f (k - 1) + 1))))] H := hP
  have hD : va_D A [(hb0, .inr (1, [.ref ha, .int (nI k)])), (ha, .inl (cI, 4096, .inl (upd f (k - 1) (f (k - 1) + 1))))] := hD
  have hP9 := hP
  have hD9 := hD
  exact W.vret hx hb hr (fun t ht hW => ⟨⟨(), rfl, trivial, by rw [ht]; exact hP9, va_K.moved hW.alike hK, hD9⟩, hS.F ht⟩) hS.2.2 dX2_raiseLast_22

set_option maxHeartbeats 4000000 in
set_option maxRecDepth 100000 in
/-- forget() -/
theorem c_X4_forget (l : Launch) (dC : Nat → ClassId) (dI : Nat → Nat → Nat) (cI cZ cJ : ClassId) (hs : Nat) (ha : Nat) (S : Nat → Nat) (sz : Nat) : Met l yX4_forget wsX4_forget ({ frames := 1, cells := 0, slots := 0, locals := 23 }) (hw_Pre (dC, dI) vwCl (ty3 cI cZ cJ) [(hs, .inr (3, [.ref ha])), (ha, .inl (cI, 8192, .inl (fun j => nI (S j))))] sz [.ref hs]) (va_Qv (fun _ : Unit => True) (hw_at (dC, dI) vwCl (ty3 cI cZ cJ) (fun _ : Unit => [(hs, .inr (3, [.ref ha])), (ha, .inl (cI, 8192, .inl (fun j => nI ((fun _ => 0) j))))]) (va_A [(hs, .inr (3, [.ref ha])), (ha, .inl (cI, 8192, .inl (fun j => nI (S j))))] sz)) (va_A [(hs, .inr (3, [.ref ha])), (ha, .inl (cI, 8192, .inl (fun j => nI (S j))))] sz)) 0 0 (va_A [(hs, .inr (3, [.ref ha])), (ha, .inl (cI, 8192, .inl (fun j => nI (S j))))] sz) := by
  refine Met.ofW (cc := cX4_forget) (maxL := 1) (ret := none) (by decide) rfl ?_
  intro pg ev s m args below meth cd s₁ B hml hv
  obtain ⟨rfl, hsz, hP, hK, hN, hZ, hD0⟩ := hv
  have hx := B.exec
  have hb := B.bytes
  have hr := B.returns
  have hts := atoms_spec (ws := wsX4_forget) B.pre
  have hown : s.vm.findClass RX4 = some m.cls := findClass_of_methodNamed B.named
  have hlocks := B.notSynchronized
  subst hsz
  have hD := hD0.self (sz := s.heap.size)
  generalize hAe : va_A [(hs, .inr (3, [.ref ha])), (ha, .inl (cI, 8192, .inl (fun j => nI (S j))))] s.heap.size = A at hD hZ ⊢
  have hA : ∀ q : Nat, s.heap.size ≤ q → A q := fun q h => by rw [← hAe]; exact Or.inr h
  have hS : va_S A s.heap s.heap [] := va_S.rf
  have hk : hw_K (dC, dI) vwCl (ty3 cI cZ cJ) A s := ⟨hK, hN, hZ⟩
  have hiX4 : ∀ w ∈ u_ws RX4 TX4 1, w ∈ wsX4_forget := by decide +kernel
  have hl := lv_entry ([.ref hs]) (n := 1) (Nat.le_of_ble_eq_true rfl)
  rw [lg_entry_eq]
  generalize (lg_sl ([.ref hs]) ++ List.replicate (1 - (lg_sl ([.ref hs])).length) Slot.unset).toArray = ls at hl ⊢
  have hl : lv_has ls 1 [(0, .ref hs)] := hl
  refine lv_aload_n hx hb dX4_forget_0 rfl (lv_at hl 0 rfl) ?_
  refine va_get (D := (dC, dI)) (ci := 3) (v := .ref ha) (C := RX4) (T := TX4) (N := 1) hx hb hts hiX4 hown hK hP 0 rfl rfl 0 (by decide) (hts (.fieldLink RX4 9 "RefineRegions$States" "packed" "[I") (by decide +kernel)) (fun _ h9 => h9) rfl dX4_forget_1 ?_
  refine lv_iconst (v := 0) hx hb dX4_forget_4 (by decide) ?_
  refine hw_callv (wr := [(hs, .inr (3, [.ref ha]))]) (w2 := fun _ : Unit => [(hs, .inr (3, [.ref ha])), (ha, .inl (cI, 8192, .inl (fun _ => 0)))]) (va_runS (As := [.ref ha, .int 0]) (rest := []) ⟨hx, hb, hml, hown, hts⟩ (c_fill l dC dI cI cZ cJ ha 8192 (fun j => nI (S j)) 0 (by decide) s.heap.size) (va_cwS 2 hts gX4_forget_J7_fill_53178 rfl rfl rfl (by decide +kernel) ⟨Nat.le_of_ble_eq_true rfl, Nat.le_of_ble_eq_true rfl⟩) (hw_pre hP hD hS hA hk [1] (by decide) rfl) rfl rfl hl.1 rfl (lv_room (Nat.le_of_ble_eq_true rfl)) dX4_forget_5 ⟨Nat.le_of_ble_eq_true rfl, Nat.le_of_ble_eq_true rfl⟩) hP hD hS hA [1] [0] [0, 1] rfl rfl (by decide) (by decide) (by decide) (fun _ => rfl) (fun u_5 H locs hw hP hD hS => ?_)
  have hP : va_P (dC, dI) vwCl [(hs, .inr (3, [.ref ha])), (ha, .inl (cI, 8192, .inl (fun _ => 0)))] H := hP
  have hD : va_D A [(hs, .inr (3, [.ref ha])), (ha, .inl (cI, 8192, .inl (fun _ => 0)))] := hD
  have hP9 := hP
  have hD9 := hD
  exact W.vret hx hb hr (fun t ht hW => ⟨⟨(), rfl, trivial, by rw [ht]; exact hP9, va_K.moved hW.alike hK, hD9⟩, hS.F ht⟩) hS.2.2 dX4_forget_8

set_option maxHeartbeats 4000000 in
set_option maxRecDepth 100000 in
/-- entry(state, column) -/
theorem c_X4_entry (l : Launch) (dC : Nat → ClassId) (dI : Nat → Nat → Nat) (cI cZ cJ : ClassId) (st : Nat) (cn : Nat) (hs0 : st < 47) (hc0 : cn < 4) : Met l yX4_entry wsX4_entry ({ frames := 0, cells := 0, slots := 0, locals := 0 }) (hw_Ro (dC, dI) vwCl (ty3 cI cZ cJ) [] [.int (nI st), .int (nI cn)]) (vp_Si (fun r => r = nI (sp_t (4 * st + cn)))) 0 0 (fun _ => False) := by
  refine Met.ofW (cc := cX4_entry) (maxL := 3) (ret := (some .int)) (by decide) rfl ?_
  intro pg ev s m args below meth cd s₁ B hml hv
  obtain ⟨rfl, hP, hK, hN, hZ⟩ := hv
  have hx := B.exec
  have hb := B.bytes
  have hr := B.returns
  have hts := atoms_spec (ws := wsX4_entry) B.pre
  have hown : s.vm.findClass RX4 = some m.cls := findClass_of_methodNamed B.named
  have hlocks := B.notSynchronized
  have hS : va_S (fun _ => False) s.heap s.heap [] := va_S.rf
  have hk : hw_K (dC, dI) vwCl (ty3 cI cZ cJ) (fun _ => False) s := ⟨hK, hN, hZ⟩
  obtain ⟨tb, hTZ, hTT⟩ := id hZ
  have hl := lv_entry ([.int (nI st), .int (nI cn)]) (n := 3) (Nat.le_of_ble_eq_true rfl)
  rw [lg_entry_eq]
  generalize (lg_sl ([.int (nI st), .int (nI cn)]) ++ List.replicate (3 - (lg_sl ([.int (nI st), .int (nI cn)])).length) Slot.unset).toArray = ls at hl ⊢
  have hl : lv_has ls 3 [(0, .int (nI st)), (1, .int (nI cn))] := hl
  refine lv_iload_n hx hb dX4_entry_0 rfl (lv_at hl 0 rfl) ?_
  refine lv_iconst (v := 4) hx hb dX4_entry_1 (by decide) ?_
  refine lv_imul hx hb dX4_entry_2 ?_
  refine lv_iload_n hx hb dX4_entry_3 rfl (lv_at hl 1 rfl) ?_
  refine lv_iadd hx hb dX4_entry_4 ?_
  refine hw_i (y := nI (4 * st + cn)) (by rw [show (4 : Int32) = nI 4 from rfl, pk_mul, nI_add, Nat.mul_comm]) ?_
  refine lv_istore_n (lv' := [(2, .int (nI (4 * st + cn))), (0, .int (nI st)), (1, .int (nI cn))]) hx hb dX4_entry_5 rfl hl (by decide) rfl (fun ls hl => ?_)
  refine lv_iload_n hx hb dX4_entry_6 rfl (lv_at hl 0 rfl) ?_
  refine lv_if_lt (tgt := 26) hx hb dX4_entry_7 (by decide) (fun c_7 => absurd c_7 (nI_pos (by omega))) (fun c_7 => ?_)
  refine lv_iload_n hx hb dX4_entry_10 rfl (lv_at hl 0 rfl) ?_
  refine va_gets hx hb hTZ hS hown (hts (.fieldLink RX4 27 "RefineRegions$States" "TABLE" "[I") (by decide +kernel)) (fun _ h9 => h9) dX4_entry_11 ?_
  refine va_tlen hx hb hTT hS (v := 188) (by decide) dX4_entry_14 ?_
  refine lv_icmp_ge (tgt := 26) hx hb dX4_entry_15 (by decide) (fun c_15 => absurd c_15 (by rw [show (188 : Int32) = nI 188 from rfl, nI_leI (by omega) (by omega)]; omega)) (fun c_15 => ?_)
  refine va_gets hx hb hTZ hS hown (hts (.fieldLink RX4 27 "RefineRegions$States" "TABLE" "[I") (by decide +kernel)) (fun _ h9 => h9) dX4_entry_18 ?_
  refine lv_iload_n hx hb dX4_entry_21 rfl (lv_at hl 0 rfl) ?_
  refine va_ti hx hb hTT hS (vp_in_nI (by omega) (by omega)) (v := .int (nI (sp_t (nI (4 * st + cn)).toNatClampNeg))) rfl dX4_entry_22 ?_
  refine hw_i (y := nI (sp_t (4 * st + cn))) (by rw [nI_clamp (by omega)]) ?_
  refine lv_goto (tgt := 27) hx hb dX4_entry_23 (by decide) ?_
  exact W.iret (v := nI (sp_t (4 * st + cn))) hx hb hr (fun t ht hW => ⟨nI (sp_t (4 * st + cn)), rfl, rfl, ht⟩) hS.2.2 dX4_entry_27

set_option maxHeartbeats 4000000 in
set_option maxRecDepth 100000 in
/-- packedOf(context) -/
theorem c_X4_packedOf (l : Launch) (dC : Nat → ClassId) (dI : Nat → Nat → Nat) (cI cZ cJ : ClassId) (hs : Nat) (ha : Nat) (S : Nat → Nat) (n : Nat) (hn0 : n < 8192) : Met l yX4_packedOf wsX4_packedOf ({ frames := 0, cells := 0, slots := 0, locals := 0 }) (hw_Ro (dC, dI) vwCl (ty3 cI cZ cJ) [(hs, .inr (3, [.ref ha])), (ha, .inl (cI, 8192, .inl (fun j => nI (S j))))] [.ref hs, .int (nI n)]) (vp_Si (fun r => r = nI (S n))) 0 0 (fun _ => False) := by
  refine Met.ofW (cc := cX4_packedOf) (maxL := 2) (ret := (some .int)) (by decide) rfl ?_
  intro pg ev s m args below meth cd s₁ B hml hv
  obtain ⟨rfl, hP, hK, hN, hZ⟩ := hv
  have hx := B.exec
  have hb := B.bytes
  have hr := B.returns
  have hts := atoms_spec (ws := wsX4_packedOf) B.pre
  have hown : s.vm.findClass RX4 = some m.cls := findClass_of_methodNamed B.named
  have hlocks := B.notSynchronized
  have hS : va_S (fun _ => False) s.heap s.heap [] := va_S.rf
  have hk : hw_K (dC, dI) vwCl (ty3 cI cZ cJ) (fun _ => False) s := ⟨hK, hN, hZ⟩
  have hiX4 : ∀ w ∈ u_ws RX4 TX4 1, w ∈ wsX4_packedOf := by decide +kernel
  have hl := lv_entry ([.ref hs, .int (nI n)]) (n := 2) (Nat.le_of_ble_eq_true rfl)
  rw [lg_entry_eq]
  generalize (lg_sl ([.ref hs, .int (nI n)]) ++ List.replicate (2 - (lg_sl ([.ref hs, .int (nI n)])).length) Slot.unset).toArray = ls at hl ⊢
  have hl : lv_has ls 2 [(0, .ref hs), (1, .int (nI n))] := hl
  refine lv_iload_n hx hb dX4_packedOf_0 rfl (lv_at hl 1 rfl) ?_
  refine lv_if_lt (tgt := 22) hx hb dX4_packedOf_1 (by decide) (fun c_1 => absurd c_1 (nI_pos (by omega))) (fun c_1 => ?_)
  refine lv_iload_n hx hb dX4_packedOf_4 rfl (lv_at hl 1 rfl) ?_
  refine lv_aload_n hx hb dX4_packedOf_5 rfl (lv_at hl 0 rfl) ?_
  refine va_get (D := (dC, dI)) (ci := 3) (v := .ref ha) (C := RX4) (T := TX4) (N := 1) hx hb hts hiX4 hown hK hP 0 rfl rfl 0 (by decide) (hts (.fieldLink RX4 9 "RefineRegions$States" "packed" "[I") (by decide +kernel)) (fun _ h9 => h9) rfl dX4_packedOf_6 ?_
  refine va_alen hx hb hK hP 1 0 rfl rfl (v := nI 8192) (rfl) dX4_packedOf_9 ?_
  refine lv_icmp_ge (tgt := 22) hx hb dX4_packedOf_10 (by decide) (fun c_10 => absurd c_10 (by rw [nI_leI (by omega) (by omega)]; omega)) (fun c_10 => ?_)
  refine lv_aload_n hx hb dX4_packedOf_13 rfl (lv_at hl 0 rfl) ?_
  refine va_get (D := (dC, dI)) (ci := 3) (v := .ref ha) (C := RX4) (T := TX4) (N := 1) hx hb hts hiX4 hown hK hP 0 rfl rfl 0 (by decide) (hts (.fieldLink RX4 9 "RefineRegions$States" "packed" "[I") (by decide +kernel)) (fun _ h9 => h9) rfl dX4_packedOf_14 ?_
  refine lv_iload_n hx hb dX4_packedOf_17 rfl (lv_at hl 1 rfl) ?_
  refine va_iald hx hb hK hP 1 0 rfl rfl (vp_in_nI hn0 (by decide)) dX4_packedOf_18 ?_
  refine hw_i (y := nI (S n)) (by rw [nI_clamp (by omega)]) ?_
  refine lv_goto (tgt := 23) hx hb dX4_packedOf_19 (by decide) ?_
  exact W.iret (v := nI (S n)) hx hb hr (fun t ht hW => ⟨nI (S n), rfl, rfl, ht⟩) hS.2.2 dX4_packedOf_23

set_option maxHeartbeats 4000000 in
set_option maxRecDepth 100000 in
/-- likelyOf(context) -/
theorem c_X4_likelyOf (l : Launch) (dC : Nat → ClassId) (dI : Nat → Nat → Nat) (cI cZ cJ : ClassId) (hs : Nat) (ha : Nat) (S : Nat → Nat) (n : Nat) (hS94 : ∀ j, S j < 94) (hn0 : n < 8192) : Met l yX4_likelyOf wsX4_likelyOf ({ frames := 1, cells := 0, slots := 0, locals := 21 }) (hw_Ro (dC, dI) vwCl (ty3 cI cZ cJ) [(hs, .inr (3, [.ref ha])), (ha, .inl (cI, 8192, .inl (fun j => nI (S j))))] [.ref hs, .int (nI n)]) (vp_Si (fun r => r = nI (S n % 2))) 0 0 (fun _ => False) := by
  refine Met.ofW (cc := cX4_likelyOf) (maxL := 2) (ret := (some .int)) (by decide) rfl ?_
  intro pg ev s m args below meth cd s₁ B hml hv
  obtain ⟨rfl, hP, hK, hN, hZ⟩ := hv
  have hx := B.exec
  have hb := B.bytes
  have hr := B.returns
  have hts := atoms_spec (ws := wsX4_likelyOf) B.pre
  have hown : s.vm.findClass RX4 = some m.cls := findClass_of_methodNamed B.named
  have hlocks := B.notSynchronized
  have hS : va_S (fun _ => False) s.heap s.heap [] := va_S.rf
  have hk : hw_K (dC, dI) vwCl (ty3 cI cZ cJ) (fun _ => False) s := ⟨hK, hN, hZ⟩
  have hl := lv_entry ([.ref hs, .int (nI n)]) (n := 2) (Nat.le_of_ble_eq_true rfl)
  rw [lg_entry_eq]
  generalize (lg_sl ([.ref hs, .int (nI n)]) ++ List.replicate (2 - (lg_sl ([.ref hs, .int (nI n)])).length) Slot.unset).toArray = ls at hl ⊢
  have hl : lv_has ls 2 [(0, .ref hs), (1, .int (nI n))] := hl
  refine lv_aload_n hx hb dX4_likelyOf_0 rfl (lv_at hl 0 rfl) ?_
  refine lv_iload_n hx hb dX4_likelyOf_1 rfl (lv_at hl 1 rfl) ?_
  refine hw_callSe (va_runV (As := [.int (nI n)]) (rest := []) ⟨hx, hb, hml, hown, hts⟩ (c_X4_packedOf l dC dI cI cZ cJ hs ha S n (hn0)) (cwV 1 hts gX4_likelyOf_X4_packedOf rfl rfl rfl (by decide +kernel) ⟨Nat.le_of_ble_eq_true rfl, Nat.le_of_ble_eq_true rfl⟩) (hw_roV hP hS hk [0, 1] rfl (ci := 3) (q0 := 0) rfl rfl) rfl rfl hl.1 rfl (lv_room (Nat.le_of_ble_eq_true rfl)) dX4_likelyOf_2 ⟨Nat.le_of_ble_eq_true rfl, Nat.le_of_ble_eq_true rfl⟩) ?_
  refine lv_iconst (v := 1) hx hb dX4_likelyOf_5 (by decide) ?_
  refine lv_iand hx hb dX4_likelyOf_6 ?_
  refine hw_i (y := nI (S n % 2)) (pk_andN (by have := hS94 n; omega) 1 (by decide)) ?_
  exact W.iret (v := nI (S n % 2)) hx hb hr (fun t ht hW => ⟨nI (S n % 2), rfl, rfl, ht⟩) hS.2.2 dX4_likelyOf_7

set_option maxHeartbeats 4000000 in
set_option maxRecDepth 100000 in
/-- shareOf(context) -/
theorem c_X4_shareOf (l : Launch) (dC : Nat → ClassId) (dI : Nat → Nat → Nat) (cI cZ cJ : ClassId) (hs : Nat) (ha : Nat) (S : Nat → Nat) (n : Nat) (hS94 : ∀ j, S j < 94) (hn0 : n < 8192) : Met l yX4_shareOf wsX4_shareOf ({ frames := 1, cells := 0, slots := 0, locals := 22 }) (hw_Ro (dC, dI) vwCl (ty3 cI cZ cJ) [(hs, .inr (3, [.ref ha])), (ha, .inl (cI, 8192, .inl (fun j => nI (S j))))] [.ref hs, .int (nI n)]) (vp_Si (fun r => r = nI (sp_q S n))) 0 0 (fun _ => False) := by
  refine Met.ofW (cc := cX4_shareOf) (maxL := 2) (ret := (some .int)) (by decide) rfl ?_
  intro pg ev s m args below meth cd s₁ B hml hv
  obtain ⟨rfl, hP, hK, hN, hZ⟩ := hv
  have hx := B.exec
  have hb := B.bytes
  have hr := B.returns
  have hts := atoms_spec (ws := wsX4_shareOf) B.pre
  have hown : s.vm.findClass RX4 = some m.cls := findClass_of_methodNamed B.named
  have hlocks := B.notSynchronized
  have hS : va_S (fun _ => False) s.heap s.heap [] := va_S.rf
  have hk : hw_K (dC, dI) vwCl (ty3 cI cZ cJ) (fun _ => False) s := ⟨hK, hN, hZ⟩
  have hl := lv_entry ([.ref hs, .int (nI n)]) (n := 2) (Nat.le_of_ble_eq_true rfl)
  rw [lg_entry_eq]
  generalize (lg_sl ([.ref hs, .int (nI n)]) ++ List.replicate (2 - (lg_sl ([.ref hs, .int (nI n)])).length) Slot.unset).toArray = ls at hl ⊢
  have hl : lv_has ls 2 [(0, .ref hs), (1, .int (nI n))] := hl
  refine lv_aload_n hx hb dX4_shareOf_0 rfl (lv_at hl 0 rfl) ?_
  refine lv_iload_n hx hb dX4_shareOf_1 rfl (lv_at hl 1 rfl) ?_
  refine hw_callSe (va_runV (As := [.int (nI n)]) (rest := []) ⟨hx, hb, hml, hown, hts⟩ (c_X4_packedOf l dC dI cI cZ cJ hs ha S n (hn0)) (cwV 1 hts gX4_shareOf_X4_packedOf rfl rfl rfl (by decide +kernel) ⟨Nat.le_of_ble_eq_true rfl, Nat.le_of_ble_eq_true rfl⟩) (hw_roV hP hS hk [0, 1] rfl (ci := 3) (q0 := 0) rfl rfl) rfl rfl hl.1 rfl (lv_room (Nat.le_of_ble_eq_true rfl)) dX4_shareOf_2 ⟨Nat.le_of_ble_eq_true rfl, Nat.le_of_ble_eq_true rfl⟩) ?_
  refine lv_iconst (v := 1) hx hb dX4_shareOf_5 (by decide) ?_
  refine lv_ishr hx hb dX4_shareOf_6 ?_
  refine hw_i (y := nI (S n / 2)) (pk_shrN (by have := hS94 n; omega) _ 1 (by decide)) ?_
  refine lv_iconst (v := 0) hx hb dX4_shareOf_7 (by decide) ?_
  refine hw_callSe (va_runS (As := [.int (nI (S n / 2)), .int 0]) (rest := []) ⟨hx, hb, hml, hown, hts⟩ (c_X4_entry l dC dI cI cZ cJ (S n / 2) 0 (by have := hS94 n; omega) (by decide)) (cwS 2 hts gX4_shareOf_X4_entry rfl rfl rfl (by decide +kernel) ⟨Nat.le_of_ble_eq_true rfl, Nat.le_of_ble_eq_true rfl⟩) (hw_ro hP hS hk [] rfl) rfl rfl hl.1 rfl (lv_room (Nat.le_of_ble_eq_true rfl)) dX4_shareOf_8 ⟨Nat.le_of_ble_eq_true rfl, Nat.le_of_ble_eq_true rfl⟩) ?_
  exact W.iret (v := nI (sp_t (4 * (S n / 2) + 0))) hx hb hr (fun t ht hW => ⟨nI (sp_t (4 * (S n / 2) + 0)), rfl, rfl, ht⟩) hS.2.2 dX4_shareOf_11

set_option maxHeartbeats 4000000 in
set_option maxRecDepth 100000 in
/-- advance(context, true) -/
theorem c_X4_advance_true (l : Launch) (dC : Nat → ClassId) (dI : Nat → Nat → Nat) (cI cZ cJ : ClassId) (hs : Nat) (ha : Nat) (S : Nat → Nat) (n : Nat) (hS94 : ∀ j, S j < 94) (hn0 : n < 8192) (sz : Nat) : Met l yX4_advance wsX4_advance ({ frames := 1, cells := 0, slots := 0, locals := 22 }) (hw_Pre (dC, dI) vwCl (ty3 cI cZ cJ) [(hs, .inr (3, [.ref ha])), (ha, .inl (cI, 8192, .inl (fun j => nI (S j))))] sz [.ref hs, .int (nI n), .int 1]) (va_Qv (fun _ : Unit => True) (hw_at (dC, dI) vwCl (ty3 cI cZ cJ) (fun _ : Unit => [(hs, .inr (3, [.ref ha])), (ha, .inl (cI, 8192, .inl (fun j => nI ((sp_up S n (sp_nx (S n) true)) j))))]) (va_A [(hs, .inr (3, [.ref ha])), (ha, .inl (cI, 8192, .inl (fun j => nI (S j))))] sz)) (va_A [(hs, .inr (3, [.ref ha])), (ha, .inl (cI, 8192, .inl (fun j => nI (S j))))] sz)) 0 0 (va_A [(hs, .inr (3, [.ref ha])), (ha, .inl (cI, 8192, .inl (fun j => nI (S j))))] sz) := by
  refine Met.ofW (cc := cX4_advance) (maxL := 5) (ret := none) (by decide) rfl ?_
  intro pg ev s m args below meth cd s₁ B hml hv
  obtain ⟨rfl, hsz, hP, hK, hN, hZ, hD0⟩ := hv
  have hx := B.exec
  have hb := B.bytes
  have hr := B.returns
  have hts := atoms_spec (ws := wsX4_advance) B.pre
  have hown : s.vm.findClass RX4 = some m.cls := findClass_of_methodNamed B.named
  have hlocks := B.notSynchronized
  subst hsz
  have hD := hD0.self (sz := s.heap.size)
  generalize hAe : va_A [(hs, .inr (3, [.ref ha])), (ha, .inl (cI, 8192, .inl (fun j => nI (S j))))] s.heap.size = A at hD hZ ⊢
  have hA : ∀ q : Nat, s.heap.size ≤ q → A q := fun q h => by rw [← hAe]; exact Or.inr h
  have hS : va_S A s.heap s.heap [] := va_S.rf
  have hk : hw_K (dC, dI) vwCl (ty3 cI cZ cJ) A s := ⟨hK, hN, hZ⟩
  have hiX4 : ∀ w ∈ u_ws RX4 TX4 1, w ∈ wsX4_advance := by decide +kernel
  have hl := lv_entry ([.ref hs, .int (nI n), .int 1]) (n := 5) (Nat.le_of_ble_eq_true rfl)
  rw [lg_entry_eq]
  generalize (lg_sl ([.ref hs, .int (nI n), .int 1]) ++ List.replicate (5 - (lg_sl ([.ref hs, .int (nI n), .int 1])).length) Slot.unset).toArray = ls at hl ⊢
  have hl : lv_has ls 5 [(0, .ref hs), (1, .int (nI n)), (2, .int 1)] := hl
  refine lv_iload_n hx hb dX4_advance_0 rfl (lv_at hl 1 rfl) ?_
  refine lv_if_lt (tgt := 13) hx hb dX4_advance_1 (by decide) (fun c_1 => absurd c_1 (nI_pos (by omega))) (fun c_1 => ?_)
  refine lv_iload_n hx hb dX4_advance_4 rfl (lv_at hl 1 rfl) ?_
  refine lv_aload_n hx hb dX4_advance_5 rfl (lv_at hl 0 rfl) ?_
  refine va_get (D := (dC, dI)) (ci := 3) (v := .ref ha) (C := RX4) (T := TX4) (N := 1) hx hb hts hiX4 hown hK hP 0 rfl rfl 0 (by decide) (hts (.fieldLink RX4 9 "RefineRegions$States" "packed" "[I") (by decide +kernel)) (fun _ h9 => h9) rfl dX4_advance_6 ?_
  refine va_alen hx hb hK hP 1 0 rfl rfl (v := nI 8192) (rfl) dX4_advance_9 ?_
  refine lv_icmp_lt (tgt := 14) hx hb dX4_advance_10 (by decide) (fun c_10 => ?_) (fun c_10 => absurd (nI_lt hn0 (by decide)) c_10)
  refine lv_aload_n hx hb dX4_advance_14 rfl (lv_at hl 0 rfl) ?_
  refine va_get (D := (dC, dI)) (ci := 3) (v := .ref ha) (C := RX4) (T := TX4) (N := 1) hx hb hts hiX4 hown hK hP 0 rfl rfl 0 (by decide) (hts (.fieldLink RX4 9 "RefineRegions$States" "packed" "[I") (by decide +kernel)) (fun _ h9 => h9) rfl dX4_advance_15 ?_
  refine lv_iload_n hx hb dX4_advance_18 rfl (lv_at hl 1 rfl) ?_
  refine va_iald hx hb hK hP 1 0 rfl rfl (vp_in_nI hn0 (by decide)) dX4_advance_19 ?_
  refine hw_i (y := nI (S n)) (by rw [nI_clamp (by omega)]) ?_
  refine lv_iconst (v := 1) hx hb dX4_advance_20 (by decide) ?_
  refine lv_ishr hx hb dX4_advance_21 ?_
  refine hw_i (y := nI (S n / 2)) (pk_shrN (by have := hS94 n; omega) _ 1 (by decide)) ?_
  refine lv_istore_n (lv' := [(3, .int (nI (S n / 2))), (0, .ref hs), (1, .int (nI n)), (2, .int 1)]) hx hb dX4_advance_22 rfl hl (by decide) rfl (fun ls hl => ?_)
  refine lv_aload_n hx hb dX4_advance_23 rfl (lv_at hl 1 rfl) ?_
  refine va_get (D := (dC, dI)) (ci := 3) (v := .ref ha) (C := RX4) (T := TX4) (N := 1) hx hb hts hiX4 hown hK hP 0 rfl rfl 0 (by decide) (hts (.fieldLink RX4 9 "RefineRegions$States" "packed" "[I") (by decide +kernel)) (fun _ h9 => h9) rfl dX4_advance_24 ?_
  refine lv_iload_n hx hb dX4_advance_27 rfl (lv_at hl 2 rfl) ?_
  refine va_iald hx hb hK hP 1 0 rfl rfl (vp_in_nI hn0 (by decide)) dX4_advance_28 ?_
  refine hw_i (y := nI (S n)) (by rw [nI_clamp (by omega)]) ?_
  refine lv_iconst (v := 1) hx hb dX4_advance_29 (by decide) ?_
  refine lv_iand hx hb dX4_advance_30 ?_
  refine hw_i (y := nI (S n % 2)) (pk_andN (by have := hS94 n; omega) 1 (by decide)) ?_
  refine lv_istore (lv' := [(4, .int (nI (S n % 2))), (3, .int (nI (S n / 2))), (0, .ref hs), (1, .int (nI n)), (2, .int 1)]) hx hb dX4_advance_31 hl (by decide) rfl (fun ls hl => ?_)
  refine lv_iload_n hx hb dX4_advance_33 rfl (lv_at hl 4 rfl) ?_
  refine lv_if_eq (tgt := 56) hx hb dX4_advance_34 (by decide) (fun c9 => absurd c9 (by decide)) (fun _ => ?_)
  refine lv_aload_n hx hb dX4_advance_37 rfl (lv_at hl 2 rfl) ?_
  refine va_get (D := (dC, dI)) (ci := 3) (v := .ref ha) (C := RX4) (T := TX4) (N := 1) hx hb hts hiX4 hown hK hP 0 rfl rfl 0 (by decide) (hts (.fieldLink RX4 9 "RefineRegions$States" "packed" "[I") (by decide +kernel)) (fun _ h9 => h9) rfl dX4_advance_38 ?_
  refine lv_iload_n hx hb dX4_advance_41 rfl (lv_at hl 3 rfl) ?_
  refine lv_iconst (v := 2) hx hb dX4_advance_42 (by decide) ?_
  refine lv_iload_n hx hb dX4_advance_43 rfl (lv_at hl 1 rfl) ?_
  refine lv_iconst (v := 1) hx hb dX4_advance_44 (by decide) ?_
  refine hw_callSe (va_runS (As := [.int (nI (S n / 2)), .int 1]) (rest := [.int 2, .int (nI n), .ref ha]) ⟨hx, hb, hml, hown, hts⟩ (c_X4_entry l dC dI cI cZ cJ (S n / 2) 1 (by have := hS94 n; omega) (by decide)) (cwS 2 hts gX4_advance_X4_entry rfl rfl rfl (by decide +kernel) ⟨Nat.le_of_ble_eq_true rfl, Nat.le_of_ble_eq_true rfl⟩) (hw_ro hP hS hk [] rfl) rfl rfl hl.1 rfl (lv_room (Nat.le_of_ble_eq_true rfl)) dX4_advance_45 ⟨Nat.le_of_ble_eq_true rfl, Nat.le_of_ble_eq_true rfl⟩) ?_
  refine lv_imul hx hb dX4_advance_48 ?_
  refine lv_iload hx hb dX4_advance_49 (lv_at hl 0 rfl) ?_
  refine lv_iadd hx hb dX4_advance_51 ?_
  refine hw_i (y := nI (sp_nx (S n) true)) (sp_nx_t (S n)) ?_
  refine va_iast hx hb hK hP hD hS 1 0 rfl rfl (vp_in_nI hn0 (by decide)) dX4_advance_52 (fun H locs hP hD hS => ?_)
  have eA : upd (fun j => nI (S j)) (nI n).toNatClampNeg (nI (sp_nx (S n) true)) = fun j => nI (sp_up S n (sp_nx (S n) true) j) := by rw [nI_clamp (by omega)]; exact sp_up_nI S n _
  rw [eA] at hP hD
  have hP : va_P (dC, dI) vwCl [(hs, .inr (3, [.ref ha])), (ha, .inl (cI, 8192, .inl (fun j => nI (sp_up S n (sp_nx (S n) true) j))))] H := hP
  have hD : va_D A [(hs, .inr (3, [.ref ha])), (ha, .inl (cI, 8192, .inl (fun j => nI (sp_up S n (sp_nx (S n) true) j))))] := hD
  refine lv_goto (tgt := 78) hx hb dX4_advance_53 (by decide) ?_
  have hP9 := hP
  have hD9 := hD
  exact W.vret hx hb hr (fun t ht hW => ⟨⟨(), rfl, trivial, by rw [ht]; exact hP9, va_K.moved hW.alike hK, hD9⟩, hS.F ht⟩) hS.2.2 dX4_advance_78

set_option maxHeartbeats 4000000 in
set_option maxRecDepth 100000 in
/-- advance(context, false) -/
theorem c_X4_advance_false (l : Launch) (dC : Nat → ClassId) (dI : Nat → Nat → Nat) (cI cZ cJ : ClassId) (hs : Nat) (ha : Nat) (S : Nat → Nat) (n : Nat) (hS94 : ∀ j, S j < 94) (hn0 : n < 8192) (sz : Nat) : Met l yX4_advance wsX4_advance ({ frames := 1, cells := 0, slots := 0, locals := 22 }) (hw_Pre (dC, dI) vwCl (ty3 cI cZ cJ) [(hs, .inr (3, [.ref ha])), (ha, .inl (cI, 8192, .inl (fun j => nI (S j))))] sz [.ref hs, .int (nI n), .int 0]) (va_Qv (fun _ : Unit => True) (hw_at (dC, dI) vwCl (ty3 cI cZ cJ) (fun _ : Unit => [(hs, .inr (3, [.ref ha])), (ha, .inl (cI, 8192, .inl (fun j => nI ((sp_up S n (sp_nx (S n) false)) j))))]) (va_A [(hs, .inr (3, [.ref ha])), (ha, .inl (cI, 8192, .inl (fun j => nI (S j))))] sz)) (va_A [(hs, .inr (3, [.ref ha])), (ha, .inl (cI, 8192, .inl (fun j => nI (S j))))] sz)) 0 0 (va_A [(hs, .inr (3, [.ref ha])), (ha, .inl (cI, 8192, .inl (fun j => nI (S j))))] sz) := by
  refine Met.ofW (cc := cX4_advance) (maxL := 5) (ret := none) (by decide) rfl ?_
  intro pg ev s m args below meth cd s₁ B hml hv
  obtain ⟨rfl, hsz, hP, hK, hN, hZ, hD0⟩ := hv
  have hx := B.exec
  have hb := B.bytes
  have hr := B.returns
  have hts := atoms_spec (ws := wsX4_advance) B.pre
  have hown : s.vm.findClass RX4 = some m.cls := findClass_of_methodNamed B.named
  have hlocks := B.notSynchronized
  subst hsz
  have hD := hD0.self (sz := s.heap.size)
  generalize hAe : va_A [(hs, .inr (3, [.ref ha])), (ha, .inl (cI, 8192, .inl (fun j => nI (S j))))] s.heap.size = A at hD hZ ⊢
  have hA : ∀ q : Nat, s.heap.size ≤ q → A q := fun q h => by rw [← hAe]; exact Or.inr h
  have hS : va_S A s.heap s.heap [] := va_S.rf
  have hk : hw_K (dC, dI) vwCl (ty3 cI cZ cJ) A s := ⟨hK, hN, hZ⟩
  have hiX4 : ∀ w ∈ u_ws RX4 TX4 1, w ∈ wsX4_advance := by decide +kernel
  have hl := lv_entry ([.ref hs, .int (nI n), .int 0]) (n := 5) (Nat.le_of_ble_eq_true rfl)
  rw [lg_entry_eq]
  generalize (lg_sl ([.ref hs, .int (nI n), .int 0]) ++ List.replicate (5 - (lg_sl ([.ref hs, .int (nI n), .int 0])).length) Slot.unset).toArray = ls at hl ⊢
  have hl : lv_has ls 5 [(0, .ref hs), (1, .int (nI n)), (2, .int 0)] := hl
  refine lv_iload_n hx hb dX4_advance_0 rfl (lv_at hl 1 rfl) ?_
  refine lv_if_lt (tgt := 13) hx hb dX4_advance_1 (by decide) (fun c_1 => absurd c_1 (nI_pos (by omega))) (fun c_1 => ?_)
  refine lv_iload_n hx hb dX4_advance_4 rfl (lv_at hl 1 rfl) ?_
  refine lv_aload_n hx hb dX4_advance_5 rfl (lv_at hl 0 rfl) ?_
  refine va_get (D := (dC, dI)) (ci := 3) (v := .ref ha) (C := RX4) (T := TX4) (N := 1) hx hb hts hiX4 hown hK hP 0 rfl rfl 0 (by decide) (hts (.fieldLink RX4 9 "RefineRegions$States" "packed" "[I") (by decide +kernel)) (fun _ h9 => h9) rfl dX4_advance_6 ?_
  refine va_alen hx hb hK hP 1 0 rfl rfl (v := nI 8192) (rfl) dX4_advance_9 ?_
  refine lv_icmp_lt (tgt := 14) hx hb dX4_advance_10 (by decide) (fun c_10 => ?_) (fun c_10 => absurd (nI_lt hn0 (by decide)) c_10)
  refine lv_aload_n hx hb dX4_advance_14 rfl (lv_at hl 0 rfl) ?_
  refine va_get (D := (dC, dI)) (ci := 3) (v := .ref ha) (C := RX4) (T := TX4) (N := 1) hx hb hts hiX4 hown hK hP 0 rfl rfl 0 (by decide) (hts (.fieldLink RX4 9 "RefineRegions$States" "packed" "[I") (by decide +kernel)) (fun _ h9 => h9) rfl dX4_advance_15 ?_
  refine lv_iload_n hx hb dX4_advance_18 rfl (lv_at hl 1 rfl) ?_
  refine va_iald hx hb hK hP 1 0 rfl rfl (vp_in_nI hn0 (by decide)) dX4_advance_19 ?_
  refine hw_i (y := nI (S n)) (by rw [nI_clamp (by omega)]) ?_
  refine lv_iconst (v := 1) hx hb dX4_advance_20 (by decide) ?_
  refine lv_ishr hx hb dX4_advance_21 ?_
  refine hw_i (y := nI (S n / 2)) (pk_shrN (by have := hS94 n; omega) _ 1 (by decide)) ?_
  refine lv_istore_n (lv' := [(3, .int (nI (S n / 2))), (0, .ref hs), (1, .int (nI n)), (2, .int 0)]) hx hb dX4_advance_22 rfl hl (by decide) rfl (fun ls hl => ?_)
  refine lv_aload_n hx hb dX4_advance_23 rfl (lv_at hl 1 rfl) ?_
  refine va_get (D := (dC, dI)) (ci := 3) (v := .ref ha) (C := RX4) (T := TX4) (N := 1) hx hb hts hiX4 hown hK hP 0 rfl rfl 0 (by decide) (hts (.fieldLink RX4 9 "RefineRegions$States" "packed" "[I") (by decide +kernel)) (fun _ h9 => h9) rfl dX4_advance_24 ?_
  refine lv_iload_n hx hb dX4_advance_27 rfl (lv_at hl 2 rfl) ?_
  refine va_iald hx hb hK hP 1 0 rfl rfl (vp_in_nI hn0 (by decide)) dX4_advance_28 ?_
  refine hw_i (y := nI (S n)) (by rw [nI_clamp (by omega)]) ?_
  refine lv_iconst (v := 1) hx hb dX4_advance_29 (by decide) ?_
  refine lv_iand hx hb dX4_advance_30 ?_
  refine hw_i (y := nI (S n % 2)) (pk_andN (by have := hS94 n; omega) 1 (by decide)) ?_
  refine lv_istore (lv' := [(4, .int (nI (S n % 2))), (3, .int (nI (S n / 2))), (0, .ref hs), (1, .int (nI n)), (2, .int 0)]) hx hb dX4_advance_31 hl (by decide) rfl (fun ls hl => ?_)
  refine lv_iload_n hx hb dX4_advance_33 rfl (lv_at hl 4 rfl) ?_
  refine lv_if_eq (tgt := 56) hx hb dX4_advance_34 (by decide) (fun _ => ?_) (fun c9 => absurd (by decide) c9)
  refine lv_aload_n hx hb dX4_advance_56 rfl (lv_at hl 2 rfl) ?_
  refine va_get (D := (dC, dI)) (ci := 3) (v := .ref ha) (C := RX4) (T := TX4) (N := 1) hx hb hts hiX4 hown hK hP 0 rfl rfl 0 (by decide) (hts (.fieldLink RX4 9 "RefineRegions$States" "packed" "[I") (by decide +kernel)) (fun _ h9 => h9) rfl dX4_advance_57 ?_
  refine lv_iload_n hx hb dX4_advance_60 rfl (lv_at hl 3 rfl) ?_
  refine lv_iconst (v := 2) hx hb dX4_advance_61 (by decide) ?_
  refine lv_iload_n hx hb dX4_advance_62 rfl (lv_at hl 1 rfl) ?_
  refine lv_iconst (v := 2) hx hb dX4_advance_63 (by decide) ?_
  refine hw_callSe (va_runS (As := [.int (nI (S n / 2)), .int 2]) (rest := [.int 2, .int (nI n), .ref ha]) ⟨hx, hb, hml, hown, hts⟩ (c_X4_entry l dC dI cI cZ cJ (S n / 2) 2 (by have := hS94 n; omega) (by decide)) (cwS 2 hts gX4_advance_X4_entry rfl rfl rfl (by decide +kernel) ⟨Nat.le_of_ble_eq_true rfl, Nat.le_of_ble_eq_true rfl⟩) (hw_ro hP hS hk [] rfl) rfl rfl hl.1 rfl (lv_room (Nat.le_of_ble_eq_true rfl)) dX4_advance_64 ⟨Nat.le_of_ble_eq_true rfl, Nat.le_of_ble_eq_true rfl⟩) ?_
  refine lv_imul hx hb dX4_advance_67 ?_
  refine lv_iload hx hb dX4_advance_68 (lv_at hl 0 rfl) ?_
  refine lv_iload_n hx hb dX4_advance_70 rfl (lv_at hl 1 rfl) ?_
  refine lv_iconst (v := 3) hx hb dX4_advance_71 (by decide) ?_
  refine hw_callSe (va_runS (As := [.int (nI (S n / 2)), .int 3]) (rest := [.int (nI (S n % 2)), .int (2 * (nI (sp_t (4 * (S n / 2) + 2)))), .int (nI n), .ref ha]) ⟨hx, hb, hml, hown, hts⟩ (c_X4_entry l dC dI cI cZ cJ (S n / 2) 3 (by have := hS94 n; omega) (by decide)) (cwS 2 hts gX4_advance_X4_entry rfl rfl rfl (by decide +kernel) ⟨Nat.le_of_ble_eq_true rfl, Nat.le_of_ble_eq_true rfl⟩) (hw_ro hP hS hk [] rfl) rfl rfl hl.1 rfl (lv_room (Nat.le_of_ble_eq_true rfl)) dX4_advance_72 ⟨Nat.le_of_ble_eq_true rfl, Nat.le_of_ble_eq_true rfl⟩) ?_
  refine lv_ixor hx hb dX4_advance_75 ?_
  refine lv_iadd hx hb dX4_advance_76 ?_
  refine hw_i (y := nI (sp_nx (S n) false)) (sp_nx_f (hS94 n)) ?_
  refine va_iast hx hb hK hP hD hS 1 0 rfl rfl (vp_in_nI hn0 (by decide)) dX4_advance_77 (fun H locs hP hD hS => ?_)
  have eA : upd (fun j => nI (S j)) (nI n).toNatClampNeg (nI (sp_nx (S n) false)) = fun j => nI (sp_up S n (sp_nx (S n) false) j) := by rw [nI_clamp (by omega)]; exact sp_up_nI S n _
  rw [eA] at hP hD
  have hP : va_P (dC, dI) vwCl [(hs, .inr (3, [.ref ha])), (ha, .inl (cI, 8192, .inl (fun j => nI (sp_up S n (sp_nx (S n) false) j))))] H := hP
  have hD : va_D A [(hs, .inr (3, [.ref ha])), (ha, .inl (cI, 8192, .inl (fun j => nI (sp_up S n (sp_nx (S n) false) j))))] := hD
  have hP9 := hP
  have hD9 := hD
  exact W.vret hx hb hr (fun t ht hW => ⟨⟨(), rfl, trivial, by rw [ht]; exact hP9, va_K.moved hW.alike hK, hD9⟩, hS.F ht⟩) hS.2.2 dX4_advance_78
