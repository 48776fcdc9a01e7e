set_option maxHeartbeats 4000000 in
set_option maxRecDepth 100000 in
/-- last() -/
theorem c_X8_last (l : Launch) (dC : Nat → ClassId) (dI : Nat → Nat → Nat) (cI cZ cJ : ClassId) (m0 : Nat) (m1 : Nat) (m2 : Nat) (m3 : Nat) (m4 : Nat) (m5 : Nat) (m6 : Nat) (th : Int32) (tp : Int32) (ty : Int32) (sf : Int32) (rdg : Int32) (rt : Int32) (dx : Int32) (dy : Int32) (p0 : Int32) (q0 : Int32) (p1 : Int32) (q1 : Int32) (kp : Int32) (w : Nat) (h : Nat) (rwd : Nat) (rht : Nat) (k : Nat) (sk : Nat) (tr : Nat) (co : Nat) (b : Nat) (ma : Int64) (mc : Int64) (mt : Int32) (f : Nat → Int32) (hk0 : k ≤ 4200) : Met l yX8_last wsX8_last ({ frames := 0, cells := 0, slots := 0, locals := 0 }) (hw_Ro (dC, dI) vwCl (ty3 cI cZ cJ) [(m0, .inr (7, [.int th, .ref m1, .int (nI w), .int (nI h), .int tp, .int ty, .ref m2, .ref m3, .int sf, .int rdg, .int rt, .int (nI rwd), .int (nI rht), .ref m4, .int dx, .int dy, .int p0, .int q0, .int p1, .int q1, .int kp, .ref m5, .ref m6, .int (nI k), .int (nI sk), .int (nI tr), .int (nI co), .long ma, .long mc, .int mt, .int (nI b)])), (m6, .inl (cI, 4200, .inl f))] [.ref m0]) (vp_Si (fun r => r = sp_last k f)) 0 0 (fun _ => False) := by
  refine Met.ofW (cc := cX8_last) (maxL := 1) (ret := (some .int)) (by decide) rfl ?_
  intro pg ev s m args below meth cd s₁ B hml hv
  obtain ⟨rfl, hP, hK, hN, hZ⟩ := hv
  have hx := B.exec
  have hb := B.bytes
  have hr := B.returns
  have hts := atoms_spec (ws := wsX8_last) B.pre
  have hown : s.vm.findClass RX8 = some m.cls := findClass_of_methodNamed B.named
  have hlocks := B.notSynchronized
  have hS : va_S (fun _ => False) s.heap s.heap [] := va_S.rf
  have hk : hw_K (dC, dI) vwCl (ty3 cI cZ cJ) (fun _ => False) s := ⟨hK, hN, hZ⟩
  have hiX8 : ∀ w ∈ u_ws RX8 TX8 31, w ∈ wsX8_last := by decide +kernel
  have hl := lv_entry ([.ref m0]) (n := 1) (Nat.le_of_ble_eq_true rfl)
  rw [lg_entry_eq]
  generalize (lg_sl ([.ref m0]) ++ List.replicate (1 - (lg_sl ([.ref m0])).length) Slot.unset).toArray = ls at hl ⊢
  have hl : lv_has ls 1 [(0, .ref m0)] := hl
  refine lv_aload_n hx hb dX8_last_0 rfl (lv_at hl 0 rfl) ?_
  refine va_get (D := (dC, dI)) (ci := 7) (v := .int (nI k)) (C := RX8) (T := TX8) (N := 31) hx hb hts hiX8 hown hK hP 0 rfl rfl 23 (by decide) (hts (.fieldLink RX8 100 "RefineRegionsModel" "many" "I") (by decide +kernel)) (fun _ h9 => h9) rfl dX8_last_1 ?_
  refine lv_if_ne (tgt := 11) hx hb dX8_last_4 (by decide) (fun c_4 => ?_) (fun c_4 => ?_)
  · have hk1 : 1 ≤ k := by rw [nI_eq0 (by omega)] at c_4; omega
    refine lv_aload_n hx hb dX8_last_11 rfl (lv_at hl 0 rfl) ?_
    refine va_get (D := (dC, dI)) (ci := 7) (v := .ref m6) (C := RX8) (T := TX8) (N := 31) hx hb hts hiX8 hown hK hP 0 rfl rfl 22 (by decide) (hts (.fieldLink RX8 45 "RefineRegionsModel" "bytes" "[I") (by decide +kernel)) (fun _ h9 => h9) rfl dX8_last_12 ?_
    refine lv_aload_n hx hb dX8_last_15 rfl (lv_at hl 0 rfl) ?_
    refine va_get (D := (dC, dI)) (ci := 7) (v := .int (nI k)) (C := RX8) (T := TX8) (N := 31) hx hb hts hiX8 hown hK hP 0 rfl rfl 23 (by decide) (hts (.fieldLink RX8 100 "RefineRegionsModel" "many" "I") (by decide +kernel)) (fun _ h9 => h9) rfl dX8_last_16 ?_
    refine lv_iconst (v := 1) hx hb dX8_last_19 (by decide) ?_
    refine lv_isub hx hb dX8_last_20 ?_
    refine hw_i (y := nI (k - 1)) (by rw [show (1 : Int32) = nI 1 from rfl]; exact pk_sub hk1) ?_
    refine va_iald hx hb hK hP 1 0 rfl rfl (vp_in_nI (by omega) (by omega)) dX8_last_21 ?_
    refine hw_i (y := f (k - 1)) (by rw [nI_clamp (by omega)]) ?_
    exact W.iret (v := f (k - 1)) hx hb hr (fun t ht hW => ⟨f (k - 1), rfl, by unfold sp_last; rw [if_neg (by omega)], ht⟩) hS.2.2 dX8_last_22
  · refine lv_iconst (v := 0) hx hb dX8_last_7 (by decide) ?_
    refine lv_goto (tgt := 22) hx hb dX8_last_8 (by decide) ?_
    exact W.iret (v := 0) hx hb hr (fun t ht hW => ⟨0, rfl, by rw [(nI_eq0 (by omega)).mp c_4]; rfl, ht⟩) hS.2.2 dX8_last_22

set_option maxHeartbeats 4000000 in
set_option maxRecDepth 100000 in
/-- out(v) -/
theorem c_X8_out (l : Launch) (dC : Nat → ClassId) (dI : Nat → Nat → Nat) (cI cZ cJ : ClassId) (m0 : Nat) (m1 : Nat) (m2 : Nat) (m3 : Nat) (m4 : Nat) (m5 : Nat) (m6 : Nat) (th : Int32) (tp : Int32) (ty : Int32) (sf : Int32) (rdg : Int32) (rt : Int32) (dx : Int32) (dy : Int32) (p0 : Int32) (q0 : Int32) (p1 : Int32) (q1 : Int32) (kp : Int32) (w : Nat) (h : Nat) (rwd : Nat) (rht : Nat) (k : Nat) (sk : Nat) (tr : Nat) (co : Nat) (b : Nat) (ma : Int64) (mc : Int64) (mt : Int32) (f : Nat → Int32) (v : Int64) (hk0 : k < 4200) (sz : Nat) : Met l yX8_out wsX8_out ({ frames := 0, cells := 0, slots := 0, locals := 0 }) (hw_Pre (dC, dI) vwCl (ty3 cI cZ cJ) [(m0, .inr (7, [.int th, .ref m1, .int (nI w), .int (nI h), .int tp, .int ty, .ref m2, .ref m3, .int sf, .int rdg, .int rt, .int (nI rwd), .int (nI rht), .ref m4, .int dx, .int dy, .int p0, .int q0, .int p1, .int q1, .int kp, .ref m5, .ref m6, .int (nI k), .int (nI sk), .int (nI tr), .int (nI co), .long ma, .long mc, .int mt, .int (nI b)])), (m6, .inl (cI, 4200, .inl f))] sz [.ref m0, .long v]) (va_Qv (fun _ : Unit => True) (hw_at (dC, dI) vwCl (ty3 cI cZ cJ) (fun _ : Unit => [(m0, .inr (7, [.int th, .ref m1, .int (nI w), .int (nI h), .int tp, .int ty, .ref m2, .ref m3, .int sf, .int rdg, .int rt, .int (nI rwd), .int (nI rht), .ref m4, .int dx, .int dy, .int p0, .int q0, .int p1, .int q1, .int kp, .ref m5, .ref m6, .int (nI (k + 1)), .int (nI sk), .int (nI tr), .int (nI co), .long ma, .long mc, .int mt, .int (nI b)])), (m6, .inl (cI, 4200, .inl (upd f k v.toInt32)))]) (va_A [(m0, .inr (7, [.int th, .ref m1, .int (nI w), .int (nI h), .int tp, .int ty, .ref m2, .ref m3, .int sf, .int rdg, .int rt, .int (nI rwd), .int (nI rht), .ref m4, .int dx, .int dy, .int p0, .int q0, .int p1, .int q1, .int kp, .ref m5, .ref m6, .int (nI k), .int (nI sk), .int (nI tr), .int (nI co), .long ma, .long mc, .int mt, .int (nI b)])), (m6, .inl (cI, 4200, .inl f))] sz)) (va_A [(m0, .inr (7, [.int th, .ref m1, .int (nI w), .int (nI h), .int tp, .int ty, .ref m2, .ref m3, .int sf, .int rdg, .int rt, .int (nI rwd), .int (nI rht), .ref m4, .int dx, .int dy, .int p0, .int q0, .int p1, .int q1, .int kp, .ref m5, .ref m6, .int (nI k), .int (nI sk), .int (nI tr), .int (nI co), .long ma, .long mc, .int mt, .int (nI b)])), (m6, .inl (cI, 4200, .inl f))] sz)) 0 0 (va_A [(m0, .inr (7, [.int th, .ref m1, .int (nI w), .int (nI h), .int tp, .int ty, .ref m2, .ref m3, .int sf, .int rdg, .int rt, .int (nI rwd), .int (nI rht), .ref m4, .int dx, .int dy, .int p0, .int q0, .int p1, .int q1, .int kp, .ref m5, .ref m6, .int (nI k), .int (nI sk), .int (nI tr), .int (nI co), .long ma, .long mc, .int mt, .int (nI b)])), (m6, .inl (cI, 4200, .inl f))] sz) := by
  refine Met.ofW (cc := cX8_out) (maxL := 3) (ret := none) (by decide) rfl ?_
  intro pg ev s m args below meth cd s₁ B hml hv
  obtain ⟨rfl, hsz, hP, hK, hN, hZ, hD0⟩ := hv
  have hx := B.exec
  have hb := B.bytes
  have hr := B.returns
  have hts := atoms_spec (ws := wsX8_out) B.pre
  have hown : s.vm.findClass RX8 = some m.cls := findClass_of_methodNamed B.named
  have hlocks := B.notSynchronized
  subst hsz
  have hD := hD0.self (sz := s.heap.size)
  generalize hAe : va_A [(m0, .inr (7, [.int th, .ref m1, .int (nI w), .int (nI h), .int tp, .int ty, .ref m2, .ref m3, .int sf, .int rdg, .int rt, .int (nI rwd), .int (nI rht), .ref m4, .int dx, .int dy, .int p0, .int q0, .int p1, .int q1, .int kp, .ref m5, .ref m6, .int (nI k), .int (nI sk), .int (nI tr), .int (nI co), .long ma, .long mc, .int mt, .int (nI b)])), (m6, .inl (cI, 4200, .inl f))] s.heap.size = A at hD hZ ⊢
  have hA : ∀ q : Nat, s.heap.size ≤ q → A q := fun q h => by rw [← hAe]; exact Or.inr h
  have hS : va_S A s.heap s.heap [] := va_S.rf
  have hk : hw_K (dC, dI) vwCl (ty3 cI cZ cJ) A s := ⟨hK, hN, hZ⟩
  have hiX8 : ∀ w ∈ u_ws RX8 TX8 31, w ∈ wsX8_out := by decide +kernel
  have hl := lv_entry ([.ref m0, .long v]) (n := 3) (Nat.le_of_ble_eq_true rfl)
  rw [lg_entry_eq]
  generalize (lg_sl ([.ref m0, .long v]) ++ List.replicate (3 - (lg_sl ([.ref m0, .long v])).length) Slot.unset).toArray = ls at hl ⊢
  have hl : lv_has ls 3 [(0, .ref m0), (1, .long v)] := hl
  refine lv_aload_n hx hb dX8_out_0 rfl (lv_at hl 0 rfl) ?_
  refine va_get (D := (dC, dI)) (ci := 7) (v := .ref m6) (C := RX8) (T := TX8) (N := 31) hx hb hts hiX8 hown hK hP 0 rfl rfl 22 (by decide) (hts (.fieldLink RX8 45 "RefineRegionsModel" "bytes" "[I") (by decide +kernel)) (fun _ h9 => h9) rfl dX8_out_1 ?_
  refine lv_aload_n hx hb dX8_out_4 rfl (lv_at hl 0 rfl) ?_
  refine va_get (D := (dC, dI)) (ci := 7) (v := .int (nI k)) (C := RX8) (T := TX8) (N := 31) hx hb hts hiX8 hown hK hP 0 rfl rfl 23 (by decide) (hts (.fieldLink RX8 100 "RefineRegionsModel" "many" "I") (by decide +kernel)) (fun _ h9 => h9) rfl dX8_out_5 ?_
  refine lv_lload_n hx hb dX8_out_8 rfl (lv_at hl 1 rfl) ?_
  refine lv_l2i (v := v.toInt32) hx hb dX8_out_9 rfl ?_
  refine va_iast hx hb hK hP hD hS 1 0 rfl rfl (vp_in_nI hk0 (by omega)) dX8_out_10 (fun H locs hP hD hS => ?_)
  have eA : upd f (nI k).toNatClampNeg v.toInt32 = upd f k v.toInt32 := by rw [nI_clamp (by omega)]
  rw [eA] at hP hD
  have hP : va_P (dC, dI) vwCl [(m0, .inr (7, [.int th, .ref m1, .int (nI w), .int (nI h), .int tp, .int ty, .ref m2, .ref m3, .int sf, .int rdg, .int rt, .int (nI rwd), .int (nI rht), .ref m4, .int dx, .int dy, .int p0, .int q0, .int p1, .int q1, .int kp, .ref m5, .ref m6, .int (nI k), .int (nI sk), .int (nI tr), .int (nI co), .long ma, .long mc, .int mt, .int (nI b)])), (m6, .inl (cI, 4200, .inl (upd f k v.toInt32)))] H := hP
  have hD : va_D A [(m0, .inr (7, [.int th, .ref m1, .int (nI w), .int (nI h), .int tp, .int ty, .ref m2, .ref m3, .int sf, .int rdg, .int rt, .int (nI rwd), .int (nI rht), .ref m4, .int dx, .int dy, .int p0, .int q0, .int p1, .int q1, .int kp, .ref m5, .ref m6, .int (nI k), .int (nI sk), .int (nI tr), .int (nI co), .long ma, .long mc, .int mt, .int (nI b)])), (m6, .inl (cI, 4200, .inl (upd f k v.toInt32)))] := hD
  refine lv_aload_n hx hb dX8_out_11 rfl (lv_at hl 0 rfl) ?_
  refine lv_dup hx hb dX8_out_12 rfl ?_
  refine va_get (D := (dC, dI)) (ci := 7) (v := .int (nI k)) (C := RX8) (T := TX8) (N := 31) hx hb hts hiX8 hown hK hP 0 rfl rfl 23 (by decide) (hts (.fieldLink RX8 100 "RefineRegionsModel" "many" "I") (by decide +kernel)) (fun _ h9 => h9) rfl dX8_out_13 ?_
  refine lv_iconst (v := 1) hx hb dX8_out_16 (by decide) ?_
  refine lv_iadd hx hb dX8_out_17 ?_
  refine hw_i (y := nI (k + 1)) (nI_1 k) ?_
  refine va_put (D := (dC, dI)) (ci := 7) (v := .int (nI (k + 1))) (ty := .int) (C := RX8) (T := TX8) (N := 31) hx hb hts hiX8 tyX8 tyX8_ok nmX8 hown hK hP hD hS 0 rfl rfl 23 (by decide) (hts (.fieldLink RX8 100 "RefineRegionsModel" "many" "I") (by decide +kernel)) (fun _ h9 => h9) rfl (by decide +kernel) rfl rfl (Nat.le_of_ble_eq_true rfl) dX8_out_18 (fun H locs hP hD hS => ?_)
  have hP : va_P (dC, dI) vwCl [(m0, .inr (7, [.int th, .ref m1, .int (nI w), .int (nI h), .int tp, .int ty, .ref m2, .ref m3, .int sf, .int rdg, .int rt, .int (nI rwd), .int (nI rht), .ref m4, .int dx, .int dy, .int p0, .int q0, .int p1, .int q1, .int kp, .ref m5, .ref m6, .int (nI (k + 1)), .int (nI sk), .int (nI tr), .int (nI co), .long ma, .long mc, .int mt, .int (nI b)])), (m6, .inl (cI, 4200, .inl (upd f k v.toInt32)))] H := hP
  have hD : va_D A [(m0, .inr (7, [.int th, .ref m1, .int (nI w), .int (nI h), .int tp, .int ty, .ref m2, .ref m3, .int sf, .int rdg, .int rt, .int (nI rwd), .int (nI rht), .ref m4, .int dx, .int dy, .int p0, .int q0, .int p1, .int q1, .int kp, .ref m5, .ref m6, .int (nI (k + 1)), .int (nI sk), .int (nI tr), .int (nI co), .long ma, .long mc, .int mt, .int (nI b)])), (m6, .inl (cI, 4200, .inl (upd f k v.toInt32)))] := hD
  have hP9 := hP
  have hD9 := hD
  exact W.vret hx hb hr (fun t ht hW => ⟨⟨(), rfl, trivial, by rw [ht]; exact hP9, va_K.moved hW.alike hK, hD9⟩, hS.F ht⟩) hS.2.2 dX8_out_21

set_option maxHeartbeats 4000000 in
set_option maxRecDepth 100000 in
/-- byteOut() -/
theorem c_X8_byteOut (l : Launch) (dC : Nat → ClassId) (dI : Nat → Nat → Nat) (cI cZ cJ : ClassId) (m0 : Nat) (m1 : Nat) (m2 : Nat) (m3 : Nat) (m4 : Nat) (m5 : Nat) (m6 : Nat) (th : Int32) (tp : Int32) (ty : Int32) (sf : Int32) (rdg : Int32) (rt : Int32) (dx : Int32) (dy : Int32) (p0 : Int32) (q0 : Int32) (p1 : Int32) (q1 : Int32) (kp : Int32) (w : Nat) (h : Nat) (rwd : Nat) (rht : Nat) (k : Nat) (sk : Nat) (tr : Nat) (co : Nat) (b : Nat) (f : Nat → Int32) (wa : Nat) (wc : Nat) (wt : Nat) (hc0 : wc ≤ 150994944) (hk0 : k < 4200) (hk1 : k = 0 → wc < 134217728) (sz : Nat) : Met l yX8_byteOut wsX8_byteOut ({ frames := 1, cells := 0, slots := 0, locals := 22 }) (hw_Pre (dC, dI) vwCl (ty3 cI cZ cJ) [(m0, .inr (7, [.int th, .ref m1, .int (nI w), .int (nI h), .int tp, .int ty, .ref m2, .ref m3, .int sf, .int rdg, .int rt, .int (nI rwd), .int (nI rht), .ref m4, .int dx, .int dy, .int p0, .int q0, .int p1, .int q1, .int kp, .ref m5, .ref m6, .int (nI k), .int (nI sk), .int (nI tr), .int (nI co), .long (lN wa), .long (lN wc), .int (nI wt), .int (nI b)])), (m6, .inl (cI, 4200, .inl f))] sz [.ref m0]) (va_Qv (fun _ : Unit => True) (hw_at (dC, dI) vwCl (ty3 cI cZ cJ) (fun _ : Unit => [(m0, .inr (7, [.int th, .ref m1, .int (nI w), .int (nI h), .int tp, .int ty, .ref m2, .ref m3, .int sf, .int rdg, .int rt, .int (nI rwd), .int (nI rht), .ref m4, .int dx, .int dy, .int p0, .int q0, .int p1, .int q1, .int kp, .ref m5, .ref m6, .int (nI ((sp_bo wc k f).2.2.1)), .int (nI sk), .int (nI tr), .int (nI co), .long (lN wa), .long (lN ((sp_bo wc k f).1)), .int (nI ((sp_bo wc k f).2.1)), .int (nI b)])), (m6, .inl (cI, 4200, .inl ((sp_bo wc k f).2.2.2)))]) (va_A [(m0, .inr (7, [.int th, .ref m1, .int (nI w), .int (nI h), .int tp, .int ty, .ref m2, .ref m3, .int sf, .int rdg, .int rt, .int (nI rwd), .int (nI rht), .ref m4, .int dx, .int dy, .int p0, .int q0, .int p1, .int q1, .int kp, .ref m5, .ref m6, .int (nI k), .int (nI sk), .int (nI tr), .int (nI co), .long (lN wa), .long (lN wc), .int (nI wt), .int (nI b)])), (m6, .inl (cI, 4200, .inl f))] sz)) (va_A [(m0, .inr (7, [.int th, .ref m1, .int (nI w), .int (nI h), .int tp, .int ty, .ref m2, .ref m3, .int sf, .int rdg, .int rt, .int (nI rwd), .int (nI rht), .ref m4, .int dx, .int dy, .int p0, .int q0, .int p1, .int q1, .int kp, .ref m5, .ref m6, .int (nI k), .int (nI sk), .int (nI tr), .int (nI co), .long (lN wa), .long (lN wc), .int (nI wt), .int (nI b)])), (m6, .inl (cI, 4200, .inl f))] sz)) 0 0 (va_A [(m0, .inr (7, [.int th, .ref m1, .int (nI w), .int (nI h), .int tp, .int ty, .ref m2, .ref m3, .int sf, .int rdg, .int rt, .int (nI rwd), .int (nI rht), .ref m4, .int dx, .int dy, .int p0, .int q0, .int p1, .int q1, .int kp, .ref m5, .ref m6, .int (nI k), .int (nI sk), .int (nI tr), .int (nI co), .long (lN wa), .long (lN wc), .int (nI wt), .int (nI b)])), (m6, .inl (cI, 4200, .inl f))] sz) := by
  refine Met.ofW (cc := cX8_byteOut) (maxL := 2) (ret := none) (by decide) rfl ?_
  intro pg ev s m args below meth cd s₁ B hml hv
  obtain ⟨rfl, hsz, hP, hK, hN, hZ, hD0⟩ := hv
  have hx := B.exec
  have hb := B.bytes
  have hr := B.returns
  have hts := atoms_spec (ws := wsX8_byteOut) B.pre
  have hown : s.vm.findClass RX8 = some m.cls := findClass_of_methodNamed B.named
  have hlocks := B.notSynchronized
  subst hsz
  have hD := hD0.self (sz := s.heap.size)
  generalize hAe : va_A [(m0, .inr (7, [.int th, .ref m1, .int (nI w), .int (nI h), .int tp, .int ty, .ref m2, .ref m3, .int sf, .int rdg, .int rt, .int (nI rwd), .int (nI rht), .ref m4, .int dx, .int dy, .int p0, .int q0, .int p1, .int q1, .int kp, .ref m5, .ref m6, .int (nI k), .int (nI sk), .int (nI tr), .int (nI co), .long (lN wa), .long (lN wc), .int (nI wt), .int (nI b)])), (m6, .inl (cI, 4200, .inl f))] s.heap.size = A at hD hZ ⊢
  have hA : ∀ q : Nat, s.heap.size ≤ q → A q := fun q h => by rw [← hAe]; exact Or.inr h
  have hS : va_S A s.heap s.heap [] := va_S.rf
  have hk : hw_K (dC, dI) vwCl (ty3 cI cZ cJ) A s := ⟨hK, hN, hZ⟩
  have hiX8 : ∀ w ∈ u_ws RX8 TX8 31, w ∈ wsX8_byteOut := by decide +kernel
  have hl := lv_entry ([.ref m0]) (n := 2) (Nat.le_of_ble_eq_true rfl)
  rw [lg_entry_eq]
  generalize (lg_sl ([.ref m0]) ++ List.replicate (2 - (lg_sl ([.ref m0])).length) Slot.unset).toArray = ls at hl ⊢
  have hl : lv_has ls 2 [(0, .ref m0)] := hl
  refine lv_aload_n hx hb dX8_byteOut_0 rfl (lv_at hl 0 rfl) ?_
  refine hw_callSe (va_runV (As := []) (rest := []) ⟨hx, hb, hml, hown, hts⟩ (c_X8_last l dC dI cI cZ cJ m0 m1 m2 m3 m4 m5 m6 th tp ty sf rdg rt dx dy p0 q0 p1 q1 kp w h rwd rht k sk tr co b (lN wa) (lN wc) (nI wt) f (by omega)) (cwV 0 hts gX8_byteOut_X8_last rfl rfl rfl (by decide +kernel) ⟨Nat.le_of_ble_eq_true rfl, Nat.le_of_ble_eq_true rfl⟩) (hw_roV hP hS hk [0, 1] rfl (ci := 7) (q0 := 0) rfl rfl) rfl rfl hl.1 rfl (lv_room (Nat.le_of_ble_eq_true rfl)) dX8_byteOut_1 ⟨Nat.le_of_ble_eq_true rfl, Nat.le_of_ble_eq_true rfl⟩) ?_
  refine lv_sipush (v := 255) hx hb dX8_byteOut_4 (by decide) ?_
  refine lv_icmp_ne (tgt := 14) hx hb dX8_byteOut_7 (by decide) (fun c_7 => ?_) (fun c_7 => ?_)
  · refine lv_iconst (v := 0) hx hb dX8_byteOut_14 (by decide) ?_
    refine lv_istore_n (lv' := [(1, .int 0), (0, .ref m0)]) hx hb dX8_byteOut_15 rfl hl (by decide) rfl (fun ls hl => ?_)
    refine lv_iload_n hx hb dX8_byteOut_16 rfl (lv_at hl 0 rfl) ?_
    refine lv_if_ne (tgt := 74) hx hb dX8_byteOut_17 (by decide) (fun c9 => absurd c9 (by decide)) (fun _ => ?_)
    refine lv_aload_n hx hb dX8_byteOut_20 rfl (lv_at hl 1 rfl) ?_
    refine va_get (D := (dC, dI)) (ci := 7) (v := .long (lN wc)) (C := RX8) (T := TX8) (N := 31) hx hb hts hiX8 hown hK hP 0 rfl rfl 28 (by decide) (hts (.fieldLink RX8 107 "RefineRegionsModel" "c" "J") (by decide +kernel)) (fun _ h9 => h9) rfl dX8_byteOut_21 ?_
    refine lv_ldc2 (v := 134217728) hx hb hown (hts (.constantLong RX8 111 (134217728)) (by decide +kernel)) dX8_byteOut_24 ?_
    refine W.lcmp hx hb dX8_byteOut_27 ?_
    refine lv_if_lt (tgt := 74) hx hb dX8_byteOut_28 (by decide) (fun c_28 => ?_) (fun c_28 => ?_)
    · refine lv_iload_n hx hb dX8_byteOut_74 rfl (lv_at hl 0 rfl) ?_
      refine lv_if_eq (tgt := 110) hx hb dX8_byteOut_75 (by decide) (fun _ => ?_) (fun c9 => absurd (by decide) c9)
      refine lv_aload_n hx hb dX8_byteOut_110 rfl (lv_at hl 1 rfl) ?_
      refine lv_aload_n hx hb dX8_byteOut_111 rfl (lv_at hl 1 rfl) ?_
      refine va_get (D := (dC, dI)) (ci := 7) (v := .long (lN wc)) (C := RX8) (T := TX8) (N := 31) hx hb hts hiX8 hown hK hP 0 rfl rfl 28 (by decide) (hts (.fieldLink RX8 107 "RefineRegionsModel" "c" "J") (by decide +kernel)) (fun _ h9 => h9) rfl dX8_byteOut_112 ?_
      refine lv_bipush (v := 19) hx hb dX8_byteOut_115 (by decide) ?_
      refine lv_lshr (v := (lN wc) >>> ((19 : Int32).toInt64 &&& 63)) hx hb dX8_byteOut_117 rfl ?_
      refine hw_l (y := lN (wc / 524288)) (sp_shr19 (by omega)) ?_
      refine hw_callv (wr := []) (w2 := fun _ : Unit => [(m0, .inr (7, [.int th, .ref m1, .int (nI w), .int (nI h), .int tp, .int ty, .ref m2, .ref m3, .int sf, .int rdg, .int rt, .int (nI rwd), .int (nI rht), .ref m4, .int dx, .int dy, .int p0, .int q0, .int p1, .int q1, .int kp, .ref m5, .ref m6, .int (nI (k + 1)), .int (nI sk), .int (nI tr), .int (nI co), .long (lN wa), .long (lN wc), .int (nI wt), .int (nI b)])), (m6, .inl (cI, 4200, .inl (upd f k (lN (wc / 524288)).toInt32)))]) (va_runV (As := [.long (lN (wc / 524288))]) (rest := []) ⟨hx, hb, hml, hown, hts⟩ (c_X8_out l dC dI cI cZ cJ m0 m1 m2 m3 m4 m5 m6 th tp ty sf rdg rt dx dy p0 q0 p1 q1 kp w h rwd rht k sk tr co b (lN wa) (lN wc) (nI wt) f (lN (wc / 524288)) (hk0) s.heap.size) (cwV 1 hts gX8_byteOut_X8_out rfl rfl rfl (by decide +kernel) ⟨Nat.le_of_ble_eq_true rfl, Nat.le_of_ble_eq_true rfl⟩) (hw_preV hP hD hS hA hk [0, 1] (by decide) rfl (ci := 7) (q0 := 0) rfl rfl) rfl rfl hl.1 rfl (lv_room (Nat.le_of_ble_eq_true rfl)) dX8_byteOut_118 ⟨Nat.le_of_ble_eq_true rfl, Nat.le_of_ble_eq_true rfl⟩) hP hD hS hA [0, 1] [] [0, 1] rfl rfl (by decide) (by decide) (by decide) (fun _ => rfl) (fun u_118 H locs hw hP hD hS => ?_)
      have hP : va_P (dC, dI) vwCl [(m0, .inr (7, [.int th, .ref m1, .int (nI w), .int (nI h), .int tp, .int ty, .ref m2, .ref m3, .int sf, .int rdg, .int rt, .int (nI rwd), .int (nI rht), .ref m4, .int dx, .int dy, .int p0, .int q0, .int p1, .int q1, .int kp, .ref m5, .ref m6, .int (nI (k + 1)), .int (nI sk), .int (nI tr), .int (nI co), .long (lN wa), .long (lN wc), .int (nI wt), .int (nI b)])), (m6, .inl (cI, 4200, .inl (upd f k (lN (wc / 524288)).toInt32)))] H := hP
      have hD : va_D A [(m0, .inr (7, [.int th, .ref m1, .int (nI w), .int (nI h), .int tp, .int ty, .ref m2, .ref m3, .int sf, .int rdg, .int rt, .int (nI rwd), .int (nI rht), .ref m4, .int dx, .int dy, .int p0, .int q0, .int p1, .int q1, .int kp, .ref m5, .ref m6, .int (nI (k + 1)), .int (nI sk), .int (nI tr), .int (nI co), .long (lN wa), .long (lN wc), .int (nI wt), .int (nI b)])), (m6, .inl (cI, 4200, .inl (upd f k (lN (wc / 524288)).toInt32)))] := hD
      have eA : upd f k (lN (wc / 524288)).toInt32 = upd f k (nI (wc / 524288)) := by rw [lN_i]
      rw [eA] at hP hD
      have hP : va_P (dC, dI) vwCl [(m0, .inr (7, [.int th, .ref m1, .int (nI w), .int (nI h), .int tp, .int ty, .ref m2, .ref m3, .int sf, .int rdg, .int rt, .int (nI rwd), .int (nI rht), .ref m4, .int dx, .int dy, .int p0, .int q0, .int p1, .int q1, .int kp, .ref m5, .ref m6, .int (nI (k + 1)), .int (nI sk), .int (nI tr), .int (nI co), .long (lN wa), .long (lN wc), .int (nI wt), .int (nI b)])), (m6, .inl (cI, 4200, .inl (upd f k (nI (wc / 524288)))))] H := hP
      have hD : va_D A [(m0, .inr (7, [.int th, .ref m1, .int (nI w), .int (nI h), .int tp, .int ty, .ref m2, .ref m3, .int sf, .int rdg, .int rt, .int (nI rwd), .int (nI rht), .ref m4, .int dx, .int dy, .int p0, .int q0, .int p1, .int q1, .int kp, .ref m5, .ref m6, .int (nI (k + 1)), .int (nI sk), .int (nI tr), .int (nI co), .long (lN wa), .long (lN wc), .int (nI wt), .int (nI b)])), (m6, .inl (cI, 4200, .inl (upd f k (nI (wc / 524288)))))] := hD
      refine lv_aload_n hx hb dX8_byteOut_121 rfl (lv_at hl 1 rfl) ?_
      refine lv_aload_n hx hb dX8_byteOut_122 rfl (lv_at hl 1 rfl) ?_
      refine va_get (D := (dC, dI)) (ci := 7) (v := .long (lN wc)) (C := RX8) (T := TX8) (N := 31) hx hb hts hiX8 hown hK hP 0 rfl rfl 28 (by decide) (hts (.fieldLink RX8 107 "RefineRegionsModel" "c" "J") (by decide +kernel)) (fun _ h9 => h9) rfl dX8_byteOut_123 ?_
      refine lv_ldc2 (v := 524287) hx hb hown (hts (.constantLong RX8 122 (524287)) (by decide +kernel)) dX8_byteOut_126 ?_
      refine lv_land hx hb dX8_byteOut_129 ?_
      refine hw_l (y := lN (wc % 524288)) (sp_m19 (by omega)) ?_
      refine va_put (D := (dC, dI)) (ci := 7) (v := .long (lN (wc % 524288))) (ty := .long) (C := RX8) (T := TX8) (N := 31) hx hb hts hiX8 tyX8 tyX8_ok nmX8 hown hK hP hD hS 0 rfl rfl 28 (by decide) (hts (.fieldLink RX8 107 "RefineRegionsModel" "c" "J") (by decide +kernel)) (fun _ h9 => h9) rfl (by decide +kernel) rfl rfl (Nat.le_of_ble_eq_true rfl) dX8_byteOut_130 (fun H locs hP hD hS => ?_)
      have hP : va_P (dC, dI) vwCl [(m0, .inr (7, [.int th, .ref m1, .int (nI w), .int (nI h), .int tp, .int ty, .ref m2, .ref m3, .int sf, .int rdg, .int rt, .int (nI rwd), .int (nI rht), .ref m4, .int dx, .int dy, .int p0, .int q0, .int p1, .int q1, .int kp, .ref m5, .ref m6, .int (nI (k + 1)), .int (nI sk), .int (nI tr), .int (nI co), .long (lN wa), .long (lN (wc % 524288)), .int (nI wt), .int (nI b)])), (m6, .inl (cI, 4200, .inl (upd f k (nI (wc / 524288)))))] H := hP
      have hD : va_D A [(m0, .inr (7, [.int th, .ref m1, .int (nI w), .int (nI h), .int tp, .int ty, .ref m2, .ref m3, .int sf, .int rdg, .int rt, .int (nI rwd), .int (nI rht), .ref m4, .int dx, .int dy, .int p0, .int q0, .int p1, .int q1, .int kp, .ref m5, .ref m6, .int (nI (k + 1)), .int (nI sk), .int (nI tr), .int (nI co), .long (lN wa), .long (lN (wc % 524288)), .int (nI wt), .int (nI b)])), (m6, .inl (cI, 4200, .inl (upd f k (nI (wc / 524288)))))] := hD
      refine lv_aload_n hx hb dX8_byteOut_133 rfl (lv_at hl 1 rfl) ?_
      refine lv_bipush (v := 8) hx hb dX8_byteOut_134 (by decide) ?_
      refine va_put (D := (dC, dI)) (ci := 7) (v := .int 8) (ty := .int) (C := RX8) (T := TX8) (N := 31) hx hb hts hiX8 tyX8 tyX8_ok nmX8 hown hK hP hD hS 0 rfl rfl 29 (by decide) (hts (.fieldLink RX8 119 "RefineRegionsModel" "t" "I") (by decide +kernel)) (fun _ h9 => h9) rfl (by decide +kernel) rfl rfl (Nat.le_of_ble_eq_true rfl) dX8_byteOut_136 (fun H locs hP hD hS => ?_)
      have hP : va_P (dC, dI) vwCl [(m0, .inr (7, [.int th, .ref m1, .int (nI w), .int (nI h), .int tp, .int ty, .ref m2, .ref m3, .int sf, .int rdg, .int rt, .int (nI rwd), .int (nI rht), .ref m4, .int dx, .int dy, .int p0, .int q0, .int p1, .int q1, .int kp, .ref m5, .ref m6, .int (nI (k + 1)), .int (nI sk), .int (nI tr), .int (nI co), .long (lN wa), .long (lN (wc % 524288)), .int 8, .int (nI b)])), (m6, .inl (cI, 4200, .inl (upd f k (nI (wc / 524288)))))] H := hP
      have hD : va_D A [(m0, .inr (7, [.int th, .ref m1, .int (nI w), .int (nI h), .int tp, .int ty, .ref m2, .ref m3, .int sf, .int rdg, .int rt, .int (nI rwd), .int (nI rht), .ref m4, .int dx, .int dy, .int p0, .int q0, .int p1, .int q1, .int kp, .ref m5, .ref m6, .int (nI (k + 1)), .int (nI sk), .int (nI tr), .int (nI co), .long (lN wa), .long (lN (wc % 524288)), .int 8, .int (nI b)])), (m6, .inl (cI, 4200, .inl (upd f k (nI (wc / 524288)))))] := hD
      have hP9 : va_P (dC, dI) vwCl ((fun _ : Unit => [(m0, .inr (7, [.int th, .ref m1, .int (nI w), .int (nI h), .int tp, .int ty, .ref m2, .ref m3, .int sf, .int rdg, .int rt, .int (nI rwd), .int (nI rht), .ref m4, .int dx, .int dy, .int p0, .int q0, .int p1, .int q1, .int kp, .ref m5, .ref m6, .int (nI ((sp_bo wc k f).2.2.1)), .int (nI sk), .int (nI tr), .int (nI co), .long (lN wa), .long (lN ((sp_bo wc k f).1)), .int (nI ((sp_bo wc k f).2.1)), .int (nI b)])), (m6, .inl (cI, 4200, .inl ((sp_bo wc k f).2.2.2)))]) ()) H := by
        rw [sp_bo_b c_7 (by rw [lg_cmp_lt, show (134217728 : Int64) = lN 134217728 from rfl, pk_lLT (by omega) (by omega)] at c_28; exact c_28)]
        exact hP
      have hD9 : va_D A ((fun _ : Unit => [(m0, .inr (7, [.int th, .ref m1, .int (nI w), .int (nI h), .int tp, .int ty, .ref m2, .ref m3, .int sf, .int rdg, .int rt, .int (nI rwd), .int (nI rht), .ref m4, .int dx, .int dy, .int p0, .int q0, .int p1, .int q1, .int kp, .ref m5, .ref m6, .int (nI ((sp_bo wc k f).2.2.1)), .int (nI sk), .int (nI tr), .int (nI co), .long (lN wa), .long (lN ((sp_bo wc k f).1)), .int (nI ((sp_bo wc k f).2.1)), .int (nI b)])), (m6, .inl (cI, 4200, .inl ((sp_bo wc k f).2.2.2)))]) ()) := by
        rw [sp_bo_b c_7 (by rw [lg_cmp_lt, show (134217728 : Int64) = lN 134217728 from rfl, pk_lLT (by omega) (by omega)] at c_28; exact c_28)]
        exact hD
      exact W.vret hx hb hr (fun t ht hW => ⟨⟨(), rfl, trivial, by rw [ht]; exact hP9, va_K.moved hW.alike hK, hD9⟩, hS.F ht⟩) hS.2.2 dX8_byteOut_139
    · have hc9 : ¬ wc < 134217728 := by rw [lg_cmp_lt, show (134217728 : Int64) = lN 134217728 from rfl, pk_lLT (by omega) (by omega)] at c_28; exact c_28
      have hk9 : 1 ≤ k := by
        rcases Nat.eq_zero_or_pos k with h9 | h9
        · exact absurd (hk1 h9) hc9
        · exact h9
      refine lv_aload_n hx hb dX8_byteOut_31 rfl (lv_at hl 1 rfl) ?_
      refine va_get (D := (dC, dI)) (ci := 7) (v := .ref m6) (C := RX8) (T := TX8) (N := 31) hx hb hts hiX8 hown hK hP 0 rfl rfl 22 (by decide) (hts (.fieldLink RX8 45 "RefineRegionsModel" "bytes" "[I") (by decide +kernel)) (fun _ h9 => h9) rfl dX8_byteOut_32 ?_
      refine lv_aload_n hx hb dX8_byteOut_35 rfl (lv_at hl 1 rfl) ?_
      refine va_get (D := (dC, dI)) (ci := 7) (v := .int (nI k)) (C := RX8) (T := TX8) (N := 31) hx hb hts hiX8 hown hK hP 0 rfl rfl 23 (by decide) (hts (.fieldLink RX8 100 "RefineRegionsModel" "many" "I") (by decide +kernel)) (fun _ h9 => h9) rfl dX8_byteOut_36 ?_
      refine lv_iconst (v := 1) hx hb dX8_byteOut_39 (by decide) ?_
      refine lv_isub hx hb dX8_byteOut_40 ?_
      refine hw_i (y := nI (k - 1)) (by rw [show (1 : Int32) = nI 1 from rfl]; exact pk_sub hk9) ?_
      refine lv_dup2_11 hx hb dX8_byteOut_41 rfl rfl ?_
      refine va_iald hx hb hK hP 1 0 rfl rfl (vp_in_nI (by omega) (by omega)) dX8_byteOut_42 ?_
      refine hw_i (y := f (k - 1)) (by rw [nI_clamp (by omega)]) ?_
      refine lv_iconst (v := 1) hx hb dX8_byteOut_43 (by decide) ?_
      refine lv_iadd hx hb dX8_byteOut_44 ?_
      refine va_iast hx hb hK hP hD hS 1 0 rfl rfl (vp_in_nI (by omega) (by omega)) dX8_byteOut_45 (fun H locs hP hD hS => ?_)
      have eA : upd f (nI (k - 1)).toNatClampNeg ((f (k - 1)) + 1) = upd f (k - 1) (f (k - 1) + 1) := by rw [nI_clamp (by omega)]
      rw [eA] at hP hD
      have hP : va_P (dC, dI) vwCl [(m0, .inr (7, [.int th, .ref m1, .int (nI w), .int (nI h), .int tp, .int ty, .ref m2, .ref m3, .int sf, .int rdg, .int rt, .int (nI rwd), .int (nI rht), .ref m4, .int dx, .int dy, .int p0, .int q0, .int p1, .int q1, .int kp, .ref m5, .ref m6, .int (nI k), .int (nI sk), .int (nI tr), .int (nI co), .long (lN wa), .long (lN wc), .int (nI wt), .int (nI b)])), (m6, .inl (cI, 4200, .inl (upd f (k - 1) (f (k - 1) + 1))))] H := hP
      have hD : va_D A [(m0, .inr (7, [.int th, .ref m1, .int (nI w), .int (nI h), .int tp, .int ty, .ref m2, .ref m3, .int sf, .int rdg, .int rt, .int (nI rwd), .int (nI rht), .ref m4, .int dx, .int dy, .int p0, .int q0, .int p1, .int q1, .int kp, .ref m5, .ref m6, .int (nI k), .int (nI sk), .int (nI tr), .int (nI co), .long (lN wa), .long (lN wc), .int (nI wt), .int (nI b)])), (m6, .inl (cI, 4200, .inl (upd f (k - 1) (f (k - 1) + 1))))] := hD
      refine lv_aload_n hx hb dX8_byteOut_46 rfl (lv_at hl 1 rfl) ?_
      refine lv_aload_n hx hb dX8_byteOut_47 rfl (lv_at hl 1 rfl) ?_
      refine va_get (D := (dC, dI)) (ci := 7) (v := .long (lN wc)) (C := RX8) (T := TX8) (N := 31) hx hb hts hiX8 hown hK hP 0 rfl rfl 28 (by decide) (hts (.fieldLink RX8 107 "RefineRegionsModel" "c" "J") (by decide +kernel)) (fun _ h9 => h9) rfl dX8_byteOut_48 ?_
      refine lv_ldc2 (v := 134217728) hx hb hown (hts (.constantLong RX8 111 (134217728)) (by decide +kernel)) dX8_byteOut_51 ?_
      refine lv_lsub hx hb dX8_byteOut_54 ?_
      refine hw_l (y := lN (wc - 134217728)) (by rw [show (134217728 : Int64) = lN 134217728 from rfl]; exact lN_sub (by omega)) ?_
      refine va_put (D := (dC, dI)) (ci := 7) (v := .long (lN (wc - 134217728))) (ty := .long) (C := RX8) (T := TX8) (N := 31) hx hb hts hiX8 tyX8 tyX8_ok nmX8 hown hK hP hD hS 0 rfl rfl 28 (by decide) (hts (.fieldLink RX8 107 "RefineRegionsModel" "c" "J") (by decide +kernel)) (fun _ h9 => h9) rfl (by decide +kernel) rfl rfl (Nat.le_of_ble_eq_true rfl) dX8_byteOut_55 (fun H locs hP hD hS => ?_)
      have hP : va_P (dC, dI) vwCl [(m0, .inr (7, [.int th, .ref m1, .int (nI w), .int (nI h), .int tp, .int ty, .ref m2, .ref m3, .int sf, .int rdg, .int rt, .int (nI rwd), .int (nI rht), .ref m4, .int dx, .int dy, .int p0, .int q0, .int p1, .int q1, .int kp, .ref m5, .ref m6, .int (nI k), .int (nI sk), .int (nI tr), .int (nI co), .long (lN wa), .long (lN (wc - 134217728)), .int (nI wt), .int (nI b)])), (m6, .inl (cI, 4200, .inl (upd f (k - 1) (f (k - 1) + 1))))] H := hP
      have hD : va_D A [(m0, .inr (7, [.int th, .ref m1, .int (nI w), .int (nI h), .int tp, .int ty, .ref m2, .ref m3, .int sf, .int rdg, .int rt, .int (nI rwd), .int (nI rht), .ref m4, .int dx, .int dy, .int p0, .int q0, .int p1, .int q1, .int kp, .ref m5, .ref m6, .int (nI k), .int (nI sk), .int (nI tr), .int (nI co), .long (lN wa), .long (lN (wc - 134217728)), .int (nI wt), .int (nI b)])), (m6, .inl (cI, 4200, .inl (upd f (k - 1) (f (k - 1) + 1))))] := hD
      refine lv_aload_n hx hb dX8_byteOut_58 rfl (lv_at hl 1 rfl) ?_
      refine hw_callSe (va_runV (As := []) (rest := []) ⟨hx, hb, hml, hown, hts⟩ (c_X8_last l dC dI cI cZ cJ m0 m1 m2 m3 m4 m5 m6 th tp ty sf rdg rt dx dy p0 q0 p1 q1 kp w h rwd rht k sk tr co b (lN wa) (lN (wc - 134217728)) (nI wt) (upd f (k - 1) (f (k - 1) + 1)) (by omega)) (cwV 0 hts gX8_byteOut_X8_last rfl rfl rfl (by decide +kernel) ⟨Nat.le_of_ble_eq_true rfl, Nat.le_of_ble_eq_true rfl⟩) (hw_roV hP hS hk [0, 1] rfl (ci := 7) (q0 := 0) rfl rfl) rfl rfl hl.1 rfl (lv_room (Nat.le_of_ble_eq_true rfl)) dX8_byteOut_59 ⟨Nat.le_of_ble_eq_true rfl, Nat.le_of_ble_eq_true rfl⟩) ?_
      refine lv_sipush (v := 255) hx hb dX8_byteOut_62 (by decide) ?_
      refine lv_icmp_ne (tgt := 72) hx hb dX8_byteOut_65 (by decide) (fun c_65 => ?_) (fun c_65 => ?_)
      · refine lv_iconst (v := 0) hx hb dX8_byteOut_72 (by decide) ?_
        refine lv_istore_n (lv' := [(1, .int 0), (0, .ref m0)]) hx hb dX8_byteOut_73 rfl hl (by decide) rfl (fun ls hl => ?_)
        refine lv_iload_n hx hb dX8_byteOut_74 rfl (lv_at hl 0 rfl) ?_
        refine lv_if_eq (tgt := 110) hx hb dX8_byteOut_75 (by decide) (fun _ => ?_) (fun c9 => absurd (by decide) c9)
        refine lv_aload_n hx hb dX8_byteOut_110 rfl (lv_at hl 1 rfl) ?_
        refine lv_aload_n hx hb dX8_byteOut_111 rfl (lv_at hl 1 rfl) ?_
        refine va_get (D := (dC, dI)) (ci := 7) (v := .long (lN (wc - 134217728))) (C := RX8) (T := TX8) (N := 31) hx hb hts hiX8 hown hK hP 0 rfl rfl 28 (by decide) (hts (.fieldLink RX8 107 "RefineRegionsModel" "c" "J") (by decide +kernel)) (fun _ h9 => h9) rfl dX8_byteOut_112 ?_
        refine lv_bipush (v := 19) hx hb dX8_byteOut_115 (by decide) ?_
        refine lv_lshr (v := (lN (wc - 134217728)) >>> ((19 : Int32).toInt64 &&& 63)) hx hb dX8_byteOut_117 rfl ?_
        refine hw_l (y := lN ((wc - 134217728) / 524288)) (sp_shr19 (by omega)) ?_
        refine hw_callv (wr := []) (w2 := fun _ : Unit => [(m0, .inr (7, [.int th, .ref m1, .int (nI w), .int (nI h), .int tp, .int ty, .ref m2, .ref m3, .int sf, .int rdg, .int rt, .int (nI rwd), .int (nI rht), .ref m4, .int dx, .int dy, .int p0, .int q0, .int p1, .int q1, .int kp, .ref m5, .ref m6, .int (nI (k + 1)), .int (nI sk), .int (nI tr), .int (nI co), .long (lN wa), .long (lN (wc - 134217728)), .int (nI wt), .int (nI b)])), (m6, .inl (cI, 4200, .inl (upd (upd f (k - 1) (f (k - 1) + 1)) k (lN ((wc - 134217728) / 524288)).toInt32)))]) (va_runV (As := [.long (lN ((wc - 134217728) / 524288))]) (rest := []) ⟨hx, hb, hml, hown, hts⟩ (c_X8_out l dC dI cI cZ cJ m0 m1 m2 m3 m4 m5 m6 th tp ty sf rdg rt dx dy p0 q0 p1 q1 kp w h rwd rht k sk tr co b (lN wa) (lN (wc - 134217728)) (nI wt) (upd f (k - 1) (f (k - 1) + 1)) (lN ((wc - 134217728) / 524288)) (hk0) H.size) (cwV 1 hts gX8_byteOut_X8_out rfl rfl rfl (by decide +kernel) ⟨Nat.le_of_ble_eq_true rfl, Nat.le_of_ble_eq_true rfl⟩) (hw_preV hP hD hS hA hk [0, 1] (by decide) rfl (ci := 7) (q0 := 0) rfl rfl) rfl rfl hl.1 rfl (lv_room (Nat.le_of_ble_eq_true rfl)) dX8_byteOut_118 ⟨Nat.le_of_ble_eq_true rfl, Nat.le_of_ble_eq_true rfl⟩) hP hD hS hA [0, 1] [] [0, 1] rfl rfl (by decide) (by decide) (by decide) (fun _ => rfl) (fun u_118_2 H locs hw hP hD hS => ?_)
        have hP : va_P (dC, dI) vwCl [(m0, .inr (7, [.int th, .ref m1, .int (nI w), .int (nI h), .int tp, .int ty, .ref m2, .ref m3, .int sf, .int rdg, .int rt, .int (nI rwd), .int (nI rht), .ref m4, .int dx, .int dy, .int p0, .int q0, .int p1, .int q1, .int kp, .ref m5, .ref m6, .int (nI (k + 1)), .int (nI sk), .int (nI tr), .int (nI co), .long (lN wa), .long (lN (wc - 134217728)), .int (nI wt), .int (nI b)])), (m6, .inl (cI, 4200, .inl (upd (upd f (k - 1) (f (k - 1) + 1)) k (lN ((wc - 134217728) / 524288)).toInt32)))] H := hP
        have hD : va_D A [(m0, .inr (7, [.int th, .ref m1, .int (nI w), .int (nI h), .int tp, .int ty, .ref m2, .ref m3, .int sf, .int rdg, .int rt, .int (nI rwd), .int (nI rht), .ref m4, .int dx, .int dy, .int p0, .int q0, .int p1, .int q1, .int kp, .ref m5, .ref m6, .int (nI (k + 1)), .int (nI sk), .int (nI tr), .int (nI co), .long (lN wa), .long (lN (wc - 134217728)), .int (nI wt), .int (nI b)])), (m6, .inl (cI, 4200, .inl (upd (upd f (k - 1) (f (k - 1) + 1)) k (lN ((wc - 134217728) / 524288)).toInt32)))] := hD
        have eA : upd (upd f (k - 1) (f (k - 1) + 1)) k (lN ((wc - 134217728) / 524288)).toInt32 = upd (upd f (k - 1) (f (k - 1) + 1)) k (nI ((wc - 134217728) / 524288)) := by rw [lN_i]
        rw [eA] at hP hD
        have hP : va_P (dC, dI) vwCl [(m0, .inr (7, [.int th, .ref m1, .int (nI w), .int (nI h), .int tp, .int ty, .ref m2, .ref m3, .int sf, .int rdg, .int rt, .int (nI rwd), .int (nI rht), .ref m4, .int dx, .int dy, .int p0, .int q0, .int p1, .int q1, .int kp, .ref m5, .ref m6, .int (nI (k + 1)), .int (nI sk), .int (nI tr), .int (nI co), .long (lN wa), .long (lN (wc - 134217728)), .int (nI wt), .int (nI b)])), (m6, .inl (cI, 4200, .inl (upd (upd f (k - 1) (f (k - 1) + 1)) k (nI ((wc - 134217728) / 524288)))))] H := hP
        have hD : va_D A [(m0, .inr (7, [.int th, .ref m1, .int (nI w), .int (nI h), .int tp, .int ty, .ref m2, .ref m3, .int sf, .int rdg, .int rt, .int (nI rwd), .int (nI rht), .ref m4, .int dx, .int dy, .int p0, .int q0, .int p1, .int q1, .int kp, .ref m5, .ref m6, .int (nI (k + 1)), .int (nI sk), .int (nI tr), .int (nI co), .long (lN wa), .long (lN (wc - 134217728)), .int (nI wt), .int (nI b)])), (m6, .inl (cI, 4200, .inl (upd (upd f (k - 1) (f (k - 1) + 1)) k (nI ((wc - 134217728) / 524288)))))] := hD
        refine lv_aload_n hx hb dX8_byteOut_121 rfl (lv_at hl 1 rfl) ?_
        refine lv_aload_n hx hb dX8_byteOut_122 rfl (lv_at hl 1 rfl) ?_
        refine va_get (D := (dC, dI)) (ci := 7) (v := .long (lN (wc - 134217728))) (C := RX8) (T := TX8) (N := 31) hx hb hts hiX8 hown hK hP 0 rfl rfl 28 (by decide) (hts (.fieldLink RX8 107 "RefineRegionsModel" "c" "J") (by decide +kernel)) (fun _ h9 => h9) rfl dX8_byteOut_123 ?_
        refine lv_ldc2 (v := 524287) hx hb hown (hts (.constantLong RX8 122 (524287)) (by decide +kernel)) dX8_byteOut_126 ?_
        refine lv_land hx hb dX8_byteOut_129 ?_
        refine hw_l (y := lN ((wc - 134217728) % 524288)) (sp_m19 (by omega)) ?_
        refine va_put (D := (dC, dI)) (ci := 7) (v := .long (lN ((wc - 134217728) % 524288))) (ty := .long) (C := RX8) (T := TX8) (N := 31) hx hb hts hiX8 tyX8 tyX8_ok nmX8 hown hK hP hD hS 0 rfl rfl 28 (by decide) (hts (.fieldLink RX8 107 "RefineRegionsModel" "c" "J") (by decide +kernel)) (fun _ h9 => h9) rfl (by decide +kernel) rfl rfl (Nat.le_of_ble_eq_true rfl) dX8_byteOut_130 (fun H locs hP hD hS => ?_)
        have hP : va_P (dC, dI) vwCl [(m0, .inr (7, [.int th, .ref m1, .int (nI w), .int (nI h), .int tp, .int ty, .ref m2, .ref m3, .int sf, .int rdg, .int rt, .int (nI rwd), .int (nI rht), .ref m4, .int dx, .int dy, .int p0, .int q0, .int p1, .int q1, .int kp, .ref m5, .ref m6, .int (nI (k + 1)), .int (nI sk), .int (nI tr), .int (nI co), .long (lN wa), .long (lN ((wc - 134217728) % 524288)), .int (nI wt), .int (nI b)])), (m6, .inl (cI, 4200, .inl (upd (upd f (k - 1) (f (k - 1) + 1)) k (nI ((wc - 134217728) / 524288)))))] H := hP
        have hD : va_D A [(m0, .inr (7, [.int th, .ref m1, .int (nI w), .int (nI h), .int tp, .int ty, .ref m2, .ref m3, .int sf, .int rdg, .int rt, .int (nI rwd), .int (nI rht), .ref m4, .int dx, .int dy, .int p0, .int q0, .int p1, .int q1, .int kp, .ref m5, .ref m6, .int (nI (k + 1)), .int (nI sk), .int (nI tr), .int (nI co), .long (lN wa), .long (lN ((wc - 134217728) % 524288)), .int (nI wt), .int (nI b)])), (m6, .inl (cI, 4200, .inl (upd (upd f (k - 1) (f (k - 1) + 1)) k (nI ((wc - 134217728) / 524288)))))] := hD
        refine lv_aload_n hx hb dX8_byteOut_133 rfl (lv_at hl 1 rfl) ?_
        refine lv_bipush (v := 8) hx hb dX8_byteOut_134 (by decide) ?_
        refine va_put (D := (dC, dI)) (ci := 7) (v := .int 8) (ty := .int) (C := RX8) (T := TX8) (N := 31) hx hb hts hiX8 tyX8 tyX8_ok nmX8 hown hK hP hD hS 0 rfl rfl 29 (by decide) (hts (.fieldLink RX8 119 "RefineRegionsModel" "t" "I") (by decide +kernel)) (fun _ h9 => h9) rfl (by decide +kernel) rfl rfl (Nat.le_of_ble_eq_true rfl) dX8_byteOut_136 (fun H locs hP hD hS => ?_)
        have hP : va_P (dC, dI) vwCl [(m0, .inr (7, [.int th, .ref m1, .int (nI w), .int (nI h), .int tp, .int ty, .ref m2, .ref m3, .int sf, .int rdg, .int rt, .int (nI rwd), .int (nI rht), .ref m4, .int dx, .int dy, .int p0, .int q0, .int p1, .int q1, .int kp, .ref m5, .ref m6, .int (nI (k + 1)), .int (nI sk), .int (nI tr), .int (nI co), .long (lN wa), .long (lN ((wc - 134217728) % 524288)), .int 8, .int (nI b)])), (m6, .inl (cI, 4200, .inl (upd (upd f (k - 1) (f (k - 1) + 1)) k (nI ((wc - 134217728) / 524288)))))] H := hP
        have hD : va_D A [(m0, .inr (7, [.int th, .ref m1, .int (nI w), .int (nI h), .int tp, .int ty, .ref m2, .ref m3, .int sf, .int rdg, .int rt, .int (nI rwd), .int (nI rht), .ref m4, .int dx, .int dy, .int p0, .int q0, .int p1, .int q1, .int kp, .ref m5, .ref m6, .int (nI (k + 1)), .int (nI sk), .int (nI tr), .int (nI co), .long (lN wa), .long (lN ((wc - 134217728) % 524288)), .int 8, .int (nI b)])), (m6, .inl (cI, 4200, .inl (upd (upd f (k - 1) (f (k - 1) + 1)) k (nI ((wc - 134217728) / 524288)))))] := hD
        have hP9 : va_P (dC, dI) vwCl ((fun _ : Unit => [(m0, .inr (7, [.int th, .ref m1, .int (nI w), .int (nI h), .int tp, .int ty, .ref m2, .ref m3, .int sf, .int rdg, .int rt, .int (nI rwd), .int (nI rht), .ref m4, .int dx, .int dy, .int p0, .int q0, .int p1, .int q1, .int kp, .ref m5, .ref m6, .int (nI ((sp_bo wc k f).2.2.1)), .int (nI sk), .int (nI tr), .int (nI co), .long (lN wa), .long (lN ((sp_bo wc k f).1)), .int (nI ((sp_bo wc k f).2.1)), .int (nI b)])), (m6, .inl (cI, 4200, .inl ((sp_bo wc k f).2.2.2)))]) ()) H := by
          rw [sp_bo_d hk9 c_7 (by rw [lg_cmp_lt, show (134217728 : Int64) = lN 134217728 from rfl, pk_lLT (by omega) (by omega)] at c_28; exact c_28) c_65]
          exact hP
        have hD9 : va_D A ((fun _ : Unit => [(m0, .inr (7, [.int th, .ref m1, .int (nI w), .int (nI h), .int tp, .int ty, .ref m2, .ref m3, .int sf, .int rdg, .int rt, .int (nI rwd), .int (nI rht), .ref m4, .int dx, .int dy, .int p0, .int q0, .int p1, .int q1, .int kp, .ref m5, .ref m6, .int (nI ((sp_bo wc k f).2.2.1)), .int (nI sk), .int (nI tr), .int (nI co), .long (lN wa), .long (lN ((sp_bo wc k f).1)), .int (nI ((sp_bo wc k f).2.1)), .int (nI b)])), (m6, .inl (cI, 4200, .inl ((sp_bo wc k f).2.2.2)))]) ()) := by
          rw [sp_bo_d hk9 c_7 (by rw [lg_cmp_lt, show (134217728 : Int64) = lN 134217728 from rfl, pk_lLT (by omega) (by omega)] at c_28; exact c_28) c_65]
          exact hD
        exact W.vret hx hb hr (fun t ht hW => ⟨⟨(), rfl, trivial, by rw [ht]; exact hP9, va_K.moved hW.alike hK, hD9⟩, hS.F ht⟩) hS.2.2 dX8_byteOut_139
      · refine lv_iconst (v := 1) hx hb dX8_byteOut_68 (by decide) ?_
        refine lv_goto (tgt := 73) hx hb dX8_byteOut_69 (by decide) ?_
        refine lv_istore_n (lv' := [(1, .int 1), (0, .ref m0)]) hx hb dX8_byteOut_73 rfl hl (by decide) rfl (fun ls hl => ?_)
        refine lv_iload_n hx hb dX8_byteOut_74 rfl (lv_at hl 0 rfl) ?_
        refine lv_if_eq (tgt := 110) hx hb dX8_byteOut_75 (by decide) (fun c9 => absurd c9 (by decide)) (fun _ => ?_)
        refine lv_aload_n hx hb dX8_byteOut_78 rfl (lv_at hl 1 rfl) ?_
        refine lv_aload_n hx hb dX8_byteOut_79 rfl (lv_at hl 1 rfl) ?_
        refine va_get (D := (dC, dI)) (ci := 7) (v := .long (lN (wc - 134217728))) (C := RX8) (T := TX8) (N := 31) hx hb hts hiX8 hown hK hP 0 rfl rfl 28 (by decide) (hts (.fieldLink RX8 107 "RefineRegionsModel" "c" "J") (by decide +kernel)) (fun _ h9 => h9) rfl dX8_byteOut_80 ?_
        refine lv_bipush (v := 20) hx hb dX8_byteOut_83 (by decide) ?_
        refine lv_lshr (v := (lN (wc - 134217728)) >>> ((20 : Int32).toInt64 &&& 63)) hx hb dX8_byteOut_85 rfl ?_
        refine hw_l (y := lN ((wc - 134217728) / 1048576)) (sp_shr20 (by omega)) ?_
        refine hw_callv (wr := []) (w2 := fun _ : Unit => [(m0, .inr (7, [.int th, .ref m1, .int (nI w), .int (nI h), .int tp, .int ty, .ref m2, .ref m3, .int sf, .int rdg, .int rt, .int (nI rwd), .int (nI rht), .ref m4, .int dx, .int dy, .int p0, .int q0, .int p1, .int q1, .int kp, .ref m5, .ref m6, .int (nI (k + 1)), .int (nI sk), .int (nI tr), .int (nI co), .long (lN wa), .long (lN (wc - 134217728)), .int (nI wt), .int (nI b)])), (m6, .inl (cI, 4200, .inl (upd (upd f (k - 1) (f (k - 1) + 1)) k (lN ((wc - 134217728) / 1048576)).toInt32)))]) (va_runV (As := [.long (lN ((wc - 134217728) / 1048576))]) (rest := []) ⟨hx, hb, hml, hown, hts⟩ (c_X8_out l dC dI cI cZ cJ m0 m1 m2 m3 m4 m5 m6 th tp ty sf rdg rt dx dy p0 q0 p1 q1 kp w h rwd rht k sk tr co b (lN wa) (lN (wc - 134217728)) (nI wt) (upd f (k - 1) (f (k - 1) + 1)) (lN ((wc - 134217728) / 1048576)) (hk0) H.size) (cwV 1 hts gX8_byteOut_X8_out rfl rfl rfl (by decide +kernel) ⟨Nat.le_of_ble_eq_true rfl, Nat.le_of_ble_eq_true rfl⟩) (hw_preV hP hD hS hA hk [0, 1] (by decide) rfl (ci := 7) (q0 := 0) rfl rfl) rfl rfl hl.1 rfl (lv_room (Nat.le_of_ble_eq_true rfl)) dX8_byteOut_86 ⟨Nat.le_of_ble_eq_true rfl, Nat.le_of_ble_eq_true rfl⟩) hP hD hS hA [0, 1] [] [0, 1] rfl rfl (by decide) (by decide) (by decide) (fun _ => rfl) (fun u_86 H locs hw hP hD hS => ?_)
        have hP : va_P (dC, dI) vwCl [(m0, .inr (7, [.int th, .ref m1, .int (nI w), .int (nI h), .int tp, .int ty, .ref m2, .ref m3, .int sf, .int rdg, .int rt, .int (nI rwd), .int (nI rht), .ref m4, .int dx, .int dy, .int p0, .int q0, .int p1, .int q1, .int kp, .ref m5, .ref m6, .int (nI (k + 1)), .int (nI sk), .int (nI tr), .int (nI co), .long (lN wa), .long (lN (wc - 134217728)), .int (nI wt), .int (nI b)])), (m6, .inl (cI, 4200, .inl (upd (upd f (k - 1) (f (k - 1) + 1)) k (lN ((wc - 134217728) / 1048576)).toInt32)))] H := hP
        have hD : va_D A [(m0, .inr (7, [.int th, .ref m1, .int (nI w), .int (nI h), .int tp, .int ty, .ref m2, .ref m3, .int sf, .int rdg, .int rt, .int (nI rwd), .int (nI rht), .ref m4, .int dx, .int dy, .int p0, .int q0, .int p1, .int q1, .int kp, .ref m5, .ref m6, .int (nI (k + 1)), .int (nI sk), .int (nI tr), .int (nI co), .long (lN wa), .long (lN (wc - 134217728)), .int (nI wt), .int (nI b)])), (m6, .inl (cI, 4200, .inl (upd (upd f (k - 1) (f (k - 1) + 1)) k (lN ((wc - 134217728) / 1048576)).toInt32)))] := hD
        have eA : upd (upd f (k - 1) (f (k - 1) + 1)) k (lN ((wc - 134217728) / 1048576)).toInt32 = upd (upd f (k - 1) (f (k - 1) + 1)) k (nI ((wc - 134217728) / 1048576)) := by rw [lN_i]
        rw [eA] at hP hD
        have hP : va_P (dC, dI) vwCl [(m0, .inr (7, [.int th, .ref m1, .int (nI w), .int (nI h), .int tp, .int ty, .ref m2, .ref m3, .int sf, .int rdg, .int rt, .int (nI rwd), .int (nI rht), .ref m4, .int dx, .int dy, .int p0, .int q0, .int p1, .int q1, .int kp, .ref m5, .ref m6, .int (nI (k + 1)), .int (nI sk), .int (nI tr), .int (nI co), .long (lN wa), .long (lN (wc - 134217728)), .int (nI wt), .int (nI b)])), (m6, .inl (cI, 4200, .inl (upd (upd f (k - 1) (f (k - 1) + 1)) k (nI ((wc - 134217728) / 1048576)))))] H := hP
        have hD : va_D A [(m0, .inr (7, [.int th, .ref m1, .int (nI w), .int (nI h), .int tp, .int ty, .ref m2, .ref m3, .int sf, .int rdg, .int rt, .int (nI rwd), .int (nI rht), .ref m4, .int dx, .int dy, .int p0, .int q0, .int p1, .int q1, .int kp, .ref m5, .ref m6, .int (nI (k + 1)), .int (nI sk), .int (nI tr), .int (nI co), .long (lN wa), .long (lN (wc - 134217728)), .int (nI wt), .int (nI b)])), (m6, .inl (cI, 4200, .inl (upd (upd f (k - 1) (f (k - 1) + 1)) k (nI ((wc - 134217728) / 1048576)))))] := hD
        refine lv_aload_n hx hb dX8_byteOut_89 rfl (lv_at hl 1 rfl) ?_
        refine lv_aload_n hx hb dX8_byteOut_90 rfl (lv_at hl 1 rfl) ?_
        refine va_get (D := (dC, dI)) (ci := 7) (v := .long (lN (wc - 134217728))) (C := RX8) (T := TX8) (N := 31) hx hb hts hiX8 hown hK hP 0 rfl rfl 28 (by decide) (hts (.fieldLink RX8 107 "RefineRegionsModel" "c" "J") (by decide +kernel)) (fun _ h9 => h9) rfl dX8_byteOut_91 ?_
        refine lv_ldc2 (v := 1048575) hx hb hown (hts (.constantLong RX8 117 (1048575)) (by decide +kernel)) dX8_byteOut_94 ?_
        refine lv_land hx hb dX8_byteOut_97 ?_
        refine hw_l (y := lN ((wc - 134217728) % 1048576)) (sp_m20 (by omega)) ?_
        refine va_put (D := (dC, dI)) (ci := 7) (v := .long (lN ((wc - 134217728) % 1048576))) (ty := .long) (C := RX8) (T := TX8) (N := 31) hx hb hts hiX8 tyX8 tyX8_ok nmX8 hown hK hP hD hS 0 rfl rfl 28 (by decide) (hts (.fieldLink RX8 107 "RefineRegionsModel" "c" "J") (by decide +kernel)) (fun _ h9 => h9) rfl (by decide +kernel) rfl rfl (Nat.le_of_ble_eq_true rfl) dX8_byteOut_98 (fun H locs hP hD hS => ?_)
        have hP : va_P (dC, dI) vwCl [(m0, .inr (7, [.int th, .ref m1, .int (nI w), .int (nI h), .int tp, .int ty, .ref m2, .ref m3, .int sf, .int rdg, .int rt, .int (nI rwd), .int (nI rht), .ref m4, .int dx, .int dy, .int p0, .int q0, .int p1, .int q1, .int kp, .ref m5, .ref m6, .int (nI (k + 1)), .int (nI sk), .int (nI tr), .int (nI co), .long (lN wa), .long (lN ((wc - 134217728) % 1048576)), .int (nI wt), .int (nI b)])), (m6, .inl (cI, 4200, .inl (upd (upd f (k - 1) (f (k - 1) + 1)) k (nI ((wc - 134217728) / 1048576)))))] H := hP
        have hD : va_D A [(m0, .inr (7, [.int th, .ref m1, .int (nI w), .int (nI h), .int tp, .int ty, .ref m2, .ref m3, .int sf, .int rdg, .int rt, .int (nI rwd), .int (nI rht), .ref m4, .int dx, .int dy, .int p0, .int q0, .int p1, .int q1, .int kp, .ref m5, .ref m6, .int (nI (k + 1)), .int (nI sk), .int (nI tr), .int (nI co), .long (lN wa), .long (lN ((wc - 134217728) % 1048576)), .int (nI wt), .int (nI b)])), (m6, .inl (cI, 4200, .inl (upd (upd f (k - 1) (f (k - 1) + 1)) k (nI ((wc - 134217728) / 1048576)))))] := hD
        refine lv_aload_n hx hb dX8_byteOut_101 rfl (lv_at hl 1 rfl) ?_
        refine lv_bipush (v := 7) hx hb dX8_byteOut_102 (by decide) ?_
        refine va_put (D := (dC, dI)) (ci := 7) (v := .int 7) (ty := .int) (C := RX8) (T := TX8) (N := 31) hx hb hts hiX8 tyX8 tyX8_ok nmX8 hown hK hP hD hS 0 rfl rfl 29 (by decide) (hts (.fieldLink RX8 119 "RefineRegionsModel" "t" "I") (by decide +kernel)) (fun _ h9 => h9) rfl (by decide +kernel) rfl rfl (Nat.le_of_ble_eq_true rfl) dX8_byteOut_104 (fun H locs hP hD hS => ?_)
        have hP : va_P (dC, dI) vwCl [(m0, .inr (7, [.int th, .ref m1, .int (nI w), .int (nI h), .int tp, .int ty, .ref m2, .ref m3, .int sf, .int rdg, .int rt, .int (nI rwd), .int (nI rht), .ref m4, .int dx, .int dy, .int p0, .int q0, .int p1, .int q1, .int kp, .ref m5, .ref m6, .int (nI (k + 1)), .int (nI sk), .int (nI tr), .int (nI co), .long (lN wa), .long (lN ((wc - 134217728) % 1048576)), .int 7, .int (nI b)])), (m6, .inl (cI, 4200, .inl (upd (upd f (k - 1) (f (k - 1) + 1)) k (nI ((wc - 134217728) / 1048576)))))] H := hP
        have hD : va_D A [(m0, .inr (7, [.int th, .ref m1, .int (nI w), .int (nI h), .int tp, .int ty, .ref m2, .ref m3, .int sf, .int rdg, .int rt, .int (nI rwd), .int (nI rht), .ref m4, .int dx, .int dy, .int p0, .int q0, .int p1, .int q1, .int kp, .ref m5, .ref m6, .int (nI (k + 1)), .int (nI sk), .int (nI tr), .int (nI co), .long (lN wa), .long (lN ((wc - 134217728) % 1048576)), .int 7, .int (nI b)])), (m6, .inl (cI, 4200, .inl (upd (upd f (k - 1) (f (k - 1) + 1)) k (nI ((wc - 134217728) / 1048576)))))] := hD
        refine lv_goto (tgt := 139) hx hb dX8_byteOut_107 (by decide) ?_
        have hP9 : va_P (dC, dI) vwCl ((fun _ : Unit => [(m0, .inr (7, [.int th, .ref m1, .int (nI w), .int (nI h), .int tp, .int ty, .ref m2, .ref m3, .int sf, .int rdg, .int rt, .int (nI rwd), .int (nI rht), .ref m4, .int dx, .int dy, .int p0, .int q0, .int p1, .int q1, .int kp, .ref m5, .ref m6, .int (nI ((sp_bo wc k f).2.2.1)), .int (nI sk), .int (nI tr), .int (nI co), .long (lN wa), .long (lN ((sp_bo wc k f).1)), .int (nI ((sp_bo wc k f).2.1)), .int (nI b)])), (m6, .inl (cI, 4200, .inl ((sp_bo wc k f).2.2.2)))]) ()) H := by
          rw [sp_bo_c hk9 c_7 (by rw [lg_cmp_lt, show (134217728 : Int64) = lN 134217728 from rfl, pk_lLT (by omega) (by omega)] at c_28; exact c_28) c_65]
          exact hP
        have hD9 : va_D A ((fun _ : Unit => [(m0, .inr (7, [.int th, .ref m1, .int (nI w), .int (nI h), .int tp, .int ty, .ref m2, .ref m3, .int sf, .int rdg, .int rt, .int (nI rwd), .int (nI rht), .ref m4, .int dx, .int dy, .int p0, .int q0, .int p1, .int q1, .int kp, .ref m5, .ref m6, .int (nI ((sp_bo wc k f).2.2.1)), .int (nI sk), .int (nI tr), .int (nI co), .long (lN wa), .long (lN ((sp_bo wc k f).1)), .int (nI ((sp_bo wc k f).2.1)), .int (nI b)])), (m6, .inl (cI, 4200, .inl ((sp_bo wc k f).2.2.2)))]) ()) := by
          rw [sp_bo_c hk9 c_7 (by rw [lg_cmp_lt, show (134217728 : Int64) = lN 134217728 from rfl, pk_lLT (by omega) (by omega)] at c_28; exact c_28) c_65]
          exact hD
        exact W.vret hx hb hr (fun t ht hW => ⟨⟨(), rfl, trivial, by rw [ht]; exact hP9, va_K.moved hW.alike hK, hD9⟩, hS.F ht⟩) hS.2.2 dX8_byteOut_139
  · refine lv_iconst (v := 1) hx hb dX8_byteOut_10 (by decide) ?_
    refine lv_goto (tgt := 15) hx hb dX8_byteOut_11 (by decide) ?_
    refine lv_istore_n (lv' := [(1, .int 1), (0, .ref m0)]) hx hb dX8_byteOut_15 rfl hl (by decide) rfl (fun ls hl => ?_)
    refine lv_iload_n hx hb dX8_byteOut_16 rfl (lv_at hl 0 rfl) ?_
    refine lv_if_ne (tgt := 74) hx hb dX8_byteOut_17 (by decide) (fun _ => ?_) (fun c9 => absurd c9 (by decide))
    refine lv_iload_n hx hb dX8_byteOut_74 rfl (lv_at hl 0 rfl) ?_
    refine lv_if_eq (tgt := 110) hx hb dX8_byteOut_75 (by decide) (fun c9 => absurd c9 (by decide)) (fun _ => ?_)
    refine lv_aload_n hx hb dX8_byteOut_78 rfl (lv_at hl 1 rfl) ?_
    refine lv_aload_n hx hb dX8_byteOut_79 rfl (lv_at hl 1 rfl) ?_
    refine va_get (D := (dC, dI)) (ci := 7) (v := .long (lN wc)) (C := RX8) (T := TX8) (N := 31) hx hb hts hiX8 hown hK hP 0 rfl rfl 28 (by decide) (hts (.fieldLink RX8 107 "RefineRegionsModel" "c" "J") (by decide +kernel)) (fun _ h9 => h9) rfl dX8_byteOut_80 ?_
    refine lv_bipush (v := 20) hx hb dX8_byteOut_83 (by decide) ?_
    refine lv_lshr (v := (lN wc) >>> ((20 : Int32).toInt64 &&& 63)) hx hb dX8_byteOut_85 rfl ?_
    refine hw_l (y := lN (wc / 1048576)) (sp_shr20 (by omega)) ?_
    refine hw_callv (wr := []) (w2 := fun _ : Unit => [(m0, .inr (7, [.int th, .ref m1, .int (nI w), .int (nI h), .int tp, .int ty, .ref m2, .ref m3, .int sf, .int rdg, .int rt, .int (nI rwd), .int (nI rht), .ref m4, .int dx, .int dy, .int p0, .int q0, .int p1, .int q1, .int kp, .ref m5, .ref m6, .int (nI (k + 1)), .int (nI sk), .int (nI tr), .int (nI co), .long (lN wa), .long (lN wc), .int (nI wt), .int (nI b)])), (m6, .inl (cI, 4200, .inl (upd f k (lN (wc / 1048576)).toInt32)))]) (va_runV (As := [.long (lN (wc / 1048576))]) (rest := []) ⟨hx, hb, hml, hown, hts⟩ (c_X8_out l dC dI cI cZ cJ m0 m1 m2 m3 m4 m5 m6 th tp ty sf rdg rt dx dy p0 q0 p1 q1 kp w h rwd rht k sk tr co b (lN wa) (lN wc) (nI wt) f (lN (wc / 1048576)) (hk0) s.heap.size) (cwV 1 hts gX8_byteOut_X8_out rfl rfl rfl (by decide +kernel) ⟨Nat.le_of_ble_eq_true rfl, Nat.le_of_ble_eq_true rfl⟩) (hw_preV hP hD hS hA hk [0, 1] (by decide) rfl (ci := 7) (q0 := 0) rfl rfl) rfl rfl hl.1 rfl (lv_room (Nat.le_of_ble_eq_true rfl)) dX8_byteOut_86 ⟨Nat.le_of_ble_eq_true rfl, Nat.le_of_ble_eq_true rfl⟩) hP hD hS hA [0, 1] [] [0, 1] rfl rfl (by decide) (by decide) (by decide) (fun _ => rfl) (fun u_86_2 H locs hw hP hD hS => ?_)
    have hP : va_P (dC, dI) vwCl [(m0, .inr (7, [.int th, .ref m1, .int (nI w), .int (nI h), .int tp, .int ty, .ref m2, .ref m3, .int sf, .int rdg, .int rt, .int (nI rwd), .int (nI rht), .ref m4, .int dx, .int dy, .int p0, .int q0, .int p1, .int q1, .int kp, .ref m5, .ref m6, .int (nI (k + 1)), .int (nI sk), .int (nI tr), .int (nI co), .long (lN wa), .long (lN wc), .int (nI wt), .int (nI b)])), (m6, .inl (cI, 4200, .inl (upd f k (lN (wc / 1048576)).toInt32)))] H := hP
    have hD : va_D A [(m0, .inr (7, [.int th, .ref m1, .int (nI w), .int (nI h), .int tp, .int ty, .ref m2, .ref m3, .int sf, .int rdg, .int rt, .int (nI rwd), .int (nI rht), .ref m4, .int dx, .int dy, .int p0, .int q0, .int p1, .int q1, .int kp, .ref m5, .ref m6, .int (nI (k + 1)), .int (nI sk), .int (nI tr), .int (nI co), .long (lN wa), .long (lN wc), .int (nI wt), .int (nI b)])), (m6, .inl (cI, 4200, .inl (upd f k (lN (wc / 1048576)).toInt32)))] := hD
    have eA : upd f k (lN (wc / 1048576)).toInt32 = upd f k (nI (wc / 1048576)) := by rw [lN_i]
    rw [eA] at hP hD
    have hP : va_P (dC, dI) vwCl [(m0, .inr (7, [.int th, .ref m1, .int (nI w), .int (nI h), .int tp, .int ty, .ref m2, .ref m3, .int sf, .int rdg, .int rt, .int (nI rwd), .int (nI rht), .ref m4, .int dx, .int dy, .int p0, .int q0, .int p1, .int q1, .int kp, .ref m5, .ref m6, .int (nI (k + 1)), .int (nI sk), .int (nI tr), .int (nI co), .long (lN wa), .long (lN wc), .int (nI wt), .int (nI b)])), (m6, .inl (cI, 4200, .inl (upd f k (nI (wc / 1048576)))))] H := hP
    have hD : va_D A [(m0, .inr (7, [.int th, .ref m1, .int (nI w), .int (nI h), .int tp, .int ty, .ref m2, .ref m3, .int sf, .int rdg, .int rt, .int (nI rwd), .int (nI rht), .ref m4, .int dx, .int dy, .int p0, .int q0, .int p1, .int q1, .int kp, .ref m5, .ref m6, .int (nI (k + 1)), .int (nI sk), .int (nI tr), .int (nI co), .long (lN wa), .long (lN wc), .int (nI wt), .int (nI b)])), (m6, .inl (cI, 4200, .inl (upd f k (nI (wc / 1048576)))))] := hD
    refine lv_aload_n hx hb dX8_byteOut_89 rfl (lv_at hl 1 rfl) ?_
    refine lv_aload_n hx hb dX8_byteOut_90 rfl (lv_at hl 1 rfl) ?_
    refine va_get (D := (dC, dI)) (ci := 7) (v := .long (lN wc)) (C := RX8) (T := TX8) (N := 31) hx hb hts hiX8 hown hK hP 0 rfl rfl 28 (by decide) (hts (.fieldLink RX8 107 "RefineRegionsModel" "c" "J") (by decide +kernel)) (fun _ h9 => h9) rfl dX8_byteOut_91 ?_
    refine lv_ldc2 (v := 1048575) hx hb hown (hts (.constantLong RX8 117 (1048575)) (by decide +kernel)) dX8_byteOut_94 ?_
    refine lv_land hx hb dX8_byteOut_97 ?_
    refine hw_l (y := lN (wc % 1048576)) (sp_m20 (by omega)) ?_
    refine va_put (D := (dC, dI)) (ci := 7) (v := .long (lN (wc % 1048576))) (ty := .long) (C := RX8) (T := TX8) (N := 31) hx hb hts hiX8 tyX8 tyX8_ok nmX8 hown hK hP hD hS 0 rfl rfl 28 (by decide) (hts (.fieldLink RX8 107 "RefineRegionsModel" "c" "J") (by decide +kernel)) (fun _ h9 => h9) rfl (by decide +kernel) rfl rfl (Nat.le_of_ble_eq_true rfl) dX8_byteOut_98 (fun H locs hP hD hS => ?_)
    have hP : va_P (dC, dI) vwCl [(m0, .inr (7, [.int th, .ref m1, .int (nI w), .int (nI h), .int tp, .int ty, .ref m2, .ref m3, .int sf, .int rdg, .int rt, .int (nI rwd), .int (nI rht), .ref m4, .int dx, .int dy, .int p0, .int q0, .int p1, .int q1, .int kp, .ref m5, .ref m6, .int (nI (k + 1)), .int (nI sk), .int (nI tr), .int (nI co), .long (lN wa), .long (lN (wc % 1048576)), .int (nI wt), .int (nI b)])), (m6, .inl (cI, 4200, .inl (upd f k (nI (wc / 1048576)))))] H := hP
    have hD : va_D A [(m0, .inr (7, [.int th, .ref m1, .int (nI w), .int (nI h), .int tp, .int ty, .ref m2, .ref m3, .int sf, .int rdg, .int rt, .int (nI rwd), .int (nI rht), .ref m4, .int dx, .int dy, .int p0, .int q0, .int p1, .int q1, .int kp, .ref m5, .ref m6, .int (nI (k + 1)), .int (nI sk), .int (nI tr), .int (nI co), .long (lN wa), .long (lN (wc % 1048576)), .int (nI wt), .int (nI b)])), (m6, .inl (cI, 4200, .inl (upd f k (nI (wc / 1048576)))))] := hD
    refine lv_aload_n hx hb dX8_byteOut_101 rfl (lv_at hl 1 rfl) ?_
    refine lv_bipush (v := 7) hx hb dX8_byteOut_102 (by decide) ?_
    refine va_put (D := (dC, dI)) (ci := 7) (v := .int 7) (ty := .int) (C := RX8) (T := TX8) (N := 31) hx hb hts hiX8 tyX8 tyX8_ok nmX8 hown hK hP hD hS 0 rfl rfl 29 (by decide) (hts (.fieldLink RX8 119 "RefineRegionsModel" "t" "I") (by decide +kernel)) (fun _ h9 => h9) rfl (by decide +kernel) rfl rfl (Nat.le_of_ble_eq_true rfl) dX8_byteOut_104 (fun H locs hP hD hS => ?_)
    have hP : va_P (dC, dI) vwCl [(m0, .inr (7, [.int th, .ref m1, .int (nI w), .int (nI h), .int tp, .int ty, .ref m2, .ref m3, .int sf, .int rdg, .int rt, .int (nI rwd), .int (nI rht), .ref m4, .int dx, .int dy, .int p0, .int q0, .int p1, .int q1, .int kp, .ref m5, .ref m6, .int (nI (k + 1)), .int (nI sk), .int (nI tr), .int (nI co), .long (lN wa), .long (lN (wc % 1048576)), .int 7, .int (nI b)])), (m6, .inl (cI, 4200, .inl (upd f k (nI (wc / 1048576)))))] H := hP
    have hD : va_D A [(m0, .inr (7, [.int th, .ref m1, .int (nI w), .int (nI h), .int tp, .int ty, .ref m2, .ref m3, .int sf, .int rdg, .int rt, .int (nI rwd), .int (nI rht), .ref m4, .int dx, .int dy, .int p0, .int q0, .int p1, .int q1, .int kp, .ref m5, .ref m6, .int (nI (k + 1)), .int (nI sk), .int (nI tr), .int (nI co), .long (lN wa), .long (lN (wc % 1048576)), .int 7, .int (nI b)])), (m6, .inl (cI, 4200, .inl (upd f k (nI (wc / 1048576)))))] := hD
    refine lv_goto (tgt := 139) hx hb dX8_byteOut_107 (by decide) ?_
    have hP9 : va_P (dC, dI) vwCl ((fun _ : Unit => [(m0, .inr (7, [.int th, .ref m1, .int (nI w), .int (nI h), .int tp, .int ty, .ref m2, .ref m3, .int sf, .int rdg, .int rt, .int (nI rwd), .int (nI rht), .ref m4, .int dx, .int dy, .int p0, .int q0, .int p1, .int q1, .int kp, .ref m5, .ref m6, .int (nI ((sp_bo wc k f).2.2.1)), .int (nI sk), .int (nI tr), .int (nI co), .long (lN wa), .long (lN ((sp_bo wc k f).1)), .int (nI ((sp_bo wc k f).2.1)), .int (nI b)])), (m6, .inl (cI, 4200, .inl ((sp_bo wc k f).2.2.2)))]) ()) H := by
      rw [sp_bo_a (by first | exact c_7 | exact Decidable.of_not_not c_7)]
      exact hP
    have hD9 : va_D A ((fun _ : Unit => [(m0, .inr (7, [.int th, .ref m1, .int (nI w), .int (nI h), .int tp, .int ty, .ref m2, .ref m3, .int sf, .int rdg, .int rt, .int (nI rwd), .int (nI rht), .ref m4, .int dx, .int dy, .int p0, .int q0, .int p1, .int q1, .int kp, .ref m5, .ref m6, .int (nI ((sp_bo wc k f).2.2.1)), .int (nI sk), .int (nI tr), .int (nI co), .long (lN wa), .long (lN ((sp_bo wc k f).1)), .int (nI ((sp_bo wc k f).2.1)), .int (nI b)])), (m6, .inl (cI, 4200, .inl ((sp_bo wc k f).2.2.2)))]) ()) := by
      rw [sp_bo_a (by first | exact c_7 | exact Decidable.of_not_not c_7)]
      exact hD
    exact W.vret hx hb hr (fun t ht hW => ⟨⟨(), rfl, trivial, by rw [ht]; exact hP9, va_K.moved hW.alike hK, hD9⟩, hS.F ht⟩) hS.2.2 dX8_byteOut_139

set_option maxHeartbeats 4000000 in
set_option maxRecDepth 100000 in
/-- renewWriting() -/
theorem c_X8_renewWriting (l : Launch) (dC : Nat → ClassId) (dI : Nat → Nat → Nat) (cI cZ cJ : ClassId) (m0 : Nat) (m1 : Nat) (m2 : Nat) (m3 : Nat) (m4 : Nat) (m5 : Nat) (m6 : Nat) (th : Int32) (tp : Int32) (ty : Int32) (sf : Int32) (rdg : Int32) (rt : Int32) (dx : Int32) (dy : Int32) (p0 : Int32) (q0 : Int32) (p1 : Int32) (q1 : Int32) (kp : Int32) (w : Nat) (h : Nat) (rwd : Nat) (rht : Nat) (k : Nat) (sk : Nat) (tr : Nat) (co : Nat) (b : Nat) (f : Nat → Int32) (wa : Nat) (wc : Nat) (wt : Nat) (K : Nat) (hI : sp_WI K (wa, wc, wt, k, f)) (ha0 : wa < 32768) (hK0 : K ≤ 27985) (sz : Nat) : Met l yX8_renewWriting wsX8_renewWriting ({ frames := 2, cells := 0, slots := 0, locals := 43 }) (hw_Pre (dC, dI) vwCl (ty3 cI cZ cJ) [(m0, .inr (7, [.int th, .ref m1, .int (nI w), .int (nI h), .int tp, .int ty, .ref m2, .ref m3, .int sf, .int rdg, .int rt, .int (nI rwd), .int (nI rht), .ref m4, .int dx, .int dy, .int p0, .int q0, .int p1, .int q1, .int kp, .ref m5, .ref m6, .int (nI k), .int (nI sk), .int (nI tr), .int (nI co), .long (lN wa), .long (lN wc), .int (nI wt), .int (nI b)])), (m6, .inl (cI, 4200, .inl f))] sz [.ref m0]) (va_Qv (fun _ : Unit => True) (hw_at (dC, dI) vwCl (ty3 cI cZ cJ) (fun _ : Unit => [(m0, .inr (7, [.int th, .ref m1, .int (nI w), .int (nI h), .int tp, .int ty, .ref m2, .ref m3, .int sf, .int rdg, .int rt, .int (nI rwd), .int (nI rht), .ref m4, .int dx, .int dy, .int p0, .int q0, .int p1, .int q1, .int kp, .ref m5, .ref m6, .int (nI ((sp_rn 15 (wa, wc, wt, k, f)).2.2.2.1)), .int (nI sk), .int (nI tr), .int (nI co), .long (lN ((sp_rn 15 (wa, wc, wt, k, f)).1)), .long (lN ((sp_rn 15 (wa, wc, wt, k, f)).2.1)), .int (nI ((sp_rn 15 (wa, wc, wt, k, f)).2.2.1)), .int (nI b)])), (m6, .inl (cI, 4200, .inl ((sp_rn 15 (wa, wc, wt, k, f)).2.2.2.2)))]) (va_A [(m0, .inr (7, [.int th, .ref m1, .int (nI w), .int (nI h), .int tp, .int ty, .ref m2, .ref m3, .int sf, .int rdg, .int rt, .int (nI rwd), .int (nI rht), .ref m4, .int dx, .int dy, .int p0, .int q0, .int p1, .int q1, .int kp, .ref m5, .ref m6, .int (nI k), .int (nI sk), .int (nI tr), .int (nI co), .long (lN wa), .long (lN wc), .int (nI wt), .int (nI b)])), (m6, .inl (cI, 4200, .inl f))] sz)) (va_A [(m0, .inr (7, [.int th, .ref m1, .int (nI w), .int (nI h), .int tp, .int ty, .ref m2, .ref m3, .int sf, .int rdg, .int rt, .int (nI rwd), .int (nI rht), .ref m4, .int dx, .int dy, .int p0, .int q0, .int p1, .int q1, .int kp, .ref m5, .ref m6, .int (nI k), .int (nI sk), .int (nI tr), .int (nI co), .long (lN wa), .long (lN wc), .int (nI wt), .int (nI b)])), (m6, .inl (cI, 4200, .inl f))] sz)) 0 0 (va_A [(m0, .inr (7, [.int th, .ref m1, .int (nI w), .int (nI h), .int tp, .int ty, .ref m2, .ref m3, .int sf, .int rdg, .int rt, .int (nI rwd), .int (nI rht), .ref m4, .int dx, .int dy, .int p0, .int q0, .int p1, .int q1, .int kp, .ref m5, .ref m6, .int (nI k), .int (nI sk), .int (nI tr), .int (nI co), .long (lN wa), .long (lN wc), .int (nI wt), .int (nI b)])), (m6, .inl (cI, 4200, .inl f))] sz) := by
  refine Met.ofW (cc := cX8_renewWriting) (maxL := 2) (ret := none) (by decide) rfl ?_
  intro pg ev s m args below meth cd s₁ B hml hv
  obtain ⟨rfl, hsz, hP, hK, hN, hZ, hD0⟩ := hv
  have hx := B.exec
  have hb := B.bytes
  have hr := B.returns
  have hts := atoms_spec (ws := wsX8_renewWriting) B.pre
  have hown : s.vm.findClass RX8 = some m.cls := findClass_of_methodNamed B.named
  have hlocks := B.notSynchronized
  subst hsz
  have hD := hD0.self (sz := s.heap.size)
  generalize hAe : va_A [(m0, .inr (7, [.int th, .ref m1, .int (nI w), .int (nI h), .int tp, .int ty, .ref m2, .ref m3, .int sf, .int rdg, .int rt, .int (nI rwd), .int (nI rht), .ref m4, .int dx, .int dy, .int p0, .int q0, .int p1, .int q1, .int kp, .ref m5, .ref m6, .int (nI k), .int (nI sk), .int (nI tr), .int (nI co), .long (lN wa), .long (lN wc), .int (nI wt), .int (nI b)])), (m6, .inl (cI, 4200, .inl f))] s.heap.size = A at hD hZ ⊢
  have hA : ∀ q : Nat, s.heap.size ≤ q → A q := fun q h => by rw [← hAe]; exact Or.inr h
  have hS : va_S A s.heap s.heap [] := va_S.rf
  have hk : hw_K (dC, dI) vwCl (ty3 cI cZ cJ) A s := ⟨hK, hN, hZ⟩
  have hiX8 : ∀ w ∈ u_ws RX8 TX8 31, w ∈ wsX8_renewWriting := by decide +kernel
  have hl := lv_entry ([.ref m0]) (n := 2) (Nat.le_of_ble_eq_true rfl)
  rw [lg_entry_eq]
  generalize (lg_sl ([.ref m0]) ++ List.replicate (2 - (lg_sl ([.ref m0])).length) Slot.unset).toArray = ls at hl ⊢
  have hl : lv_has ls 2 [(0, .ref m0)] := hl
  refine lv_iconst (v := 1) hx hb dX8_renewWriting_0 (by decide) ?_
  refine lv_istore_n (lv' := [(1, .int 1), (0, .ref m0)]) hx hb dX8_renewWriting_1 rfl hl (by decide) rfl (fun ls hl => ?_)
  have loop_2 : ∀ (fu : Nat) (mq : Nat) (wa1 : Nat) (wc1 : Nat) (wt1 : Nat) (k1 : Nat) (f1 : Nat → Int32), (sp_rn (mq + 1) (wa1, wc1, wt1, k1, f1) = sp_rn 15 (wa, wc, wt, k, f)) → (sp_WI (K + (14 - mq)) (wa1, wc1, wt1, k1, f1)) → (wa1 < 32768) → (32768 ≤ wa1 * 2 ^ (mq + 1)) → (mq ≤ 14) → (mq < fu) → ∀ (H : Heap) (locs : List Loc), va_P (dC, dI) vwCl [(m0, .inr (7, [.int th, .ref m1, .int (nI w), .int (nI h), .int tp, .int ty, .ref m2, .ref m3, .int sf, .int rdg, .int rt, .int (nI rwd), .int (nI rht), .ref m4, .int dx, .int dy, .int p0, .int q0, .int p1, .int q1, .int kp, .ref m5, .ref m6, .int (nI k1), .int (nI sk), .int (nI tr), .int (nI co), .long (lN wa1), .long (lN wc1), .int (nI wt1), .int (nI b)])), (m6, .inl (cI, 4200, .inl f1))] H → va_D A [(m0, .inr (7, [.int th, .ref m1, .int (nI w), .int (nI h), .int tp, .int ty, .ref m2, .ref m3, .int sf, .int rdg, .int rt, .int (nI rwd), .int (nI rht), .ref m4, .int dx, .int dy, .int p0, .int q0, .int p1, .int q1, .int kp, .ref m5, .ref m6, .int (nI k1), .int (nI sk), .int (nI tr), .int (nI co), .long (lN wa1), .long (lN wc1), .int (nI wt1), .int (nI b)])), (m6, .inl (cI, 4200, .inl f1))] → va_S A s.heap H locs → ∀ ls : Array Slot, lv_has ls 2 [(1, .int 1), (0, .ref m0)] → W pg l ev (headSpec wsX8_renewWriting ({ frames := 2, cells := 0, slots := 0, locals := 43 })).room s m ([.ref m0]).toArray below meth cd H locs 0 0 (MQ below (va_Qv (fun _ : Unit => True) (hw_at (dC, dI) vwCl (ty3 cI cZ cJ) (fun _ : Unit => [(m0, .inr (7, [.int th, .ref m1, .int (nI w), .int (nI h), .int tp, .int ty, .ref m2, .ref m3, .int sf, .int rdg, .int rt, .int (nI rwd), .int (nI rht), .ref m4, .int dx, .int dy, .int p0, .int q0, .int p1, .int q1, .int kp, .ref m5, .ref m6, .int (nI ((sp_rn 15 (wa, wc, wt, k, f)).2.2.2.1)), .int (nI sk), .int (nI tr), .int (nI co), .long (lN ((sp_rn 15 (wa, wc, wt, k, f)).1)), .long (lN ((sp_rn 15 (wa, wc, wt, k, f)).2.1)), .int (nI ((sp_rn 15 (wa, wc, wt, k, f)).2.2.1)), .int (nI b)])), (m6, .inl (cI, 4200, .inl ((sp_rn 15 (wa, wc, wt, k, f)).2.2.2.2)))]) A) A) ([.ref m0]).toArray s 0 0 A) (F0 m 2 ls []) := by
    intro fu
    induction fu with
    | zero =>
      intro mq wa1 wc1 wt1 k1 f1 he hI1 ha1 hp hm14 hm
      omega
    | succ fu ih_2 =>
      intro mq wa1 wc1 wt1 k1 f1 he hI1 ha1 hp hm14 hm H locs hP hD hS ls hl
      refine lv_iload_n hx hb dX8_renewWriting_2 rfl (lv_at hl 0 rfl) ?_
      refine lv_if_eq (tgt := 71) hx hb dX8_renewWriting_3 (by decide) (fun c9 => absurd c9 (by decide)) (fun _ => ?_)
      obtain ⟨g1, g2, g3, g4, g5, g6, g7⟩ := id hI1
      dsimp only at g1 g2 g3 g4 g5 g6 g7
      have g8 : (wc1 + wa1) * 2 ≤ (wc1 + wa1) * 2 ^ wt1 := Nat.mul_le_mul_left _ (by have := Nat.pow_le_pow_right (n := 2) (by decide) g3; omega)
      refine lv_aload_n hx hb dX8_renewWriting_6 rfl (lv_at hl 1 rfl) ?_
      refine lv_ldc2 (v := 2) hx hb hown (hts (.constantLong RX8 124 (2)) (by decide +kernel)) dX8_renewWriting_7 ?_
      refine lv_aload_n hx hb dX8_renewWriting_10 rfl (lv_at hl 1 rfl) ?_
      refine va_get (D := (dC, dI)) (ci := 7) (v := .long (lN wa1)) (C := RX8) (T := TX8) (N := 31) hx hb hts hiX8 hown hK hP 0 rfl rfl 27 (by decide) (hts (.fieldLink RX8 126 "RefineRegionsModel" "a" "J") (by decide +kernel)) (fun _ h9 => h9) rfl dX8_renewWriting_11 ?_
      refine lv_lmul hx hb dX8_renewWriting_14 ?_
      refine hw_l (y := lN (2 * wa1)) (by rw [show (2 : Int64) = lN 2 from rfl]; exact lN_mul _ _) ?_
      refine va_put (D := (dC, dI)) (ci := 7) (v := .long (lN (2 * wa1))) (ty := .long) (C := RX8) (T := TX8) (N := 31) hx hb hts hiX8 tyX8 tyX8_ok nmX8 hown hK hP hD hS 0 rfl rfl 27 (by decide) (hts (.fieldLink RX8 126 "RefineRegionsModel" "a" "J") (by decide +kernel)) (fun _ h9 => h9) rfl (by decide +kernel) rfl rfl (Nat.le_of_ble_eq_true rfl) dX8_renewWriting_15 (fun H locs hP hD hS => ?_)
      have hP : va_P (dC, dI) vwCl [(m0, .inr (7, [.int th, .ref m1, .int (nI w), .int (nI h), .int tp, .int ty, .ref m2, .ref m3, .int sf, .int rdg, .int rt, .int (nI rwd), .int (nI rht), .ref m4, .int dx, .int dy, .int p0, .int q0, .int p1, .int q1, .int kp, .ref m5, .ref m6, .int (nI k1), .int (nI sk), .int (nI tr), .int (nI co), .long (lN (2 * wa1)), .long (lN wc1), .int (nI wt1), .int (nI b)])), (m6, .inl (cI, 4200, .inl f1))] H := hP
      have hD : va_D A [(m0, .inr (7, [.int th, .ref m1, .int (nI w), .int (nI h), .int tp, .int ty, .ref m2, .ref m3, .int sf, .int rdg, .int rt, .int (nI rwd), .int (nI rht), .ref m4, .int dx, .int dy, .int p0, .int q0, .int p1, .int q1, .int kp, .ref m5, .ref m6, .int (nI k1), .int (nI sk), .int (nI tr), .int (nI co), .long (lN (2 * wa1)), .long (lN wc1), .int (nI wt1), .int (nI b)])), (m6, .inl (cI, 4200, .inl f1))] := hD
      refine lv_aload_n hx hb dX8_renewWriting_18 rfl (lv_at hl 1 rfl) ?_
      refine lv_ldc2 (v := 2) hx hb hown (hts (.constantLong RX8 124 (2)) (by decide +kernel)) dX8_renewWriting_19 ?_
      refine lv_aload_n hx hb dX8_renewWriting_22 rfl (lv_at hl 1 rfl) ?_
      refine va_get (D := (dC, dI)) (ci := 7) (v := .long (lN wc1)) (C := RX8) (T := TX8) (N := 31) hx hb hts hiX8 hown hK hP 0 rfl rfl 28 (by decide) (hts (.fieldLink RX8 107 "RefineRegionsModel" "c" "J") (by decide +kernel)) (fun _ h9 => h9) rfl dX8_renewWriting_23 ?_
      refine lv_lmul hx hb dX8_renewWriting_26 ?_
      refine hw_l (y := lN (2 * wc1)) (by rw [show (2 : Int64) = lN 2 from rfl]; exact lN_mul _ _) ?_
      refine va_put (D := (dC, dI)) (ci := 7) (v := .long (lN (2 * wc1))) (ty := .long) (C := RX8) (T := TX8) (N := 31) hx hb hts hiX8 tyX8 tyX8_ok nmX8 hown hK hP hD hS 0 rfl rfl 28 (by decide) (hts (.fieldLink RX8 107 "RefineRegionsModel" "c" "J") (by decide +kernel)) (fun _ h9 => h9) rfl (by decide +kernel) rfl rfl (Nat.le_of_ble_eq_true rfl) dX8_renewWriting_27 (fun H locs hP hD hS => ?_)
      have hP : va_P (dC, dI) vwCl [(m0, .inr (7, [.int th, .ref m1, .int (nI w), .int (nI h), .int tp, .int ty, .ref m2, .ref m3, .int sf, .int rdg, .int rt, .int (nI rwd), .int (nI rht), .ref m4, .int dx, .int dy, .int p0, .int q0, .int p1, .int q1, .int kp, .ref m5, .ref m6, .int (nI k1), .int (nI sk), .int (nI tr), .int (nI co), .long (lN (2 * wa1)), .long (lN (2 * wc1)), .int (nI wt1), .int (nI b)])), (m6, .inl (cI, 4200, .inl f1))] H := hP
      have hD : va_D A [(m0, .inr (7, [.int th, .ref m1, .int (nI w), .int (nI h), .int tp, .int ty, .ref m2, .ref m3, .int sf, .int rdg, .int rt, .int (nI rwd), .int (nI rht), .ref m4, .int dx, .int dy, .int p0, .int q0, .int p1, .int q1, .int kp, .ref m5, .ref m6, .int (nI k1), .int (nI sk), .int (nI tr), .int (nI co), .long (lN (2 * wa1)), .long (lN (2 * wc1)), .int (nI wt1), .int (nI b)])), (m6, .inl (cI, 4200, .inl f1))] := hD
      refine lv_aload_n hx hb dX8_renewWriting_30 rfl (lv_at hl 1 rfl) ?_
      refine lv_dup hx hb dX8_renewWriting_31 rfl ?_
      refine va_get (D := (dC, dI)) (ci := 7) (v := .int (nI wt1)) (C := RX8) (T := TX8) (N := 31) hx hb hts hiX8 hown hK hP 0 rfl rfl 29 (by decide) (hts (.fieldLink RX8 119 "RefineRegionsModel" "t" "I") (by decide +kernel)) (fun _ h9 => h9) rfl dX8_renewWriting_32 ?_
      refine lv_iconst (v := 1) hx hb dX8_renewWriting_35 (by decide) ?_
      refine lv_isub hx hb dX8_renewWriting_36 ?_
      refine hw_i (y := nI (wt1 - 1)) (by rw [show (1 : Int32) = nI 1 from rfl]; exact pk_sub g3) ?_
      refine va_put (D := (dC, dI)) (ci := 7) (v := .int (nI (wt1 - 1))) (ty := .int) (C := RX8) (T := TX8) (N := 31) hx hb hts hiX8 tyX8 tyX8_ok nmX8 hown hK hP hD hS 0 rfl rfl 29 (by decide) (hts (.fieldLink RX8 119 "RefineRegionsModel" "t" "I") (by decide +kernel)) (fun _ h9 => h9) rfl (by decide +kernel) rfl rfl (Nat.le_of_ble_eq_true rfl) dX8_renewWriting_37 (fun H locs hP hD hS => ?_)
      have hP : va_P (dC, dI) vwCl [(m0, .inr (7, [.int th, .ref m1, .int (nI w), .int (nI h), .int tp, .int ty, .ref m2, .ref m3, .int sf, .int rdg, .int rt, .int (nI rwd), .int (nI rht), .ref m4, .int dx, .int dy, .int p0, .int q0, .int p1, .int q1, .int kp, .ref m5, .ref m6, .int (nI k1), .int (nI sk), .int (nI tr), .int (nI co), .long (lN (2 * wa1)), .long (lN (2 * wc1)), .int (nI (wt1 - 1)), .int (nI b)])), (m6, .inl (cI, 4200, .inl f1))] H := hP
      have hD : va_D A [(m0, .inr (7, [.int th, .ref m1, .int (nI w), .int (nI h), .int tp, .int ty, .ref m2, .ref m3, .int sf, .int rdg, .int rt, .int (nI rwd), .int (nI rht), .ref m4, .int dx, .int dy, .int p0, .int q0, .int p1, .int q1, .int kp, .ref m5, .ref m6, .int (nI k1), .int (nI sk), .int (nI tr), .int (nI co), .long (lN (2 * wa1)), .long (lN (2 * wc1)), .int (nI (wt1 - 1)), .int (nI b)])), (m6, .inl (cI, 4200, .inl f1))] := hD
      refine lv_aload_n hx hb dX8_renewWriting_40 rfl (lv_at hl 1 rfl) ?_
      refine va_get (D := (dC, dI)) (ci := 7) (v := .int (nI (wt1 - 1))) (C := RX8) (T := TX8) (N := 31) hx hb hts hiX8 hown hK hP 0 rfl rfl 29 (by decide) (hts (.fieldLink RX8 119 "RefineRegionsModel" "t" "I") (by decide +kernel)) (fun _ h9 => h9) rfl dX8_renewWriting_41 ?_
      refine lv_if_ne (tgt := 51) hx hb dX8_renewWriting_44 (by decide) (fun c_44 => ?_) (fun c_44 => ?_)
      · refine lv_aload_n hx hb dX8_renewWriting_51 rfl (lv_at hl 1 rfl) ?_
        refine va_get (D := (dC, dI)) (ci := 7) (v := .long (lN (2 * wa1))) (C := RX8) (T := TX8) (N := 31) hx hb hts hiX8 hown hK hP 0 rfl rfl 27 (by decide) (hts (.fieldLink RX8 126 "RefineRegionsModel" "a" "J") (by decide +kernel)) (fun _ h9 => h9) rfl dX8_renewWriting_52 ?_
        refine lv_ldc2 (v := 32768) hx hb hown (hts (.constantLong RX8 132 (32768)) (by decide +kernel)) dX8_renewWriting_55 ?_
        refine W.lcmp hx hb dX8_renewWriting_58 ?_
        refine lv_if_ge (tgt := 66) hx hb dX8_renewWriting_59 (by decide) (fun c_59 => ?_) (fun c_59 => ?_)
        · have hl9 : ¬ 2 * wa1 < 32768 := by rw [lg_cmp_ge, show (32768 : Int64) = lN 32768 from rfl, pk_lLE (by omega) (by omega)] at c_59; omega
          have ht9 : ¬ wt1 = 1 := fun h9 => c_44 (by rw [nI_eq0 (by omega)]; omega)
          refine lv_iconst (v := 0) hx hb dX8_renewWriting_66 (by decide) ?_
          refine lv_istore_n (lv' := [(1, .int 0), (0, .ref m0)]) hx hb dX8_renewWriting_67 rfl hl (by decide) rfl (fun ls hl => ?_)
          refine lv_goto (tgt := 2) hx hb dX8_renewWriting_68 (by decide) ?_
          refine lv_iload_n hx hb dX8_renewWriting_2 rfl (lv_at hl 0 rfl) ?_
          refine lv_if_eq (tgt := 71) hx hb dX8_renewWriting_3 (by decide) (fun _ => ?_) (fun c9 => absurd (by decide) c9)
          have hP9 : va_P (dC, dI) vwCl ((fun _ : Unit => [(m0, .inr (7, [.int th, .ref m1, .int (nI w), .int (nI h), .int tp, .int ty, .ref m2, .ref m3, .int sf, .int rdg, .int rt, .int (nI rwd), .int (nI rht), .ref m4, .int dx, .int dy, .int p0, .int q0, .int p1, .int q1, .int kp, .ref m5, .ref m6, .int (nI ((sp_rn 15 (wa, wc, wt, k, f)).2.2.2.1)), .int (nI sk), .int (nI tr), .int (nI co), .long (lN ((sp_rn 15 (wa, wc, wt, k, f)).1)), .long (lN ((sp_rn 15 (wa, wc, wt, k, f)).2.1)), .int (nI ((sp_rn 15 (wa, wc, wt, k, f)).2.2.1)), .int (nI b)])), (m6, .inl (cI, 4200, .inl ((sp_rn 15 (wa, wc, wt, k, f)).2.2.2.2)))]) ()) H := by
            rw [← he, sp_rn_4 ht9 hl9]
            exact hP
          have hD9 : va_D A ((fun _ : Unit => [(m0, .inr (7, [.int th, .ref m1, .int (nI w), .int (nI h), .int tp, .int ty, .ref m2, .ref m3, .int sf, .int rdg, .int rt, .int (nI rwd), .int (nI rht), .ref m4, .int dx, .int dy, .int p0, .int q0, .int p1, .int q1, .int kp, .ref m5, .ref m6, .int (nI ((sp_rn 15 (wa, wc, wt, k, f)).2.2.2.1)), .int (nI sk), .int (nI tr), .int (nI co), .long (lN ((sp_rn 15 (wa, wc, wt, k, f)).1)), .long (lN ((sp_rn 15 (wa, wc, wt, k, f)).2.1)), .int (nI ((sp_rn 15 (wa, wc, wt, k, f)).2.2.1)), .int (nI b)])), (m6, .inl (cI, 4200, .inl ((sp_rn 15 (wa, wc, wt, k, f)).2.2.2.2)))]) ()) := by
            rw [← he, sp_rn_4 ht9 hl9]
            exact hD
          exact W.vret hx hb hr (fun t ht hW => ⟨⟨(), rfl, trivial, by rw [ht]; exact hP9, va_K.moved hW.alike hK, hD9⟩, hS.F ht⟩) hS.2.2 dX8_renewWriting_71
        · have hl9 : 2 * wa1 < 32768 := by rw [lg_cmp_ge, show (32768 : Int64) = lN 32768 from rfl, pk_lLE (by omega) (by omega)] at c_59; omega
          have hm9 : 1 ≤ mq := by
            rcases Nat.eq_zero_or_pos mq with h9 | h9
            · subst h9; omega
            · exact h9
          have ht9 : ¬ wt1 = 1 := fun h9 => c_44 (by rw [nI_eq0 (by omega)]; omega)
          refine lv_iconst (v := 1) hx hb dX8_renewWriting_62 (by decide) ?_
          refine lv_goto (tgt := 67) hx hb dX8_renewWriting_63 (by decide) ?_
          refine lv_istore_n (lv' := [(1, .int 1), (0, .ref m0)]) hx hb dX8_renewWriting_67 rfl hl (by decide) rfl (fun ls hl => ?_)
          refine lv_goto (tgt := 2) hx hb dX8_renewWriting_68 (by decide) ?_
          exact ih_2 (mq - 1) (2 * wa1) (2 * wc1) (wt1 - 1) k1 f1 (by rw [← sp_rn_2 ht9 hl9, show mq - 1 + 1 = mq by omega]; exact he) (by have q9 := sp_d1_WI hI1 ha1; rw [sp_d1, if_neg ht9] at q9; rw [show K + (14 - (mq - 1)) = K + (14 - mq) + 1 by omega]; exact q9) (hl9) (by rw [show mq - 1 + 1 = mq by omega]; rw [Nat.pow_succ] at hp; rw [Nat.mul_comm 2 wa1, Nat.mul_assoc, Nat.mul_comm 2]; exact hp) (by omega) (by omega) _ _ hP hD hS ls (lv_sub hl [0, 1] rfl)
      · have ht9 : wt1 = 1 := by rw [nI_eq0 (by omega)] at c_44; omega
        refine lv_aload_n hx hb dX8_renewWriting_47 rfl (lv_at hl 1 rfl) ?_
        refine hw_callv (wr := []) (w2 := fun _ : Unit => [(m0, .inr (7, [.int th, .ref m1, .int (nI w), .int (nI h), .int tp, .int ty, .ref m2, .ref m3, .int sf, .int rdg, .int rt, .int (nI rwd), .int (nI rht), .ref m4, .int dx, .int dy, .int p0, .int q0, .int p1, .int q1, .int kp, .ref m5, .ref m6, .int (nI ((sp_bo (2 * wc1) k1 f1).2.2.1)), .int (nI sk), .int (nI tr), .int (nI co), .long (lN (2 * wa1)), .long (lN ((sp_bo (2 * wc1) k1 f1).1)), .int (nI ((sp_bo (2 * wc1) k1 f1).2.1)), .int (nI b)])), (m6, .inl (cI, 4200, .inl ((sp_bo (2 * wc1) k1 f1).2.2.2)))]) (va_runV (As := []) (rest := []) ⟨hx, hb, hml, hown, hts⟩ (c_X8_byteOut l dC dI cI cZ cJ m0 m1 m2 m3 m4 m5 m6 th tp ty sf rdg rt dx dy p0 q0 p1 q1 kp w h rwd rht k1 sk tr co b f1 (2 * wa1) (2 * wc1) (wt1 - 1) (by omega) (by have := sp_WI_k hI1 (by omega); exact Nat.lt_trans this (by decide)) (fun h9 => by have q9 := g6 h9; omega) H.size) (cwV 0 hts gX8_renewWriting_X8_byteOut rfl rfl rfl (by decide +kernel) ⟨Nat.le_of_ble_eq_true rfl, Nat.le_of_ble_eq_true rfl⟩) (hw_preV hP hD hS hA hk [0, 1] (by decide) rfl (ci := 7) (q0 := 0) rfl rfl) rfl rfl hl.1 rfl (lv_room (Nat.le_of_ble_eq_true rfl)) dX8_renewWriting_48 ⟨Nat.le_of_ble_eq_true rfl, Nat.le_of_ble_eq_true rfl⟩) hP hD hS hA [0, 1] [] [0, 1] rfl rfl (by decide) (by decide) (by decide) (fun _ => rfl) (fun u_48 H locs hw hP hD hS => ?_)
        have hP : va_P (dC, dI) vwCl [(m0, .inr (7, [.int th, .ref m1, .int (nI w), .int (nI h), .int tp, .int ty, .ref m2, .ref m3, .int sf, .int rdg, .int rt, .int (nI rwd), .int (nI rht), .ref m4, .int dx, .int dy, .int p0, .int q0, .int p1, .int q1, .int kp, .ref m5, .ref m6, .int (nI ((sp_bo (2 * wc1) k1 f1).2.2.1)), .int (nI sk), .int (nI tr), .int (nI co), .long (lN (2 * wa1)), .long (lN ((sp_bo (2 * wc1) k1 f1).1)), .int (nI ((sp_bo (2 * wc1) k1 f1).2.1)), .int (nI b)])), (m6, .inl (cI, 4200, .inl ((sp_bo (2 * wc1) k1 f1).2.2.2)))] H := hP
        have hD : va_D A [(m0, .inr (7, [.int th, .ref m1, .int (nI w), .int (nI h), .int tp, .int ty, .ref m2, .ref m3, .int sf, .int rdg, .int rt, .int (nI rwd), .int (nI rht), .ref m4, .int dx, .int dy, .int p0, .int q0, .int p1, .int q1, .int kp, .ref m5, .ref m6, .int (nI ((sp_bo (2 * wc1) k1 f1).2.2.1)), .int (nI sk), .int (nI tr), .int (nI co), .long (lN (2 * wa1)), .long (lN ((sp_bo (2 * wc1) k1 f1).1)), .int (nI ((sp_bo (2 * wc1) k1 f1).2.1)), .int (nI b)])), (m6, .inl (cI, 4200, .inl ((sp_bo (2 * wc1) k1 f1).2.2.2)))] := hD
        refine lv_aload_n hx hb dX8_renewWriting_51 rfl (lv_at hl 1 rfl) ?_
        refine va_get (D := (dC, dI)) (ci := 7) (v := .long (lN (2 * wa1))) (C := RX8) (T := TX8) (N := 31) hx hb hts hiX8 hown hK hP 0 rfl rfl 27 (by decide) (hts (.fieldLink RX8 126 "RefineRegionsModel" "a" "J") (by decide +kernel)) (fun _ h9 => h9) rfl dX8_renewWriting_52 ?_
        refine lv_ldc2 (v := 32768) hx hb hown (hts (.constantLong RX8 132 (32768)) (by decide +kernel)) dX8_renewWriting_55 ?_
        refine W.lcmp hx hb dX8_renewWriting_58 ?_
        refine lv_if_ge (tgt := 66) hx hb dX8_renewWriting_59 (by decide) (fun c_59 => ?_) (fun c_59 => ?_)
        · have hl9 : ¬ 2 * wa1 < 32768 := by rw [lg_cmp_ge, show (32768 : Int64) = lN 32768 from rfl, pk_lLE (by omega) (by omega)] at c_59; omega
          refine lv_iconst (v := 0) hx hb dX8_renewWriting_66 (by decide) ?_
          refine lv_istore_n (lv' := [(1, .int 0), (0, .ref m0)]) hx hb dX8_renewWriting_67 rfl hl (by decide) rfl (fun ls hl => ?_)
          refine lv_goto (tgt := 2) hx hb dX8_renewWriting_68 (by decide) ?_
          refine lv_iload_n hx hb dX8_renewWriting_2 rfl (lv_at hl 0 rfl) ?_
          refine lv_if_eq (tgt := 71) hx hb dX8_renewWriting_3 (by decide) (fun _ => ?_) (fun c9 => absurd (by decide) c9)
          have hP9 : va_P (dC, dI) vwCl ((fun _ : Unit => [(m0, .inr (7, [.int th, .ref m1, .int (nI w), .int (nI h), .int tp, .int ty, .ref m2, .ref m3, .int sf, .int rdg, .int rt, .int (nI rwd), .int (nI rht), .ref m4, .int dx, .int dy, .int p0, .int q0, .int p1, .int q1, .int kp, .ref m5, .ref m6, .int (nI ((sp_rn 15 (wa, wc, wt, k, f)).2.2.2.1)), .int (nI sk), .int (nI tr), .int (nI co), .long (lN ((sp_rn 15 (wa, wc, wt, k, f)).1)), .long (lN ((sp_rn 15 (wa, wc, wt, k, f)).2.1)), .int (nI ((sp_rn 15 (wa, wc, wt, k, f)).2.2.1)), .int (nI b)])), (m6, .inl (cI, 4200, .inl ((sp_rn 15 (wa, wc, wt, k, f)).2.2.2.2)))]) ()) H := by
            rw [← he, sp_rn_3 ht9 hl9]
            exact hP
          have hD9 : va_D A ((fun _ : Unit => [(m0, .inr (7, [.int th, .ref m1, .int (nI w), .int (nI h), .int tp, .int ty, .ref m2, .ref m3, .int sf, .int rdg, .int rt, .int (nI rwd), .int (nI rht), .ref m4, .int dx, .int dy, .int p0, .int q0, .int p1, .int q1, .int kp, .ref m5, .ref m6, .int (nI ((sp_rn 15 (wa, wc, wt, k, f)).2.2.2.1)), .int (nI sk), .int (nI tr), .int (nI co), .long (lN ((sp_rn 15 (wa, wc, wt, k, f)).1)), .long (lN ((sp_rn 15 (wa, wc, wt, k, f)).2.1)), .int (nI ((sp_rn 15 (wa, wc, wt, k, f)).2.2.1)), .int (nI b)])), (m6, .inl (cI, 4200, .inl ((sp_rn 15 (wa, wc, wt, k, f)).2.2.2.2)))]) ()) := by
            rw [← he, sp_rn_3 ht9 hl9]
            exact hD
          exact W.vret hx hb hr (fun t ht hW => ⟨⟨(), rfl, trivial, by rw [ht]; exact hP9, va_K.moved hW.alike hK, hD9⟩, hS.F ht⟩) hS.2.2 dX8_renewWriting_71
        · have hl9 : 2 * wa1 < 32768 := by rw [lg_cmp_ge, show (32768 : Int64) = lN 32768 from rfl, pk_lLE (by omega) (by omega)] at c_59; omega
          have hm9 : 1 ≤ mq := by
            rcases Nat.eq_zero_or_pos mq with h9 | h9
            · subst h9; omega
            · exact h9
          refine lv_iconst (v := 1) hx hb dX8_renewWriting_62 (by decide) ?_
          refine lv_goto (tgt := 67) hx hb dX8_renewWriting_63 (by decide) ?_
          refine lv_istore_n (lv' := [(1, .int 1), (0, .ref m0)]) hx hb dX8_renewWriting_67 rfl hl (by decide) rfl (fun ls hl => ?_)
          refine lv_goto (tgt := 2) hx hb dX8_renewWriting_68 (by decide) ?_
          exact ih_2 (mq - 1) (2 * wa1) ((sp_bo (2 * wc1) k1 f1).1) ((sp_bo (2 * wc1) k1 f1).2.1) ((sp_bo (2 * wc1) k1 f1).2.2.1) ((sp_bo (2 * wc1) k1 f1).2.2.2) (by rw [← sp_rn_1 ht9 hl9, show mq - 1 + 1 = mq by omega]; exact he) (by have q9 := sp_d1_WI hI1 ha1; rw [sp_d1, if_pos ht9] at q9; rw [show K + (14 - (mq - 1)) = K + (14 - mq) + 1 by omega]; exact q9) (hl9) (by rw [show mq - 1 + 1 = mq by omega]; rw [Nat.pow_succ] at hp; rw [Nat.mul_comm 2 wa1, Nat.mul_assoc, Nat.mul_comm 2]; exact hp) (by omega) (by omega) _ _ hP hD hS ls (lv_sub hl [0, 1] rfl)
  exact loop_2 (15) 14 wa wc wt k f (rfl) (hI) (ha0) (by have q9 := hI.1; dsimp only at q9; omega) (Nat.le_refl _) (by omega) _ _ hP hD hS ls (lv_sub hl [0, 1] rfl)
